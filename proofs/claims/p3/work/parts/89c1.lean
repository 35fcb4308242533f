/-! TOTAL: written by vcg.py -/
set_option maxRecDepth 4000 in
set_option maxHeartbeats 8000000 in
theorem s_MO_readTexts {n : Nat} {s : mz_St} (hn : 8589934592 ≤ n) {t : mz_St}  (ci : NI s t) (i0 : (mz_gI t 0 48).toInt + (mz_gI s 0 60).toInt + 1 ≤ 24000) (i1 : (mz_gI t 0 51).toInt + (mz_gI s 0 60).toInt + 1 ≤ 48000) : Tp (f_MO_readTexts n t) (fun r => NI s r.2 ∧ (mz_gI r.2 0 48).toInt = (mz_gI t 0 48).toInt + (r.1).toInt ∧ 0 ≤ (r.1).toInt ∧ ((r.1).toInt ≤ (mz_gI s 0 60).toInt + 1) ∧ (mz_gI r.2 0 51).toInt ≤ (mz_gI t 0 51).toInt + (mz_gI s 0 60).toInt + 1 ∧ (mz_gI t 0 51).toInt ≤ (mz_gI r.2 0 51).toInt) := by
  unfold f_MO_readTexts
  have b6277 := NI_g21 ci (c := 0) (p := 48) rfl
  have b6278 := NI_g22 ci (c := 0) (p := 51) rfl
  have l6279 : ((0 : Int32)).toInt = 0 := rfl
  have b6280 := NI_g24 ci (c := 0) (p := 61) rfl
  have b6281 := NI_13 ci (c := 0) (p := 60) rfl
  have b6282 := ci.1.2
  refine Tp_mo (l_MO_readTexts_15 hn ((mz_gI t 0 48).toInt) ((mz_gI t 0 51).toInt) ((mz_gI t 0 61).toInt) n (0 : Int32) (0 : Int32) (mz_gI t 0 61) (mz_gI t 0 61) t ci (by omega) (by omega) (by omega) (by omega) (by omega) (by omega) (by omega) (by omega) (by omega) (by omega) (by omega) (by omega) (by omega)) (fun q6283 h6284 => ?_)
  obtain ⟨ci6285, p6286, p6287, p6288, p6289, p6290⟩ := h6284
  have b6291 := NI_g21 ci6285 (c := 0) (p := 48) rfl
  have b6292 := NI_g22 ci6285 (c := 0) (p := 51) rfl
  have b6293 := NI_g24 ci6285 (c := 0) (p := 61) rfl
  have b6294 := NI_g2 ci6285 (c := 0) (p := 62) rfl
  have b6295 := NI_g2 ci (c := 0) (p := 62) rfl
  have i6296 := ti_rg q6283.1
  refine ⟨ci6285, ?_, ?_, ?_, ?_, ?_⟩
  · (try dsimp only) <;> first | omega | assumption
  · (try dsimp only) <;> first | omega | assumption
  · (try dsimp only) <;> first | omega | assumption
  · (try dsimp only) <;> first | omega | assumption
  · (try dsimp only) <;> first | omega | assumption
