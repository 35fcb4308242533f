/-! TOTAL: written by vcg.py -/
set_option maxRecDepth 4000 in
set_option maxHeartbeats 8000000 in
theorem s_MO_openIf {n : Nat} {L : Int32} (hn : 8589934592 ≤ n) {x1 : Int32} {x2 : Int32} {t : mz_St}  (ci : HI L t) (i0 : (((mz_gI t 0 34).toInt ≤ 1 ∧ (mz_gI t 0 48).toInt ≤ 0) ∨ (2 ≤ (mz_gI t 0 34).toInt ∧ (mz_gI t 0 48).toInt ≤ 2390 + 310 * (mz_gI t 0 34).toInt))) (i1 : (((mz_gI t 0 34).toInt ≤ 1 ∧ (mz_gI t 0 51).toInt ≤ 0) ∨ (2 ≤ (mz_gI t 0 34).toInt ∧ (mz_gI t 0 51).toInt ≤ 3310 * (mz_gI t 0 34).toInt - 610))) (i2 : 1 ≤ (mz_gI t 0 34).toInt) : Tp (f_MO_openIf n x1 x2 t) (fun r => HI L r ∧ (0 < (mz_gI r 0 6).toInt ∨ (((mz_gI r 0 34).toInt ≤ 1 ∧ (mz_gI r 0 48).toInt ≤ 0) ∨ (2 ≤ (mz_gI r 0 34).toInt ∧ (mz_gI r 0 48).toInt ≤ 2390 + 310 * (mz_gI r 0 34).toInt))) ∧ (0 < (mz_gI r 0 6).toInt ∨ (((mz_gI r 0 34).toInt ≤ 1 ∧ (mz_gI r 0 51).toInt ≤ 0) ∨ (2 ≤ (mz_gI r 0 34).toInt ∧ (mz_gI r 0 51).toInt ≤ 3310 * (mz_gI r 0 34).toInt - 610))) ∧ (0 < (mz_gI r 0 6).toInt ∨ (mz_gI t 0 8).toInt ≤ (mz_gI r 0 8).toInt)) := by
  unfold f_MO_openIf
  have b1 := FX_0_34 (HI_FX ci)
  have b2 := FX_0_48 (HI_FX ci)
  have b3 := FX_0_51 (HI_FX ci)
  have b4 := FX_0_8 (HI_FX ci)
  refine Tp_if (fun h5 => ?_) (fun h5 => ?_)
  · have g6 := ti_q h5
    have b7 := FX_0_53 (HI_FX ci)
    have l8 : ((8 : Int32)).toInt = 8 := rfl
    have l11 : ((6 : Int32)).toInt = 6 := rfl
    have i12 := ti_rg (mz_gI t 0 63)
    refine Tp_bi (s_MO_failL hn ci (by omega) (t := t) (x1 := (6 : Int32)) (x2 := mz_gI t 0 63)) (fun q9 h10 => ?_)
    obtain ⟨ci13, E14, p15, p16⟩ := h10
    have b17 := HI_g29 ci13 (c := 0) (p := 6) rfl
    have b18 := FX_0_8 (HI_FX ci13)
    have b19 := HI_g29 ci (c := 0) (p := 6) rfl
    have b20 := HI_g23 ci13 (c := 0) (p := 60) rfl
    have e21 : (mz_gI q9 0 60).toInt = (mz_gI t 0 60).toInt := by rw [E14 _ _ (by simp)]
    have b22 := HI_g23 ci (c := 0) (p := 60) rfl
    refine Tp_so ?_
    have b23 := FX_0_34 (HI_FX ci13)
    have e24 : (mz_gI q9 0 34).toInt = (mz_gI t 0 34).toInt := by rw [E14 _ _ (by simp)]
    have b25 := FX_0_48 (HI_FX ci13)
    have e26 : (mz_gI q9 0 48).toInt = (mz_gI t 0 48).toInt := by rw [E14 _ _ (by simp)]
    have b27 := FX_0_51 (HI_FX ci13)
    have e28 : (mz_gI q9 0 51).toInt = (mz_gI t 0 51).toInt := by rw [E14 _ _ (by simp)]
    refine ⟨ci13, ?_, ?_, ?_⟩
    · (try dsimp only) <;> first | omega | assumption
    · (try dsimp only) <;> first | omega | assumption
    · (try dsimp only) <;> first | omega | assumption
  · have g29 := ti_nq h5
    have b30 := FX_0_53 (HI_FX ci)
    have l31 : ((8 : Int32)).toInt = 8 := rfl
    refine Tp_gd (ti_ix (by omega) (by omega)) ?_
    have b34 := ti_nb x1
    refine Tp_le (fun t32 E33 => ?_)
    have k36 := ti_cl (mz_gI t 0 53)
    have ci35 := HI_f38 ci E33 (by omega) (by omega)
    have b37 := FX_0_53 (HI_FX ci35)
    have e38 : (mz_gI t32 0 53).toInt = (mz_gI t 0 53).toInt := by rw [E33, gI_oth _ _ (by simp)]
    refine Tp_gd (ti_ix (by omega) (by omega)) ?_
    refine Tp_le (fun t39 E40 => ?_)
    have k42 := ti_cl (mz_gI t32 0 53)
    have ci41 := HI_f39 ci35 E40 (by omega) (by omega)
    have b43 := FX_0_53 (HI_FX ci41)
    have e44 : (mz_gI t39 0 53).toInt = (mz_gI t32 0 53).toInt := by rw [E40, gI_oth _ _ (by simp)]
    refine Tp_gd (ti_ix (by omega) (by omega)) ?_
    have b47 := ti_nb x2
    refine Tp_le (fun t45 E46 => ?_)
    have k49 := ti_cl (mz_gI t39 0 53)
    have ci48 := HI_f40 ci41 E46 (by omega) (by omega)
    have b50 := FX_0_53 (HI_FX ci48)
    have e51 : (mz_gI t45 0 53).toInt = (mz_gI t39 0 53).toInt := by rw [E46, gI_oth _ _ (by simp)]
    refine Tp_gd (ti_ix (by omega) (by omega)) ?_
    have b54 := ti_nb (0 : Int32)
    refine Tp_le (fun t52 E53 => ?_)
    have k56 := ti_cl (mz_gI t45 0 53)
    have ci55 := HI_f41 ci48 E53 (by omega) (by omega)
    have b57 := FX_0_53 (HI_FX ci55)
    have e58 : (mz_gI t52 0 53).toInt = (mz_gI t45 0 53).toInt := by rw [E53, gI_oth _ _ (by simp)]
    refine Tp_gd (ti_ix (by omega) (by omega)) ?_
    have i61 := ti_rg (mz_gI t52 0 63)
    have e62 : (mz_gI t52 0 63).toInt = (mz_gI t45 0 63).toInt := by rw [E53, gI_oth _ _ (by simp)]
    have i63 := ti_rg (mz_gI t45 0 63)
    have e64 : (mz_gI t45 0 63).toInt = (mz_gI t39 0 63).toInt := by rw [E46, gI_oth _ _ (by simp)]
    have i65 := ti_rg (mz_gI t39 0 63)
    have e66 : (mz_gI t39 0 63).toInt = (mz_gI t32 0 63).toInt := by rw [E40, gI_oth _ _ (by simp)]
    have i67 := ti_rg (mz_gI t32 0 63)
    have e68 : (mz_gI t32 0 63).toInt = (mz_gI t 0 63).toInt := by rw [E33, gI_oth _ _ (by simp)]
    have i69 := ti_rg (mz_gI t 0 63)
    refine Tp_le (fun t59 E60 => ?_)
    have k71 := ti_cl (mz_gI t52 0 53)
    have ci70 := HI_f42 ci55 E60
    have b74 := FX_0_53 (HI_FX ci70)
    have e75 : (mz_gI t59 0 53).toInt = (mz_gI t52 0 53).toInt := by rw [E60, gI_oth _ _ (by simp)]
    have l76 : ((1 : Int32)).toInt = 1 := rfl
    first | (have a77 : ((mz_gI t59 0 53) + (1 : Int32)).toInt = (mz_gI t59 0 53).toInt + ((1 : Int32)).toInt := ti_add (by omega) (by omega)) | (have a78 := ti_rg ((mz_gI t59 0 53) + (1 : Int32)))
    refine Tp_le (fun t72 E73 => ?_)
    have b80 := FX_0_34 (HI_FX ci70)
    have e81 : (mz_gI t59 0 34).toInt = (mz_gI t52 0 34).toInt := by rw [E60, gI_oth _ _ (by simp)]
    have b82 := FX_0_34 (HI_FX ci55)
    have e83 : (mz_gI t52 0 34).toInt = (mz_gI t45 0 34).toInt := by rw [E53, gI_oth _ _ (by simp)]
    have b84 := FX_0_34 (HI_FX ci48)
    have e85 : (mz_gI t45 0 34).toInt = (mz_gI t39 0 34).toInt := by rw [E46, gI_oth _ _ (by simp)]
    have b86 := FX_0_34 (HI_FX ci41)
    have e87 : (mz_gI t39 0 34).toInt = (mz_gI t32 0 34).toInt := by rw [E40, gI_oth _ _ (by simp)]
    have b88 := FX_0_34 (HI_FX ci35)
    have e89 : (mz_gI t32 0 34).toInt = (mz_gI t 0 34).toInt := by rw [E33, gI_oth _ _ (by simp)]
    first | (have a90 : ((mz_gI t59 0 34) - (1 : Int32)).toInt = (mz_gI t59 0 34).toInt - ((1 : Int32)).toInt := ti_sub (by omega) (by omega)) | (have a91 := ti_rg ((mz_gI t59 0 34) - (1 : Int32)))
    have k92 := ti_cl ((mz_gI t59 0 34) - (1 : Int32))
    have b93 := FX_30 (HI_FX ci70) ((mz_gI t59 0 34) - (1 : Int32)).toNatClampNeg
    try (have z94 := RC_top ci70.2 ((mz_gI t59 0 34) - (1 : Int32)).toNatClampNeg (by omega))
    have e95 : (mz_gI t59 30 ((mz_gI t59 0 34) - (1 : Int32)).toNatClampNeg).toInt = (mz_gI t52 30 ((mz_gI t59 0 34) - (1 : Int32)).toNatClampNeg).toInt := by rw [E60, gI_oth _ _ (by simp)]
    have b96 := FX_30 (HI_FX ci55) ((mz_gI t59 0 34) - (1 : Int32)).toNatClampNeg
    try (have z97 := RC_top ci55.2 ((mz_gI t59 0 34) - (1 : Int32)).toNatClampNeg (by omega))
    have e98 : (mz_gI t52 30 ((mz_gI t59 0 34) - (1 : Int32)).toNatClampNeg).toInt = (mz_gI t45 30 ((mz_gI t59 0 34) - (1 : Int32)).toNatClampNeg).toInt := by rw [E53, gI_oth _ _ (by simp)]
    have b99 := FX_30 (HI_FX ci48) ((mz_gI t59 0 34) - (1 : Int32)).toNatClampNeg
    try (have z100 := RC_top ci48.2 ((mz_gI t59 0 34) - (1 : Int32)).toNatClampNeg (by omega))
    have e101 : (mz_gI t45 30 ((mz_gI t59 0 34) - (1 : Int32)).toNatClampNeg).toInt = (mz_gI t39 30 ((mz_gI t59 0 34) - (1 : Int32)).toNatClampNeg).toInt := by rw [E46, gI_oth _ _ (by simp)]
    have b102 := FX_30 (HI_FX ci41) ((mz_gI t59 0 34) - (1 : Int32)).toNatClampNeg
    try (have z103 := RC_top ci41.2 ((mz_gI t59 0 34) - (1 : Int32)).toNatClampNeg (by omega))
    have e104 : (mz_gI t39 30 ((mz_gI t59 0 34) - (1 : Int32)).toNatClampNeg).toInt = (mz_gI t32 30 ((mz_gI t59 0 34) - (1 : Int32)).toNatClampNeg).toInt := by rw [E40, gI_oth _ _ (by simp)]
    have b105 := FX_30 (HI_FX ci35) ((mz_gI t59 0 34) - (1 : Int32)).toNatClampNeg
    try (have z106 := RC_top ci35.2 ((mz_gI t59 0 34) - (1 : Int32)).toNatClampNeg (by omega))
    have e107 : (mz_gI t32 30 ((mz_gI t59 0 34) - (1 : Int32)).toNatClampNeg).toInt = (mz_gI t 30 ((mz_gI t59 0 34) - (1 : Int32)).toNatClampNeg).toInt := by rw [E33, gI_oth _ _ (by simp)]
    have b108 := FX_30 (HI_FX ci) ((mz_gI t59 0 34) - (1 : Int32)).toNatClampNeg
    try (have z109 := RC_top ci.2 ((mz_gI t59 0 34) - (1 : Int32)).toNatClampNeg (by omega))
    have ci79 := HI_f53 ci70 E73 (by omega) (by omega) ((mz_gI t59 0 34) - (1 : Int32)).toNatClampNeg (by omega) (by omega)
    refine Tp_so ?_
    have b110 := HI_g29 ci79 (c := 0) (p := 6) rfl
    have e111 : (mz_gI t72 0 6).toInt = (mz_gI t59 0 6).toInt := by rw [E73, gI_oth _ _ (by simp)]
    have b112 := HI_g29 ci70 (c := 0) (p := 6) rfl
    have e113 : (mz_gI t59 0 6).toInt = (mz_gI t52 0 6).toInt := by rw [E60, gI_oth _ _ (by simp)]
    have b114 := HI_g29 ci55 (c := 0) (p := 6) rfl
    have e115 : (mz_gI t52 0 6).toInt = (mz_gI t45 0 6).toInt := by rw [E53, gI_oth _ _ (by simp)]
    have b116 := HI_g29 ci48 (c := 0) (p := 6) rfl
    have e117 : (mz_gI t45 0 6).toInt = (mz_gI t39 0 6).toInt := by rw [E46, gI_oth _ _ (by simp)]
    have b118 := HI_g29 ci41 (c := 0) (p := 6) rfl
    have e119 : (mz_gI t39 0 6).toInt = (mz_gI t32 0 6).toInt := by rw [E40, gI_oth _ _ (by simp)]
    have b120 := HI_g29 ci35 (c := 0) (p := 6) rfl
    have e121 : (mz_gI t32 0 6).toInt = (mz_gI t 0 6).toInt := by rw [E33, gI_oth _ _ (by simp)]
    have b122 := HI_g29 ci (c := 0) (p := 6) rfl
    have b123 := FX_0_8 (HI_FX ci79)
    have e124 : (mz_gI t72 0 8).toInt = (mz_gI t59 0 8).toInt := by rw [E73, gI_oth _ _ (by simp)]
    have b125 := FX_0_8 (HI_FX ci70)
    have e126 : (mz_gI t59 0 8).toInt = (mz_gI t52 0 8).toInt := by rw [E60, gI_oth _ _ (by simp)]
    have b127 := FX_0_8 (HI_FX ci55)
    have e128 : (mz_gI t52 0 8).toInt = (mz_gI t45 0 8).toInt := by rw [E53, gI_oth _ _ (by simp)]
    have b129 := FX_0_8 (HI_FX ci48)
    have e130 : (mz_gI t45 0 8).toInt = (mz_gI t39 0 8).toInt := by rw [E46, gI_oth _ _ (by simp)]
    have b131 := FX_0_8 (HI_FX ci41)
    have e132 : (mz_gI t39 0 8).toInt = (mz_gI t32 0 8).toInt := by rw [E40, gI_oth _ _ (by simp)]
    have b133 := FX_0_8 (HI_FX ci35)
    have e134 : (mz_gI t32 0 8).toInt = (mz_gI t 0 8).toInt := by rw [E33, gI_oth _ _ (by simp)]
    have b135 := FX_0_34 (HI_FX ci79)
    have e136 : (mz_gI t72 0 34).toInt = (mz_gI t59 0 34).toInt := by rw [E73, gI_oth _ _ (by simp)]
    have b137 := FX_0_48 (HI_FX ci79)
    have e138 : (mz_gI t72 0 48).toInt = (mz_gI t59 0 48).toInt := by rw [E73, gI_oth _ _ (by simp)]
    have b139 := FX_0_48 (HI_FX ci70)
    have e140 : (mz_gI t59 0 48).toInt = (mz_gI t52 0 48).toInt := by rw [E60, gI_oth _ _ (by simp)]
    have b141 := FX_0_48 (HI_FX ci55)
    have e142 : (mz_gI t52 0 48).toInt = (mz_gI t45 0 48).toInt := by rw [E53, gI_oth _ _ (by simp)]
    have b143 := FX_0_48 (HI_FX ci48)
    have e144 : (mz_gI t45 0 48).toInt = (mz_gI t39 0 48).toInt := by rw [E46, gI_oth _ _ (by simp)]
    have b145 := FX_0_48 (HI_FX ci41)
    have e146 : (mz_gI t39 0 48).toInt = (mz_gI t32 0 48).toInt := by rw [E40, gI_oth _ _ (by simp)]
    have b147 := FX_0_48 (HI_FX ci35)
    have e148 : (mz_gI t32 0 48).toInt = (mz_gI t 0 48).toInt := by rw [E33, gI_oth _ _ (by simp)]
    have b149 := FX_0_51 (HI_FX ci79)
    have e150 : (mz_gI t72 0 51).toInt = (mz_gI t59 0 51).toInt := by rw [E73, gI_oth _ _ (by simp)]
    have b151 := FX_0_51 (HI_FX ci70)
    have e152 : (mz_gI t59 0 51).toInt = (mz_gI t52 0 51).toInt := by rw [E60, gI_oth _ _ (by simp)]
    have b153 := FX_0_51 (HI_FX ci55)
    have e154 : (mz_gI t52 0 51).toInt = (mz_gI t45 0 51).toInt := by rw [E53, gI_oth _ _ (by simp)]
    have b155 := FX_0_51 (HI_FX ci48)
    have e156 : (mz_gI t45 0 51).toInt = (mz_gI t39 0 51).toInt := by rw [E46, gI_oth _ _ (by simp)]
    have b157 := FX_0_51 (HI_FX ci41)
    have e158 : (mz_gI t39 0 51).toInt = (mz_gI t32 0 51).toInt := by rw [E40, gI_oth _ _ (by simp)]
    have b159 := FX_0_51 (HI_FX ci35)
    have e160 : (mz_gI t32 0 51).toInt = (mz_gI t 0 51).toInt := by rw [E33, gI_oth _ _ (by simp)]
    refine ⟨ci79, ?_, ?_, ?_⟩
    · (try dsimp only) <;> first | omega | assumption
    · (try dsimp only) <;> first | omega | assumption
    · (try dsimp only) <;> first | omega | assumption
set_option maxRecDepth 4000 in
set_option maxHeartbeats 8000000 in
theorem s_MO_turn_195 {n : Nat} {L : Int32} (hn : 8589934592 ≤ n) {x3 : Int32} {x6 : Int32} {s1 : Int32} {s2 : Int32} {t : mz_St}  (ci : HI L t) (i0 : (((mz_gI t 0 34).toInt ≤ 1 ∧ (mz_gI t 0 48).toInt ≤ 0) ∨ (2 ≤ (mz_gI t 0 34).toInt ∧ (mz_gI t 0 48).toInt ≤ 2390 + 310 * (mz_gI t 0 34).toInt))) (i1 : (((mz_gI t 0 34).toInt ≤ 1 ∧ (mz_gI t 0 51).toInt ≤ 0) ∨ (2 ≤ (mz_gI t 0 34).toInt ∧ (mz_gI t 0 51).toInt ≤ 3310 * (mz_gI t 0 34).toInt - 610))) (i2 : 1 ≤ (mz_gI t 0 34).toInt) (i3 : 0 ≤ x3.toInt) (i4 : x3.toInt ≤ 8) (i5 : 0 ≤ s1.toInt) (i6 : s1.toInt ≤ 8) : Tp (f_MO_turn_195 n x3 x6 s1 s2 t) (fun r => HI L r ∧ (0 < (mz_gI r 0 6).toInt ∨ (((mz_gI r 0 34).toInt ≤ 1 ∧ (mz_gI r 0 48).toInt ≤ 0) ∨ (2 ≤ (mz_gI r 0 34).toInt ∧ (mz_gI r 0 48).toInt ≤ 2390 + 310 * (mz_gI r 0 34).toInt))) ∧ (0 < (mz_gI r 0 6).toInt ∨ (((mz_gI r 0 34).toInt ≤ 1 ∧ (mz_gI r 0 51).toInt ≤ 0) ∨ (2 ≤ (mz_gI r 0 34).toInt ∧ (mz_gI r 0 51).toInt ≤ 3310 * (mz_gI r 0 34).toInt - 610))) ∧ (0 < (mz_gI r 0 6).toInt ∨ (mz_gI t 0 8).toInt ≤ (mz_gI r 0 8).toInt)) := by
  unfold f_MO_turn_195
  have b161 := FX_0_34 (HI_FX ci)
  have b162 := FX_0_48 (HI_FX ci)
  have b163 := FX_0_51 (HI_FX ci)
  have b164 := FX_0_8 (HI_FX ci)
  have i165 := ti_rg s1
  refine Tp_gd (ti_ix (by omega) (by omega)) ?_
  have b168 := ti_nb s2
  refine Tp_le (fun t166 E167 => ?_)
  have k170 := ti_cl s1
  have ci169 := HI_f38 ci E167 (by omega) (by omega)
  refine Tp_if (fun h171 => ?_) (fun h171 => ?_)
  · have g172 := ti_q h171
    have i173 := ti_rg x6
    have l174 : (0 : Int32).toInt = 0 := rfl
    have i175 := ti_rg x3
    refine Tp_gd (ti_ix (by omega) (by omega)) ?_
    have b178 := ti_nb (0 : Int32)
    refine Tp_le (fun t176 E177 => ?_)
    have k180 := ti_cl x3
    have ci179 := HI_f39 ci169 E177 (by omega) (by omega)
    refine Tp_so ?_
    have b181 := HI_g29 ci179 (c := 0) (p := 6) rfl
    have e182 : (mz_gI t176 0 6).toInt = (mz_gI t166 0 6).toInt := by rw [E177, gI_oth _ _ (by simp)]
    have b183 := HI_g29 ci169 (c := 0) (p := 6) rfl
    have e184 : (mz_gI t166 0 6).toInt = (mz_gI t 0 6).toInt := by rw [E167, gI_oth _ _ (by simp)]
    have b185 := HI_g29 ci (c := 0) (p := 6) rfl
    have b186 := FX_0_8 (HI_FX ci179)
    have e187 : (mz_gI t176 0 8).toInt = (mz_gI t166 0 8).toInt := by rw [E177, gI_oth _ _ (by simp)]
    have b188 := FX_0_8 (HI_FX ci169)
    have e189 : (mz_gI t166 0 8).toInt = (mz_gI t 0 8).toInt := by rw [E167, gI_oth _ _ (by simp)]
    have b190 := FX_0_34 (HI_FX ci179)
    have e191 : (mz_gI t176 0 34).toInt = (mz_gI t166 0 34).toInt := by rw [E177, gI_oth _ _ (by simp)]
    have b192 := FX_0_34 (HI_FX ci169)
    have e193 : (mz_gI t166 0 34).toInt = (mz_gI t 0 34).toInt := by rw [E167, gI_oth _ _ (by simp)]
    have b194 := FX_0_48 (HI_FX ci179)
    have e195 : (mz_gI t176 0 48).toInt = (mz_gI t166 0 48).toInt := by rw [E177, gI_oth _ _ (by simp)]
    have b196 := FX_0_48 (HI_FX ci169)
    have e197 : (mz_gI t166 0 48).toInt = (mz_gI t 0 48).toInt := by rw [E167, gI_oth _ _ (by simp)]
    have b198 := FX_0_51 (HI_FX ci179)
    have e199 : (mz_gI t176 0 51).toInt = (mz_gI t166 0 51).toInt := by rw [E177, gI_oth _ _ (by simp)]
    have b200 := FX_0_51 (HI_FX ci169)
    have e201 : (mz_gI t166 0 51).toInt = (mz_gI t 0 51).toInt := by rw [E167, gI_oth _ _ (by simp)]
    refine ⟨ci179, ?_, ?_, ?_⟩
    · (try dsimp only) <;> first | omega | assumption
    · (try dsimp only) <;> first | omega | assumption
    · (try dsimp only) <;> first | omega | assumption
  · have g202 := ti_nq h171
    have i203 := ti_rg x6
    have l204 : (0 : Int32).toInt = 0 := rfl
    have i205 := ti_rg x3
    refine Tp_gd (ti_ix (by omega) (by omega)) ?_
    have b208 := ti_nb (1 : Int32)
    refine Tp_le (fun t206 E207 => ?_)
    have k210 := ti_cl x3
    have ci209 := HI_f39 ci169 E207 (by omega) (by omega)
    refine Tp_so ?_
    have b211 := HI_g29 ci209 (c := 0) (p := 6) rfl
    have e212 : (mz_gI t206 0 6).toInt = (mz_gI t166 0 6).toInt := by rw [E207, gI_oth _ _ (by simp)]
    have b213 := HI_g29 ci169 (c := 0) (p := 6) rfl
    have e214 : (mz_gI t166 0 6).toInt = (mz_gI t 0 6).toInt := by rw [E167, gI_oth _ _ (by simp)]
    have b215 := HI_g29 ci (c := 0) (p := 6) rfl
    have b216 := FX_0_8 (HI_FX ci209)
    have e217 : (mz_gI t206 0 8).toInt = (mz_gI t166 0 8).toInt := by rw [E207, gI_oth _ _ (by simp)]
    have b218 := FX_0_8 (HI_FX ci169)
    have e219 : (mz_gI t166 0 8).toInt = (mz_gI t 0 8).toInt := by rw [E167, gI_oth _ _ (by simp)]
    have b220 := FX_0_34 (HI_FX ci209)
    have e221 : (mz_gI t206 0 34).toInt = (mz_gI t166 0 34).toInt := by rw [E207, gI_oth _ _ (by simp)]
    have b222 := FX_0_34 (HI_FX ci169)
    have e223 : (mz_gI t166 0 34).toInt = (mz_gI t 0 34).toInt := by rw [E167, gI_oth _ _ (by simp)]
    have b224 := FX_0_48 (HI_FX ci209)
    have e225 : (mz_gI t206 0 48).toInt = (mz_gI t166 0 48).toInt := by rw [E207, gI_oth _ _ (by simp)]
    have b226 := FX_0_48 (HI_FX ci169)
    have e227 : (mz_gI t166 0 48).toInt = (mz_gI t 0 48).toInt := by rw [E167, gI_oth _ _ (by simp)]
    have b228 := FX_0_51 (HI_FX ci209)
    have e229 : (mz_gI t206 0 51).toInt = (mz_gI t166 0 51).toInt := by rw [E207, gI_oth _ _ (by simp)]
    have b230 := FX_0_51 (HI_FX ci169)
    have e231 : (mz_gI t166 0 51).toInt = (mz_gI t 0 51).toInt := by rw [E167, gI_oth _ _ (by simp)]
    refine ⟨ci209, ?_, ?_, ?_⟩
    · (try dsimp only) <;> first | omega | assumption
    · (try dsimp only) <;> first | omega | assumption
    · (try dsimp only) <;> first | omega | assumption
set_option maxRecDepth 4000 in
set_option maxHeartbeats 8000000 in
theorem s_MO_turn_90 {n : Nat} {L : Int32} (hn : 8589934592 ≤ n) {x1 : Int32} {x2 : Int32} {x3 : Int32} {s0 : Int32} {t : mz_St}  (ci : HI L t) (i0 : (((mz_gI t 0 34).toInt ≤ 1 ∧ (mz_gI t 0 48).toInt ≤ 0) ∨ (2 ≤ (mz_gI t 0 34).toInt ∧ (mz_gI t 0 48).toInt ≤ 2390 + 310 * (mz_gI t 0 34).toInt))) (i1 : (((mz_gI t 0 34).toInt ≤ 1 ∧ (mz_gI t 0 51).toInt ≤ 0) ∨ (2 ≤ (mz_gI t 0 34).toInt ∧ (mz_gI t 0 51).toInt ≤ 3310 * (mz_gI t 0 34).toInt - 610))) (i2 : 1 ≤ (mz_gI t 0 34).toInt) (i3 : 0 ≤ x3.toInt) (i4 : x3.toInt ≤ 8) (i5 : 0 ≤ x2.toInt) (i6 : x2.toInt ≤ 3000) : Tp (f_MO_turn_90 n x1 x2 x3 s0 t) (fun r => HI L r ∧ (0 < (mz_gI r 0 6).toInt ∨ (((mz_gI r 0 34).toInt ≤ 1 ∧ (mz_gI r 0 48).toInt ≤ 0) ∨ (2 ≤ (mz_gI r 0 34).toInt ∧ (mz_gI r 0 48).toInt ≤ 2390 + 310 * (mz_gI r 0 34).toInt))) ∧ (0 < (mz_gI r 0 6).toInt ∨ (((mz_gI r 0 34).toInt ≤ 1 ∧ (mz_gI r 0 51).toInt ≤ 0) ∨ (2 ≤ (mz_gI r 0 34).toInt ∧ (mz_gI r 0 51).toInt ≤ 3310 * (mz_gI r 0 34).toInt - 610))) ∧ (0 < (mz_gI r 0 6).toInt ∨ (mz_gI t 0 8).toInt ≤ (mz_gI r 0 8).toInt)) := by
  unfold f_MO_turn_90
  have b232 := FX_0_34 (HI_FX ci)
  have b233 := FX_0_48 (HI_FX ci)
  have b234 := FX_0_51 (HI_FX ci)
  have b235 := FX_0_8 (HI_FX ci)
  refine Tp_if (fun h236 => ?_) (fun h236 => ?_)
  · have g237 := ti_q h236
    have i238 := ti_rg x1
    have l239 : ((5 : Int32)).toInt = 5 := rfl
    have i240 := ti_rg x3
    refine Tp_gd (ti_ix (by omega) (by omega)) ?_
    have b243 := ti_nb (1 : Int32)
    refine Tp_le (fun t241 E242 => ?_)
    have k245 := ti_cl x3
    have ci244 := HI_f41 ci E242 (by omega) (by omega)
    refine Tp_gd (ti_ix (by omega) (by omega)) ?_
    have b248 := ti_nb s0
    refine Tp_le (fun t246 E247 => ?_)
    have ci249 := HI_f38 ci244 E247 (by omega) (by omega)
    refine Tp_gd (ti_ix (by omega) (by omega)) ?_
    refine Tp_le (fun t250 E251 => ?_)
    have ci252 := HI_f39 ci249 E251 (by omega) (by omega)
    refine Tp_so ?_
    have b253 := HI_g29 ci252 (c := 0) (p := 6) rfl
    have e254 : (mz_gI t250 0 6).toInt = (mz_gI t246 0 6).toInt := by rw [E251, gI_oth _ _ (by simp)]
    have b255 := HI_g29 ci249 (c := 0) (p := 6) rfl
    have e256 : (mz_gI t246 0 6).toInt = (mz_gI t241 0 6).toInt := by rw [E247, gI_oth _ _ (by simp)]
    have b257 := HI_g29 ci244 (c := 0) (p := 6) rfl
    have e258 : (mz_gI t241 0 6).toInt = (mz_gI t 0 6).toInt := by rw [E242, gI_oth _ _ (by simp)]
    have b259 := HI_g29 ci (c := 0) (p := 6) rfl
    have b260 := FX_0_8 (HI_FX ci252)
    have e261 : (mz_gI t250 0 8).toInt = (mz_gI t246 0 8).toInt := by rw [E251, gI_oth _ _ (by simp)]
    have b262 := FX_0_8 (HI_FX ci249)
    have e263 : (mz_gI t246 0 8).toInt = (mz_gI t241 0 8).toInt := by rw [E247, gI_oth _ _ (by simp)]
    have b264 := FX_0_8 (HI_FX ci244)
    have e265 : (mz_gI t241 0 8).toInt = (mz_gI t 0 8).toInt := by rw [E242, gI_oth _ _ (by simp)]
    have b266 := FX_0_34 (HI_FX ci252)
    have e267 : (mz_gI t250 0 34).toInt = (mz_gI t246 0 34).toInt := by rw [E251, gI_oth _ _ (by simp)]
    have b268 := FX_0_34 (HI_FX ci249)
    have e269 : (mz_gI t246 0 34).toInt = (mz_gI t241 0 34).toInt := by rw [E247, gI_oth _ _ (by simp)]
    have b270 := FX_0_34 (HI_FX ci244)
    have e271 : (mz_gI t241 0 34).toInt = (mz_gI t 0 34).toInt := by rw [E242, gI_oth _ _ (by simp)]
    have b272 := FX_0_48 (HI_FX ci252)
    have e273 : (mz_gI t250 0 48).toInt = (mz_gI t246 0 48).toInt := by rw [E251, gI_oth _ _ (by simp)]
    have b274 := FX_0_48 (HI_FX ci249)
    have e275 : (mz_gI t246 0 48).toInt = (mz_gI t241 0 48).toInt := by rw [E247, gI_oth _ _ (by simp)]
    have b276 := FX_0_48 (HI_FX ci244)
    have e277 : (mz_gI t241 0 48).toInt = (mz_gI t 0 48).toInt := by rw [E242, gI_oth _ _ (by simp)]
    have b278 := FX_0_51 (HI_FX ci252)
    have e279 : (mz_gI t250 0 51).toInt = (mz_gI t246 0 51).toInt := by rw [E251, gI_oth _ _ (by simp)]
    have b280 := FX_0_51 (HI_FX ci249)
    have e281 : (mz_gI t246 0 51).toInt = (mz_gI t241 0 51).toInt := by rw [E247, gI_oth _ _ (by simp)]
    have b282 := FX_0_51 (HI_FX ci244)
    have e283 : (mz_gI t241 0 51).toInt = (mz_gI t 0 51).toInt := by rw [E242, gI_oth _ _ (by simp)]
    refine ⟨ci252, ?_, ?_, ?_⟩
    · (try dsimp only) <;> first | omega | assumption
    · (try dsimp only) <;> first | omega | assumption
    · (try dsimp only) <;> first | omega | assumption
  · have g284 := ti_nq h236
    have i285 := ti_rg x1
    have l286 : ((5 : Int32)).toInt = 5 := rfl
    have i287 := ti_rg x3
    refine Tp_gd (ti_ix (by omega) (by omega)) ?_
    have b290 := ti_nb (0 : Int32)
    refine Tp_le (fun t288 E289 => ?_)
    have k292 := ti_cl x3
    have ci291 := HI_f38 ci E289 (by omega) (by omega)
    refine Tp_if (fun h293 => ?_) (fun h293 => ?_)
    · have g294 := ti_q h293
      have i295 := ti_rg s0
      have l296 : (0 : Int32).toInt = 0 := rfl
      refine Tp_so ?_
      have b297 := HI_g29 ci291 (c := 0) (p := 6) rfl
      have e298 : (mz_gI t288 0 6).toInt = (mz_gI t 0 6).toInt := by rw [E289, gI_oth _ _ (by simp)]
      have b299 := HI_g29 ci (c := 0) (p := 6) rfl
      have b300 := FX_0_8 (HI_FX ci291)
      have e301 : (mz_gI t288 0 8).toInt = (mz_gI t 0 8).toInt := by rw [E289, gI_oth _ _ (by simp)]
      have b302 := FX_0_34 (HI_FX ci291)
      have e303 : (mz_gI t288 0 34).toInt = (mz_gI t 0 34).toInt := by rw [E289, gI_oth _ _ (by simp)]
      have b304 := FX_0_48 (HI_FX ci291)
      have e305 : (mz_gI t288 0 48).toInt = (mz_gI t 0 48).toInt := by rw [E289, gI_oth _ _ (by simp)]
      have b306 := FX_0_51 (HI_FX ci291)
      have e307 : (mz_gI t288 0 51).toInt = (mz_gI t 0 51).toInt := by rw [E289, gI_oth _ _ (by simp)]
      refine ⟨ci291, ?_, ?_, ?_⟩
      · (try dsimp only) <;> first | omega | assumption
      · (try dsimp only) <;> first | omega | assumption
      · (try dsimp only) <;> first | omega | assumption
    · have g308 := ti_nq h293
      have i309 := ti_rg s0
      have l310 : (0 : Int32).toInt = 0 := rfl
      have i313 := ti_rg x2
      have b314 := FX_0_34 (HI_FX ci291)
      have e315 : (mz_gI t288 0 34).toInt = (mz_gI t 0 34).toInt := by rw [E289, gI_oth _ _ (by simp)]
      have b316 := FX_3 (HI_FX ci291) x2.toNatClampNeg
      have b317 := FX_l (HI_FX ci291) x2.toNatClampNeg
      have e318 : (mz_gI t288 3 x2.toNatClampNeg).toInt = (mz_gI t 3 x2.toNatClampNeg).toInt := by rw [E289, gI_oth _ _ (by simp)]
      have b319 := FX_3 (HI_FX ci) x2.toNatClampNeg
      have b320 := FX_l (HI_FX ci) x2.toNatClampNeg
      have b321 := FX_2 (HI_FX ci291) x2.toNatClampNeg
      have e322 : (mz_gI t288 2 x2.toNatClampNeg).toInt = (mz_gI t 2 x2.toNatClampNeg).toInt := by rw [E289, gI_oth _ _ (by simp)]
      have b323 := FX_2 (HI_FX ci) x2.toNatClampNeg
      refine Tp_bi (s_MO_takeLine hn (HI_MI ci291) (by omega) (by omega) (t := t288) (x1 := x2)) (fun q311 h312 => ?_)
      obtain ⟨mi328, p325, p326, p327⟩ := h312
      have ci324 := HI_tr ci291 mi328
      have b329 := HI_g23 ci324 (c := 0) (p := 60) rfl
      have b330 := HI_g23 ci291 (c := 0) (p := 60) rfl
      have e331 : (mz_gI t288 0 60).toInt = (mz_gI t 0 60).toInt := by rw [E289, gI_oth _ _ (by simp)]
      have b332 := HI_g23 ci (c := 0) (p := 60) rfl
      refine Tp_if (fun h333 => ?_) (fun h333 => ?_)
      · have g334 := ti_e h333
        have i335 := ti_rg q311.1
        refine Tp_bi (s_MO_beginLine hn (HI_MI ci324)  (t := q311.2)) (fun q336 h337 => ?_)
        obtain ⟨mi342, p339, p340, p341⟩ := h337
        have ci338 := HI_tr ci324 mi342
        have b343 := HI_g23 ci338 (c := 0) (p := 60) rfl
        have b344 := HI_g24 ci338 (c := 0) (p := 61) rfl
        have b345 := HI_g24 ci324 (c := 0) (p := 61) rfl
        have b346 := HI_g2 ci338 (c := 0) (p := 62) rfl
        have b347 := HI_g2 ci324 (c := 0) (p := 62) rfl
        have l350 : ((1 : Int32)).toInt = 1 := rfl
        first | (have a351 : ((mz_gI q336 0 61) + (1 : Int32)).toInt = (mz_gI q336 0 61).toInt + ((1 : Int32)).toInt := ti_add (by omega) (by omega)) | (have a352 := ti_rg ((mz_gI q336 0 61) + (1 : Int32)))
        refine Tp_le (fun t348 E349 => ?_)
        have l354 : (61 : Int32).toInt = 61 := rfl
        have ci353 := HI_p24 ci338 E349 rfl (by omega) (by omega)
        refine Tp_bi (s_MO_word hn (HI_MI ci353)  (t := t348)) (fun q355 h356 => ?_)
        obtain ⟨mi363, p358, p359, p360, p361, p362⟩ := h356
        have ci357 := HI_tr ci353 mi363
        have b364 := HI_g23 ci353 (c := 0) (p := 60) rfl
        have e365 : (mz_gI t348 0 60).toInt = (mz_gI q336 0 60).toInt := by rw [E349, gI_oth _ _ (by simp)]
        have b366 := HI_g24 ci353 (c := 0) (p := 61) rfl
        have e367 : (mz_gI t348 0 61).toInt = ((mz_gI q336 0 61) + (1 : Int32)).toInt := by rw [E349, gI_same]
        have b368 := HI_g23 ci357 (c := 0) (p := 60) rfl
        have b369 := HI_g24 ci357 (c := 0) (p := 61) rfl
        have b370 := HI_g2 ci357 (c := 0) (p := 62) rfl
        have b371 := HI_g2 ci353 (c := 0) (p := 62) rfl
        have e372 : (mz_gI t348 0 62).toInt = (mz_gI q336 0 62).toInt := by rw [E349, gI_oth _ _ (by simp)]
        refine Tp_bi (s_MO_wholeValue hn (HI_MI ci357) (by omega) (t := q355)) (fun q373 h374 => ?_)
        have mi376 := h374
        have ci375 := HI_tr ci357 mi376
        refine Tp_if (fun h377 => ?_) (fun h377 => ?_)
        · have g378 := ti_q h377
          have i379 := ti_rg q373.1
          have l380 : ((0 : Int32)).toInt = 0 := rfl
          have b381 := FX_0_34 (HI_FX ci375)
          have e382 : (mz_gI q373.2 0 34).toInt = (mz_gI q355 0 34).toInt := MI_13 mi376 rfl
          have b383 := FX_0_34 (HI_FX ci357)
          have e384 : (mz_gI q355 0 34).toInt = (mz_gI t348 0 34).toInt := MI_13 mi363 rfl
          have b385 := FX_0_34 (HI_FX ci353)
          have e386 : (mz_gI t348 0 34).toInt = (mz_gI q336 0 34).toInt := by rw [E349, gI_oth _ _ (by simp)]
          have b387 := FX_0_34 (HI_FX ci338)
          have e388 : (mz_gI q336 0 34).toInt = (mz_gI q311.2 0 34).toInt := MI_13 mi342 rfl
          have b389 := FX_0_34 (HI_FX ci324)
          have e390 : (mz_gI q311.2 0 34).toInt = (mz_gI t288 0 34).toInt := MI_13 mi328 rfl
          have b391 := FX_0_48 (HI_FX ci375)
          have e392 : (mz_gI q373.2 0 48).toInt = (mz_gI q355 0 48).toInt := MI_13 mi376 rfl
          have b393 := FX_0_48 (HI_FX ci357)
          have e394 : (mz_gI q355 0 48).toInt = (mz_gI t348 0 48).toInt := MI_13 mi363 rfl
          have b395 := FX_0_48 (HI_FX ci353)
          have e396 : (mz_gI t348 0 48).toInt = (mz_gI q336 0 48).toInt := by rw [E349, gI_oth _ _ (by simp)]
          have b397 := FX_0_48 (HI_FX ci338)
          have e398 : (mz_gI q336 0 48).toInt = (mz_gI q311.2 0 48).toInt := MI_13 mi342 rfl
          have b399 := FX_0_48 (HI_FX ci324)
          have e400 : (mz_gI q311.2 0 48).toInt = (mz_gI t288 0 48).toInt := MI_13 mi328 rfl
          have b401 := FX_0_48 (HI_FX ci291)
          have e402 : (mz_gI t288 0 48).toInt = (mz_gI t 0 48).toInt := by rw [E289, gI_oth _ _ (by simp)]
          have b403 := FX_0_51 (HI_FX ci375)
          have e404 : (mz_gI q373.2 0 51).toInt = (mz_gI q355 0 51).toInt := MI_13 mi376 rfl
          have b405 := FX_0_51 (HI_FX ci357)
          have e406 : (mz_gI q355 0 51).toInt = (mz_gI t348 0 51).toInt := MI_13 mi363 rfl
          have b407 := FX_0_51 (HI_FX ci353)
          have e408 : (mz_gI t348 0 51).toInt = (mz_gI q336 0 51).toInt := by rw [E349, gI_oth _ _ (by simp)]
          have b409 := FX_0_51 (HI_FX ci338)
          have e410 : (mz_gI q336 0 51).toInt = (mz_gI q311.2 0 51).toInt := MI_13 mi342 rfl
          have b411 := FX_0_51 (HI_FX ci324)
          have e412 : (mz_gI q311.2 0 51).toInt = (mz_gI t288 0 51).toInt := MI_13 mi328 rfl
          have b413 := FX_0_51 (HI_FX ci291)
          have e414 : (mz_gI t288 0 51).toInt = (mz_gI t 0 51).toInt := by rw [E289, gI_oth _ _ (by simp)]
          refine Tp_mo (s_MO_turn_195 hn ci375 (by omega) (by omega) (by omega) (by omega) (by omega) (by omega) (by omega) (t := q373.2) (x3 := x3) (x6 := q373.1) (s1 := x3) (s2 := (0 : Int32))) (fun q415 h416 => ?_)
          obtain ⟨ci417, p418, p419, p420⟩ := h416
          have b421 := FX_0_8 (HI_FX ci375)
          have e422 : (mz_gI q373.2 0 8).toInt = (mz_gI q355 0 8).toInt := MI_13 mi376 rfl
          have b423 := FX_0_8 (HI_FX ci357)
          have e424 : (mz_gI q355 0 8).toInt = (mz_gI t348 0 8).toInt := MI_13 mi363 rfl
          have b425 := FX_0_8 (HI_FX ci353)
          have e426 : (mz_gI t348 0 8).toInt = (mz_gI q336 0 8).toInt := by rw [E349, gI_oth _ _ (by simp)]
          have b427 := FX_0_8 (HI_FX ci338)
          have e428 : (mz_gI q336 0 8).toInt = (mz_gI q311.2 0 8).toInt := MI_13 mi342 rfl
          have b429 := FX_0_8 (HI_FX ci324)
          have e430 : (mz_gI q311.2 0 8).toInt = (mz_gI t288 0 8).toInt := MI_13 mi328 rfl
          have b431 := FX_0_8 (HI_FX ci291)
          have e432 : (mz_gI t288 0 8).toInt = (mz_gI t 0 8).toInt := by rw [E289, gI_oth _ _ (by simp)]
          have b433 := HI_g29 ci417 (c := 0) (p := 6) rfl
          have b434 := HI_g29 ci375 (c := 0) (p := 6) rfl
          have b435 := FX_0_8 (HI_FX ci417)
          have b436 := FX_0_34 (HI_FX ci417)
          have b437 := FX_0_48 (HI_FX ci417)
          have b438 := FX_0_51 (HI_FX ci417)
          have b439 := HI_g29 ci (c := 0) (p := 6) rfl
          refine ⟨ci417, ?_, ?_, ?_⟩
          · (try dsimp only) <;> first | omega | assumption
          · (try dsimp only) <;> first | omega | assumption
          · (try dsimp only) <;> first | omega | assumption
        · have g440 := ti_nq h377
          have i441 := ti_rg q373.1
          have b442 := FX_0_34 (HI_FX ci375)
          have e443 : (mz_gI q373.2 0 34).toInt = (mz_gI q355 0 34).toInt := MI_13 mi376 rfl
          have b444 := FX_0_34 (HI_FX ci357)
          have e445 : (mz_gI q355 0 34).toInt = (mz_gI t348 0 34).toInt := MI_13 mi363 rfl
          have b446 := FX_0_34 (HI_FX ci353)
          have e447 : (mz_gI t348 0 34).toInt = (mz_gI q336 0 34).toInt := by rw [E349, gI_oth _ _ (by simp)]
          have b448 := FX_0_34 (HI_FX ci338)
          have e449 : (mz_gI q336 0 34).toInt = (mz_gI q311.2 0 34).toInt := MI_13 mi342 rfl
          have b450 := FX_0_34 (HI_FX ci324)
          have e451 : (mz_gI q311.2 0 34).toInt = (mz_gI t288 0 34).toInt := MI_13 mi328 rfl
          have b452 := FX_0_48 (HI_FX ci375)
          have e453 : (mz_gI q373.2 0 48).toInt = (mz_gI q355 0 48).toInt := MI_13 mi376 rfl
          have b454 := FX_0_48 (HI_FX ci357)
          have e455 : (mz_gI q355 0 48).toInt = (mz_gI t348 0 48).toInt := MI_13 mi363 rfl
          have b456 := FX_0_48 (HI_FX ci353)
          have e457 : (mz_gI t348 0 48).toInt = (mz_gI q336 0 48).toInt := by rw [E349, gI_oth _ _ (by simp)]
          have b458 := FX_0_48 (HI_FX ci338)
          have e459 : (mz_gI q336 0 48).toInt = (mz_gI q311.2 0 48).toInt := MI_13 mi342 rfl
          have b460 := FX_0_48 (HI_FX ci324)
          have e461 : (mz_gI q311.2 0 48).toInt = (mz_gI t288 0 48).toInt := MI_13 mi328 rfl
          have b462 := FX_0_48 (HI_FX ci291)
          have e463 : (mz_gI t288 0 48).toInt = (mz_gI t 0 48).toInt := by rw [E289, gI_oth _ _ (by simp)]
          have b464 := FX_0_51 (HI_FX ci375)
          have e465 : (mz_gI q373.2 0 51).toInt = (mz_gI q355 0 51).toInt := MI_13 mi376 rfl
          have b466 := FX_0_51 (HI_FX ci357)
          have e467 : (mz_gI q355 0 51).toInt = (mz_gI t348 0 51).toInt := MI_13 mi363 rfl
          have b468 := FX_0_51 (HI_FX ci353)
          have e469 : (mz_gI t348 0 51).toInt = (mz_gI q336 0 51).toInt := by rw [E349, gI_oth _ _ (by simp)]
          have b470 := FX_0_51 (HI_FX ci338)
          have e471 : (mz_gI q336 0 51).toInt = (mz_gI q311.2 0 51).toInt := MI_13 mi342 rfl
          have b472 := FX_0_51 (HI_FX ci324)
          have e473 : (mz_gI q311.2 0 51).toInt = (mz_gI t288 0 51).toInt := MI_13 mi328 rfl
          have b474 := FX_0_51 (HI_FX ci291)
          have e475 : (mz_gI t288 0 51).toInt = (mz_gI t 0 51).toInt := by rw [E289, gI_oth _ _ (by simp)]
          refine Tp_mo (s_MO_turn_195 hn ci375 (by omega) (by omega) (by omega) (by omega) (by omega) (by omega) (by omega) (t := q373.2) (x3 := x3) (x6 := q373.1) (s1 := x3) (s2 := (1 : Int32))) (fun q476 h477 => ?_)
          obtain ⟨ci478, p479, p480, p481⟩ := h477
          have b482 := FX_0_8 (HI_FX ci375)
          have e483 : (mz_gI q373.2 0 8).toInt = (mz_gI q355 0 8).toInt := MI_13 mi376 rfl
          have b484 := FX_0_8 (HI_FX ci357)
          have e485 : (mz_gI q355 0 8).toInt = (mz_gI t348 0 8).toInt := MI_13 mi363 rfl
          have b486 := FX_0_8 (HI_FX ci353)
          have e487 : (mz_gI t348 0 8).toInt = (mz_gI q336 0 8).toInt := by rw [E349, gI_oth _ _ (by simp)]
          have b488 := FX_0_8 (HI_FX ci338)
          have e489 : (mz_gI q336 0 8).toInt = (mz_gI q311.2 0 8).toInt := MI_13 mi342 rfl
          have b490 := FX_0_8 (HI_FX ci324)
          have e491 : (mz_gI q311.2 0 8).toInt = (mz_gI t288 0 8).toInt := MI_13 mi328 rfl
          have b492 := FX_0_8 (HI_FX ci291)
          have e493 : (mz_gI t288 0 8).toInt = (mz_gI t 0 8).toInt := by rw [E289, gI_oth _ _ (by simp)]
          have b494 := HI_g29 ci478 (c := 0) (p := 6) rfl
          have b495 := HI_g29 ci375 (c := 0) (p := 6) rfl
          have b496 := FX_0_8 (HI_FX ci478)
          have b497 := FX_0_34 (HI_FX ci478)
          have b498 := FX_0_48 (HI_FX ci478)
          have b499 := FX_0_51 (HI_FX ci478)
          have b500 := HI_g29 ci (c := 0) (p := 6) rfl
          refine ⟨ci478, ?_, ?_, ?_⟩
          · (try dsimp only) <;> first | omega | assumption
          · (try dsimp only) <;> first | omega | assumption
          · (try dsimp only) <;> first | omega | assumption
      · have g501 := ti_ne h333
        have i502 := ti_rg q311.1
        have i505 := ti_rg (mz_gI q311.2 0 63)
        refine Tp_bi (s_MO_failL hn ci324 (by omega) (t := q311.2) (x1 := q311.1) (x2 := mz_gI q311.2 0 63)) (fun q503 h504 => ?_)
        obtain ⟨ci506, E507, p508, p509⟩ := h504
        have b510 := FX_0_8 (HI_FX ci324)
        have e511 : (mz_gI q311.2 0 8).toInt = (mz_gI t288 0 8).toInt := MI_13 mi328 rfl
        have b512 := FX_0_8 (HI_FX ci291)
        have e513 : (mz_gI t288 0 8).toInt = (mz_gI t 0 8).toInt := by rw [E289, gI_oth _ _ (by simp)]
        have b514 := HI_g29 ci506 (c := 0) (p := 6) rfl
        have b515 := FX_0_8 (HI_FX ci506)
        have b516 := HI_g29 ci324 (c := 0) (p := 6) rfl
        have b517 := HI_g23 ci506 (c := 0) (p := 60) rfl
        have e518 : (mz_gI q503 0 60).toInt = (mz_gI q311.2 0 60).toInt := by rw [E507 _ _ (by simp)]
        refine Tp_so ?_
        have b519 := HI_g29 ci (c := 0) (p := 6) rfl
        have b520 := FX_0_34 (HI_FX ci506)
        have e521 : (mz_gI q503 0 34).toInt = (mz_gI q311.2 0 34).toInt := by rw [E507 _ _ (by simp)]
        have b522 := FX_0_34 (HI_FX ci324)
        have e523 : (mz_gI q311.2 0 34).toInt = (mz_gI t288 0 34).toInt := MI_13 mi328 rfl
        have b524 := FX_0_48 (HI_FX ci506)
        have e525 : (mz_gI q503 0 48).toInt = (mz_gI q311.2 0 48).toInt := by rw [E507 _ _ (by simp)]
        have b526 := FX_0_48 (HI_FX ci324)
        have e527 : (mz_gI q311.2 0 48).toInt = (mz_gI t288 0 48).toInt := MI_13 mi328 rfl
        have b528 := FX_0_48 (HI_FX ci291)
        have e529 : (mz_gI t288 0 48).toInt = (mz_gI t 0 48).toInt := by rw [E289, gI_oth _ _ (by simp)]
        have b530 := FX_0_51 (HI_FX ci506)
        have e531 : (mz_gI q503 0 51).toInt = (mz_gI q311.2 0 51).toInt := by rw [E507 _ _ (by simp)]
        have b532 := FX_0_51 (HI_FX ci324)
        have e533 : (mz_gI q311.2 0 51).toInt = (mz_gI t288 0 51).toInt := MI_13 mi328 rfl
        have b534 := FX_0_51 (HI_FX ci291)
        have e535 : (mz_gI t288 0 51).toInt = (mz_gI t 0 51).toInt := by rw [E289, gI_oth _ _ (by simp)]
        refine ⟨ci506, ?_, ?_, ?_⟩
        · (try dsimp only) <;> first | omega | assumption
        · (try dsimp only) <;> first | omega | assumption
        · (try dsimp only) <;> first | omega | assumption
