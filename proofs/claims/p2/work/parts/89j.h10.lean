set_option maxRecDepth 4000 in
set_option maxHeartbeats 8000000 in
theorem s_MO_define {n : Nat} {L : Int32} (hn : 8589934592 ≤ n) {x1 : Int32} {t : mz_St} (ci : HI L t) (i0 : (((mz_gI t 0 34).toInt ≤ 1 ∧ (mz_gI t 0 48).toInt ≤ 0) ∨ (2 ≤ (mz_gI t 0 34).toInt ∧ (mz_gI t 0 48).toInt ≤ 2390 + 310 * (mz_gI t 0 34).toInt))) (i1 : (((mz_gI t 0 34).toInt ≤ 1 ∧ (mz_gI t 0 51).toInt ≤ 0) ∨ (2 ≤ (mz_gI t 0 34).toInt ∧ (mz_gI t 0 51).toInt ≤ 3310 * (mz_gI t 0 34).toInt - 610))) (i2 : 1 ≤ (mz_gI t 0 34).toInt)
    (i3 : (mz_gI t 0 61).toInt ≤ (mz_gI t 0 60).toInt) (i4 : (¬ (mz_gI t 0 34).toInt = 1 ∨ (mz_gI t 0 60).toInt ≤ (mz_gI t 3 x1.toNatClampNeg).toInt - (mz_gI t 2 x1.toNatClampNeg).toInt)) (i5 : 0 ≤ x1.toInt) (i6 : x1.toInt ≤ 3000) : Tp (f_MO_define n x1 t) (PPx L t) := by
  have f2 := FX_2 (HI_FX ci) x1.toNatClampNeg
  have f3 := FX_3 (HI_FX ci) x1.toNatClampNeg
  have l0 : (0 : Int32).toInt = 0 := rfl
  have l1 : (1 : Int32).toInt = 1 := rfl
  have b34 : ∀ (w : mz_St) (s1 : Int32) (a b : Int64), HI L w → MI t w → (mz_gI w 0 60).toInt = (mz_gI t 0 60).toInt → ((mz_gI w 0 62).toInt = 0 ∨ (mz_gI w 0 61).toInt ≤ (mz_gI w 0 60).toInt) → 0 ≤ s1.toInt → s1.toInt ≤ 3000 → (¬ (mz_gI t 0 34).toInt ≤ 1 ∨ (mz_gI t 0 60).toInt + s1.toInt ≤ 3000) → Tp (f_MO_define_34 n x1 a b s1 w) (PPx L t) := by
    intro w s1 a b cw mw w60 wq h1 h2 h3
    have w8 := MI_13 mw (c := 0) (p := 8) rfl
    have w34 := MI_13 mw (c := 0) (p := 34) rfl
    have w48 := MI_13 mw (c := 0) (p := 48) rfl
    have w51 := MI_13 mw (c := 0) (p := 51) rfl
    unfold f_MO_define_34
    refine Tp_bi (s_MO_readParameters hn h1 h2 cw wq) (fun p hp => ?_)
    obtain ⟨cp, qp, gp⟩ := hp
    refine Tp_bi (s_MO_lineEnds hn (HI_MI cp)) (fun e he => ?_)
    obtain ⟨me, e60, e62⟩ := he
    have ce := HI_tr cp me
    have fl : ∀ x y u, HI L u → 0 < x.toInt → Tp ((f_MO_fail n x y u).bind fun q => some q) (PPx L t) := by
      intro x y u cu hx
      refine Tp_bi (s_MO_failL hn cu hx) (fun q hq => ?_)
      exact Tp_so ⟨hq.1, Or.inl hq.2.2.1, Or.inl hq.2.2.1, Or.inl hq.2.2.1⟩
    refine Tp_if (fun _ => fl _ _ e ce (by decide)) (fun hok => ?_)
    have hok' := ti_nq hok
    refine Tp_bi (s_MO_macroOf hn (HI_MI ce)) (fun m hm => ?_)
    obtain ⟨-, em, -, -⟩ := hm
    rw [em]
    refine Tp_if (fun _ => ?_) (fun _ => fl _ _ e ce (by decide))
    refine Tp_if (fun hF => ?_) (fun _ => fl _ _ e ce (by decide))
    have hF' := ti_e hF
    have e34 : mz_gI e 0 34 = mz_gI w 0 34 := by rw [me.2.1 0 34 rfl, qp.1 0 34 rfl (by simp)]
    have e8 : mz_gI e 0 8 = mz_gI w 0 8 := by rw [me.2.1 0 8 rfl, qp.1 0 8 rfl (by simp)]
    have e48 : mz_gI e 0 48 = mz_gI w 0 48 := by rw [me.2.1 0 48 rfl, qp.1 0 48 rfl (by simp)]
    have e51 : mz_gI e 0 51 = mz_gI w 0 51 := by rw [me.2.1 0 51 rfl, qp.1 0 51 rfl (by simp)]
    rw [e34] at hF'
    have p60 : (mz_gI p 0 60).toInt = (mz_gI t 0 60).toInt := by rw [qp.2]; exact w60
    rcases gp with hz | ⟨g1, g2, g3⟩
    · omega
    have gd : GD e := by
      unfold GD
      rw [MI_row me (c := 53) (fun _ => rfl), MI_row me (c := 54) (fun _ => rfl), me.2.1 0 75 rfl]
      refine ⟨by omega, fun k hk => ?_⟩
      have := g3 k hk
      omega
    refine Tp_gd (ti_ix (by decide) (by decide)) ?_
    rw [show (0 : Int32).toNatClampNeg = 0 from rfl]
    have at0 := HI_at ce 0
    have f25 := FX_25 (HI_FX ce) 0
    have f03 := FX_0_3 (HI_FX ce)
    have rc := ce.2.1
    refine Tp_mo (l_define_111 hn (t0 := e) (x6 := mz_gI e 25 0) gd f25.1 at0.1 ⟨by rw [e34, e48, w34, w48]; exact i0, by rw [e34, e51, w34, w51]; exact i1⟩ rc f03.2 n (mz_gI e 25 0) 0 e ce (LI.rf e) (Or.inr (Int.le_refl _)) (Int.le_refl _) (Or.inl rfl) (by omega) (by omega)) (fun r hr => ?_)
    unfold PPx at hr ⊢
    rw [e8, w8] at hr
    exact hr
  unfold f_MO_define
  refine Tp_bi (s_MO_word hn (HI_MI ci)) (fun w hw => ?_)
  obtain ⟨mw, w60, w61, -, w4, -⟩ := hw
  have cw := HI_tr ci mw
  have w34 := MI_13 mw (c := 0) (p := 34) rfl
  have w2 : mz_gI w 2 x1.toNatClampNeg = mz_gI t 2 x1.toNatClampNeg := mw.2.1 2 _ rfl
  refine Tp_if (fun h => ?_) (fun h => ?_)
  · have h' := ti_q h
    refine Tp_gd (ti_ix i5 (by omega)) ?_
    exact b34 w _ _ _ cw mw w60 w4 (by rw [w2]; exact f2.1) (by rw [w2]; exact f2.2) (Or.inr (by rw [w2]; omega))
  · have h' := ti_nq h
    exact b34 w 0 _ _ cw mw w60 w4 (by decide) (by decide) (Or.inl (by omega))
