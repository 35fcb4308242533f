/-! the reference's expand, from its start -/
def LW (t0 : mz_St) (c : Nat) (t : mz_St) : Prop := (∀ k p, ¬ (k = 0 ∧ p = 3) → k ≠ 2 → k ≠ 3 → mz_gI t k p = mz_gI t0 k p) ∧ mz_gI t 0 3 = nI c ∧ ∀ p, (0 ≤ (mz_gI t 2 p).toInt ∧ (mz_gI t 2 p).toInt ≤ 3000) ∧ (0 ≤ (mz_gI t 3 p).toInt ∧ (mz_gI t 3 p).toInt ≤ 3000) ∧ (mz_gI t 2 p).toInt ≤ (mz_gI t 3 p).toInt
theorem LW_w {t0 t : mz_St} {c p e : Nat} (h : LW t0 c t) (hpe : p ≤ e) (he : e ≤ 3000) : LW t0 (c + 1) (fl_w 2 3 0 3 c p e t) := by
  have tp := ti_nI (k := p) (by omega)
  have te := ti_nI (k := e) (by omega)
  refine ⟨fun k j h1 h2 h3 => ?_, ?_, fun j => ?_⟩
  · unfold fl_w
    rw [gI_oth _ _ (fun q => h1 q), gI_oth _ _ (fun q => h3 q.1), gI_oth _ _ (fun q => h2 q.1)]
    exact h.1 k j h1 h2 h3
  · unfold fl_w
    rw [gI_same]
  · have h0 := h.2.2 j
    have e2 : mz_gI (fl_w 2 3 0 3 c p e t) 2 j = if j = c then nI p else mz_gI t 2 j := by
      unfold fl_w
      rw [gI_oth _ _ (fun q => by have := q.1; omega), gI_oth _ _ (fun q => by have := q.1; omega), gI_pI]
      simp
    have e3 : mz_gI (fl_w 2 3 0 3 c p e t) 3 j = if j = c then nI e else mz_gI t 3 j := by
      unfold fl_w
      rw [gI_oth _ _ (fun q => by have := q.1; omega), gI_pI, gI_oth _ _ (fun q => by have := q.1; omega)]
      simp
    rw [e2, e3]
    by_cases hj : j = c
    · rw [if_pos hj, if_pos hj]
      omega
    · rw [if_neg hj, if_neg hj]
      exact h0
theorem LW_go {t0 : mz_St} {f : Nat → Int32} {len : Nat} (hl : len ≤ 3000) : ∀ m a x c t, m = len + 1 - x → x ≤ len + 1 → a ≤ x → c ≤ a → LW t0 c t → ∃ c', c' ≤ 3001 ∧ LW t0 c' (fl_go 2 3 0 3 f len m a x c t) := by
  intro m
  induction m with
  | zero =>
    intro a x c t hm hx ha hc h
    exact ⟨c, by omega, h⟩
  | succ m ih =>
    intro a x c t hm hx ha hc h
    obtain ⟨h1, h2, h3, h4⟩ := fl_in f ha
    unfold fl_go
    by_cases hq : x = len ∨ f x = 10
    · rw [if_pos hq]
      exact ih (x + 1) (x + 1) (c + 1) _ (by omega) (by omega) (by omega) (by omega) (LW_w h h2 (by omega))
    · rw [if_neg hq]
      exact ih a (x + 1) c t (by omega) (by omega) (by omega) hc h
theorem LW_FX {t u : mz_St} {c : Nat} (h : FX t) (w : LW t c u) (hc : c ≤ 3001) : FX u := by
  have tc := ti_nI (k := c) (by omega)
  exact ⟨(by rw [w.1 0 2 (by simp) (by simp) (by simp)]; exact FX_0_2 h), (by rw [w.2.1]; omega), (by rw [w.1 0 8 (by simp) (by simp) (by simp)]; exact FX_0_8 h), (by rw [w.1 0 12 (by simp) (by simp) (by simp)]; exact FX_0_12 h), (by rw [w.1 0 34 (by simp) (by simp) (by simp)]; exact FX_0_34 h), (by rw [w.1 0 48 (by simp) (by simp) (by simp)]; exact FX_0_48 h), (by rw [w.1 0 51 (by simp) (by simp) (by simp)]; exact FX_0_51 h), (by rw [w.1 0 53 (by simp) (by simp) (by simp)]; exact FX_0_53 h), (by rw [w.1 0 75 (by simp) (by simp) (by simp)]; exact FX_0_75 h),
    (fun p => (w.2.2 p).1), (fun p => (w.2.2 p).2.1), (fun p => by rw [w.1 6 p (by simp) (by simp) (by simp)]; exact FX_6 h p), (fun p => by rw [w.1 7 p (by simp) (by simp) (by simp)]; exact FX_7 h p), (fun p => by rw [w.1 10 p (by simp) (by simp) (by simp)]; exact FX_10 h p), (fun p => by rw [w.1 13 p (by simp) (by simp) (by simp)]; exact FX_13 h p), (fun p => by rw [w.1 14 p (by simp) (by simp) (by simp)]; exact FX_14 h p), (fun p => by rw [w.1 23 p (by simp) (by simp) (by simp)]; exact FX_23 h p), (fun p => by rw [w.1 24 p (by simp) (by simp) (by simp)]; exact FX_24 h p), (fun p => by rw [w.1 25 p (by simp) (by simp) (by simp)]; exact FX_25 h p), (fun p => by rw [w.1 26 p (by simp) (by simp) (by simp)]; exact FX_26 h p), (fun p => by rw [w.1 27 p (by simp) (by simp) (by simp)]; exact FX_27 h p), (fun p => by rw [w.1 28 p (by simp) (by simp) (by simp)]; exact FX_28 h p), (fun p => by rw [w.1 30 p (by simp) (by simp) (by simp)]; exact FX_30 h p), (fun p => by rw [w.1 31 p (by simp) (by simp) (by simp)]; exact FX_31 h p), (fun p => by rw [w.1 32 p (by simp) (by simp) (by simp)]; exact FX_32 h p), (fun p => by rw [w.1 35 p (by simp) (by simp) (by simp)]; exact FX_35 h p), (fun p => by rw [w.1 36 p (by simp) (by simp) (by simp)]; exact FX_36 h p), (fun p => by rw [w.1 38 p (by simp) (by simp) (by simp)]; exact FX_38 h p), (fun p => by rw [w.1 39 p (by simp) (by simp) (by simp)]; exact FX_39 h p), (fun p => by rw [w.1 40 p (by simp) (by simp) (by simp)]; exact FX_40 h p), (fun p => by rw [w.1 41 p (by simp) (by simp) (by simp)]; exact FX_41 h p), (fun p => by rw [w.1 53 p (by simp) (by simp) (by simp)]; exact FX_53 h p), (fun p => by rw [w.1 54 p (by simp) (by simp) (by simp)]; exact FX_54 h p), (fun p => (w.2.2 p).2.2)⟩
theorem LW_AI {L : Int32} {t u : mz_St} {c : Nat} (a : AI L t) (w : LW t c u) (hc : c ≤ 3001) : AI L u := by
  refine ⟨⟨LW_FX a.1.1 w hc, fun _ _ _ => rfl, fun k p => ?_⟩, ?_, RR_cg a.2.2 (fun k hk => funext fun p => w.1 k p (by omega) (by omega) (by omega))⟩
  · by_cases h1 : k = 0 ∧ p = 3
    · obtain ⟨rfl, rfl⟩ := h1
      exact ti_rg _
    · by_cases h2 : k = 2
      · subst h2
        exact ti_rg _
      · by_cases h3 : k = 3
        · subst h3
          exact ti_rg _
        · rw [w.1 k p h1 h2 h3]
          exact a.1.2.2 k p
  · rw [w.1 0 2 (by simp) (by simp) (by simp)]
    exact a.2.1
theorem AI_p0 {L : Int32} {t t' : mz_St} {c p : Nat} {v : Int32} (h : AI L t) (e : t' = mz_pI t c p v) (hk : bxM c p = 0) : AI L t' := AI_tr h (MI_p0 h.1 e hk)
theorem AI_lines {n : Nat} {L : Int32} (hn : 8589934592 ≤ n) {t : mz_St} (a : AI L t) : Tp (f_MO_findLines n t) (fun u => AI L u) := by
  have f2 := FX_0_2 a.1.1
  have e2 := nI_mk f2.1
  have hc := ti_cl (mz_gI t 0 2)
  have hl : (mz_gI t 0 2).toNatClampNeg ≤ 3000 := by omega
  have w0 : LW t 0 (mz_pI t 0 3 0) := by
    refine ⟨fun k p h1 _ _ => gI_oth _ _ h1, gI_same _ _ _ _, fun p => ?_⟩
    rw [gI_oth _ _ (fun q => by have := q.1; omega), gI_oth _ _ (fun q => by have := q.1; omega)]
    exact ⟨FX_2 a.1.1 p, FX_3 a.1.1 p, FX_l a.1.1 p⟩
  obtain ⟨c, hc1, w⟩ := LW_go (t0 := t) (f := mz_gI t 1) hl ((mz_gI t 0 2).toNatClampNeg + 1) 0 0 0 _ (by omega) (by omega) (by omega) (by omega) w0
  exact ⟨_, fl_ref (by omega) hl e2, LW_AI a w hc1⟩
set_option maxRecDepth 4000 in
set_option maxHeartbeats 8000000 in
theorem s_MO_expand {n : Nat} {L : Int32} (hn : 8589934592 ≤ n) {t : mz_St} (a : AI L t) : Tp (f_MO_expand n t) (fun r => AI L r.2) := by
  have l0 : (0 : Int32).toInt = 0 := rfl
  have l1 : (1 : Int32).toInt = 1 := rfl
  unfold f_MO_expand
  refine Tp_le (fun t1 e1 => ?_)
  have a1 := AI_p0 a e1 rfl
  refine Tp_bi (AI_lines hn a1) (fun q2 a2 => ?_)
  refine Tp_le (fun t4 e4 => ?_)
  have a4 : AI L t4 := AI_tr a2 (MI_p29 a2.1 e4 rfl (by decide) (by decide))
  refine Tp_le (fun t5 e5 => ?_)
  have a5 := AI_p0 a4 e5 rfl
  refine Tp_le (fun t6 e6 => ?_)
  have a6 : AI L t6 := by rw [e6]; exact AI_fix a5 (FXp_0_8 a5.1.1 (by decide) (by decide)) rfl (by simp) (RR_out a5.2.2 (by decide))
  refine Tp_le (fun t7 e7 => ?_)
  have a7 := AI_p0 a6 e7 rfl
  refine Tp_le (fun t8 e8 => ?_)
  have a8 := AI_p0 a7 e8 rfl
  refine Tp_le (fun t9 e9 => ?_)
  have a9 : AI L t9 := by rw [e9]; exact AI_fix a8 (FXp_0_12 a8.1.1 (by decide) (by decide)) rfl (by simp) (RR_out a8.2.2 (by decide))
  refine Tp_le (fun t10 e10 => ?_)
  have a10 : AI L t10 := AI_tr a9 (MI_p5 a9.1 e10 rfl (by decide) (by decide))
  refine Tp_le (fun t11 e11 => ?_)
  have a11 : AI L t11 := AI_tr a10 (MI_p7 a10.1 e11 rfl (by decide) (by decide))
  refine Tp_le (fun t12 e12 => ?_)
  have a12 : AI L t12 := AI_tr a11 (MI_p8 a11.1 e12 rfl (by decide) (by decide))
  refine Tp_le (fun t13 e13 => ?_)
  have a13 : AI L t13 := by rw [e13]; exact AI_fix a12 (FXp_0_53 a12.1.1 (by decide) (by decide)) rfl (by simp) (RR_out a12.2.2 (by decide))
  refine Tp_le (fun t14 e14 => ?_)
  have a14 : AI L t14 := by rw [e14]; exact AI_fix a13 (FXp_0_34 a13.1.1 (by decide) (by decide)) rfl (by simp) (RR_out a13.2.2 (by decide))
  refine Tp_le (fun t15 e15 => ?_)
  have a15 : AI L t15 := by rw [e15]; exact AI_fix a14 (FXp_0_48 a14.1.1 (by decide) (by decide)) rfl (by simp) (RR_out a14.2.2 (by decide))
  refine Tp_le (fun t16 e16 => ?_)
  have a16 : AI L t16 := by rw [e16]; exact AI_fix a15 (FXp_0_51 a15.1.1 (by decide) (by decide)) rfl (by simp) (RR_out a15.2.2 (by decide))
  refine Tp_le (fun t17 e17 => ?_)
  have a17 := AI_p0 a16 e17 rfl
  have z34 : mz_gI t17 0 34 = 0 := by rw [e17, gI_oth _ _ (by simp), e16, gI_oth _ _ (by simp), e15, gI_oth _ _ (by simp), e14, gI_same]
  have z48 : mz_gI t17 0 48 = 0 := by rw [e17, gI_oth _ _ (by simp), e16, gI_oth _ _ (by simp), e15, gI_same]
  have z51 : mz_gI t17 0 51 = 0 := by rw [e17, gI_oth _ _ (by simp), e16, gI_same]
  have z34i : (mz_gI t17 0 34).toInt = 0 := by rw [z34]; rfl
  obtain ⟨d, ed⟩ := bF_eq (n := n) (x1 := 0) (x2 := 0) (x3 := mz_gI t17 0 3) (x4 := 1) (x5 := 0) (x6 := 0) (t := t17) (by omega) (by omega)
  have f3 := FX_0_3 a17.1.1
  have hf : ((mz_gI t17 0 34).toNatClampNeg : Int) = (mz_gI t17 0 34).toInt := by rw [z34]; rfl
  have rb : RB (mz_gI t17 0 34).toInt (0 : Int32).toInt (0 : Int32).toInt := by
    unfold RB
    omega
  refine Tp_bi ⟨_, ed, rfl⟩ (fun q eq => ?_)
  have aq : AI L q := by rw [← eq]; exact bF_AI a17 hf (by omega) (by omega) (by omega) (by omega) (by omega) (by omega) (by omega) (by omega) rb
  have cq : RC q := by rw [← eq]; exact bF_RC a17 hf (by omega) (by omega) (Or.inl ⟨by rw [z34]; rfl, rfl⟩)
  have q34 : (mz_gI q 0 34).toInt = 1 := by rw [← eq, bF_34, z34]; rfl
  have q48 : (mz_gI q 0 48).toInt = 0 := by rw [← eq, bF_0 (by decide) (by decide), z48]; rfl
  have q51 : (mz_gI q 0 51).toInt = 0 := by rw [← eq, bF_0 (by decide) (by decide), z51]; rfl
  have hq : HI L q := ⟨aq, cq⟩
  have f8 := FX_0_8 aq.1.1
  have s1 := lS_le hq (mz_gI q 0 34).toInt.toNat (by omega)
  refine l_MO_expand hn n q hq (Or.inr ?_) ?_
  · rw [q34, q48, q51]
    unfold RB
    omega
  · by_cases h6 : 0 < (mz_gI q 0 6).toInt
    · rw [if_pos h6]; omega
    · rw [if_neg h6]
      rw [q34] at s1 ⊢
      omega
