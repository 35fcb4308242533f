/-! every call, both sides: it answers, and the state stays in its boxes -/
theorem CI_text {L L' : Int32} {t u : mz_St} (h : CI L t) (e : ∀ k p, k ≠ 2 → ¬ (k = 1 ∧ p = 3) → mz_gI u k p = mz_gI t k p) (e3 : mz_gI u 1 3 = L') (h0 : 0 ≤ L'.toInt) (h1 : L'.toInt ≤ 3000) : CI L' u := by
  refine ⟨e3, ⟨h0, h1⟩, fun k p => ?_⟩
  by_cases h2 : k = 2
  · subst h2
    exact ti_rg _
  · by_cases h3 : k = 1 ∧ p = 3
    · obtain ⟨rfl, rfl⟩ := h3
      exact ti_rg _
    · rw [e k p h2 h3]
      exact h.2.2 k p
theorem AI_text {L L' : Int32} {t u : mz_St} (a : AI L t) (e : ∀ k p, k ≠ 1 → ¬ (k = 0 ∧ p = 0) → ¬ (k = 0 ∧ p = 2) → mz_gI u k p = mz_gI t k p) (e2 : mz_gI u 0 2 = L') (h0 : 0 ≤ L'.toInt) (h1 : L'.toInt ≤ 3000) : AI L' u := by
  have h := a.1.1
  have w : ∀ k p, k ≠ 1 → k ≠ 0 → mz_gI u k p = mz_gI t k p := fun k p a b => e k p a (fun q => b q.1) (fun q => b q.1)
  have z : ∀ p, p ≠ 0 → p ≠ 2 → mz_gI u 0 p = mz_gI t 0 p := fun p a b => e 0 p (by decide) (fun q => a q.2) (fun q => b q.2)
  have hf : FX u := ⟨(by rw [e2]; exact ⟨h0, h1⟩), (by rw [z 3 (by simp) (by simp)]; exact FX_0_3 h), (by rw [z 8 (by simp) (by simp)]; exact FX_0_8 h), (by rw [z 12 (by simp) (by simp)]; exact FX_0_12 h), (by rw [z 34 (by simp) (by simp)]; exact FX_0_34 h), (by rw [z 48 (by simp) (by simp)]; exact FX_0_48 h), (by rw [z 51 (by simp) (by simp)]; exact FX_0_51 h), (by rw [z 53 (by simp) (by simp)]; exact FX_0_53 h), (by rw [z 75 (by simp) (by simp)]; exact FX_0_75 h),
    (fun p => by rw [w 2 p (by simp) (by simp)]; exact FX_2 h p), (fun p => by rw [w 3 p (by simp) (by simp)]; exact FX_3 h p), (fun p => by rw [w 6 p (by simp) (by simp)]; exact FX_6 h p), (fun p => by rw [w 7 p (by simp) (by simp)]; exact FX_7 h p), (fun p => by rw [w 10 p (by simp) (by simp)]; exact FX_10 h p), (fun p => by rw [w 13 p (by simp) (by simp)]; exact FX_13 h p), (fun p => by rw [w 14 p (by simp) (by simp)]; exact FX_14 h p), (fun p => by rw [w 23 p (by simp) (by simp)]; exact FX_23 h p), (fun p => by rw [w 24 p (by simp) (by simp)]; exact FX_24 h p), (fun p => by rw [w 25 p (by simp) (by simp)]; exact FX_25 h p), (fun p => by rw [w 26 p (by simp) (by simp)]; exact FX_26 h p), (fun p => by rw [w 27 p (by simp) (by simp)]; exact FX_27 h p), (fun p => by rw [w 28 p (by simp) (by simp)]; exact FX_28 h p), (fun p => by rw [w 30 p (by simp) (by simp)]; exact FX_30 h p), (fun p => by rw [w 31 p (by simp) (by simp)]; exact FX_31 h p), (fun p => by rw [w 32 p (by simp) (by simp)]; exact FX_32 h p), (fun p => by rw [w 35 p (by simp) (by simp)]; exact FX_35 h p), (fun p => by rw [w 36 p (by simp) (by simp)]; exact FX_36 h p), (fun p => by rw [w 38 p (by simp) (by simp)]; exact FX_38 h p), (fun p => by rw [w 39 p (by simp) (by simp)]; exact FX_39 h p), (fun p => by rw [w 40 p (by simp) (by simp)]; exact FX_40 h p), (fun p => by rw [w 41 p (by simp) (by simp)]; exact FX_41 h p), (fun p => by rw [w 53 p (by simp) (by simp)]; exact FX_53 h p), (fun p => by rw [w 54 p (by simp) (by simp)]; exact FX_54 h p), (fun p => by rw [w 2 p (by simp) (by simp), w 3 p (by simp) (by simp)]; exact FX_l h p)⟩
  refine ⟨⟨hf, fun _ _ _ => rfl, fun k p => ?_⟩, e2, RR_cg a.2.2 (fun k hk => funext fun p => w k p (by omega) (by omega))⟩
  by_cases h1 : k = 1
  · subst h1
    exact ti_rg _
  · by_cases h2 : k = 0 ∧ p = 0
    · obtain ⟨rfl, rfl⟩ := h2
      exact ti_rg _
    · by_cases h3 : k = 0 ∧ p = 2
      · obtain ⟨rfl, rfl⟩ := h3
        exact ti_rg _
      · rw [e k p h1 h2 h3]
        exact a.1.2.2 k p
theorem gw_C {x : Int32} {k j : Nat} (h1 : ¬ (k = 1 ∧ j = 3)) (h2 : ¬ k = 2) : ∀ r len t, mz_gI (fx_wC x r len t) k j = mz_gI t k j := by
  intro r
  induction r with
  | zero => intro len t; rfl
  | succ r ih =>
    intro len t
    unfold fx_wC
    split
    · exact ih _ _
    · rw [ih, gI_pI, gI_pI, if_neg h1, if_neg (fun q => h2 q.1)]
theorem gw_M {x : Int32} {k j : Nat} (h1 : ¬ (k = 0 ∧ j = 2)) (h2 : ¬ k = 1) : ∀ r len t, mz_gI (fx_wM x r len t) k j = mz_gI t k j := by
  intro r
  induction r with
  | zero => intro len t; rfl
  | succ r ih =>
    intro len t
    unfold fx_wM
    split
    · exact ih _ _
    · rw [ih, gI_pI, gI_pI, if_neg h1, if_neg (fun q => h2 q.1)]
theorem gl_C {x : Int32} : ∀ r len t, mz_gI t 1 3 = nI len → mz_gI (fx_wC x r len t) 1 3 = nI (len + fx_n x r) := by
  intro r
  induction r with
  | zero => intro len t h; exact h
  | succ r ih =>
    intro len t h
    unfold fx_wC fx_n
    by_cases hc : fx_c x (r + 1) = 0
    · rw [if_pos hc, ih len t h, if_pos hc]
      simp
    · rw [if_neg hc, ih (len + 1) _ (gI_same _ _ _ _), if_neg hc, show len + 1 + fx_n x r = len + (1 + fx_n x r) by omega]
theorem gl_M {x : Int32} : ∀ r len t, mz_gI t 0 2 = nI len → mz_gI (fx_wM x r len t) 0 2 = nI (len + fx_n x r) := by
  intro r
  induction r with
  | zero => intro len t h; exact h
  | succ r ih =>
    intro len t h
    unfold fx_wM fx_n
    by_cases hc : fx_c x (r + 1) = 0
    · rw [if_pos hc, ih len t h, if_pos hc]
      simp
    · rw [if_neg hc, ih (len + 1) _ (gI_same _ _ _ _), if_neg hc, show len + 1 + fx_n x r = len + (1 + fx_n x r) by omega]
/-- both sides stand well, one text's length -/
def BI (tC tM : mz_St) : Prop := ∃ L, CI L tC ∧ AI L tM
theorem BI_put {n : Nat} {x : Int32} {tC tM : mz_St} (hn : 8589934592 ≤ n) (h : BI tC tM) : ∃ q r, h_put n x tC = some q ∧ f_MO_put n x tM = some r ∧ mz_gI r.2 0 0 = q.1 ∧ (q.1 = 0 → q.2.1 = some r.1.toInt64) ∧ BI q.2.2 r.2 := by
  obtain ⟨L, ci, a⟩ := h
  obtain ⟨len, el⟩ : ∃ len, len = L.toNatClampNeg := ⟨_, rfl⟩
  have hL := nI_mk ci.2.1.1
  rw [← el] at hL
  have hc := ti_cl L
  have hb := ci.2.1
  have hl : len ≤ 3000 := by omega
  have e1 : mz_gI tC 1 3 = nI len := ci.1.trans hL
  have e2 : mz_gI tM 0 2 = nI len := a.2.1.trans hL
  have b0 : ∀ v, AI L (mz_pI tM 0 0 v) := fun v => AI_p0 a rfl rfl
  rw [fx_h_put (by omega) e1 hl, fx_m_put (by omega) e2 hl]
  by_cases hg : fx_good x 4 = false
  · rw [if_pos hg, if_pos hg]
    exact ⟨_, _, rfl, rfl, gI_same _ _ _ _, fun q => absurd (show (1 : Int32) = 0 from q) (by decide), L, ci, b0 _⟩
  · rw [if_neg hg, if_neg hg]
    by_cases hc : len + fx_n x 4 ≤ 3000
    · rw [if_pos hc, if_pos hc]
      have tn := ti_nI (k := len + fx_n x 4) (by omega)
      refine ⟨_, _, rfl, rfl, ?_, fun _ => rfl, nI (len + fx_n x 4), ?_, ?_⟩
      · exact (gw_M (by decide) (by decide) 4 len _).trans (gI_same _ _ _ _)
      · exact CI_text ci (fun k p h2 h3 => gw_C h3 h2 4 len tC) (gl_C 4 len tC e1) (by omega) (by omega)
      · refine AI_text (b0 0) (fun k p h1 _ h3 => gw_M h3 h1 4 len _) (gl_M 4 len _ ?_) (by omega) (by omega)
        rw [gI_oth _ _ (by simp)]
        exact e2
    · rw [if_neg hc, if_neg hc]
      exact ⟨_, _, rfl, rfl, gI_same _ _ _ _, fun q => absurd (show (2 : Int32) = 0 from q) (by decide), L, ci, b0 _⟩
theorem BI_end {n : Nat} {x : Int32} {tC tM : mz_St} (h : BI tC tM) : ∃ q r, h_end n x tC = some q ∧ f_MO_end n x tM = some r ∧ mz_gI r 0 0 = q.1 ∧ BI q.2.2 r := by
  obtain ⟨L, ci, a⟩ := h
  have e1 := ci.1
  have e2 := a.2.1
  by_cases ho : x < 0 ∨ L < x
  · have c1 : f_MH_end n x tC = none := by
      unfold f_MH_end f_MH_end_15
      by_cases h0 : x < 0
      · rw [if_pos h0]
      · rw [if_neg h0, e1, if_neg (pz_nle.mpr (ho.resolve_left h0))]
    have c2 : f_MH_end_T n x tC = some 0 := by
      unfold f_MH_end_T f_MH_end_T_15
      by_cases h0 : x < 0
      · rw [if_pos h0]
      · rw [if_neg h0, e1, if_neg (pz_nle.mpr (ho.resolve_left h0))]
    have c3 : f_MO_in n x 0 L tM = some (0, tM) := by
      unfold f_MO_in
      rcases ho with h | h
      · rw [if_pos h]
      · rw [if_pos h]
        exact ite_self _
    refine ⟨(1, none, tC), mz_pI tM 0 0 1, ?_, ?_, gI_same _ _ _ _, L, ci, AI_p0 a rfl rfl⟩
    · unfold h_end
      rw [c1, c2]
      rfl
    · unfold f_MO_end f_MO_end_18
      rw [e2, c3]
      simp only [Option.bind_some, if_true, fx_ref]
      rfl
  · have h0 : ¬ x < 0 := fun q => ho (Or.inl q)
    have h1 : x ≤ L := pz_nlt.mp (fun q => ho (Or.inr q))
    have l0 : (0 : Int32).toInt = 0 := rfl
    have i0 := ti_nl h0
    have i1 := ti_e h1
    have hb := ci.2.1
    have c1 : f_MH_end n x tC = some (mz_pI tC 1 3 x) := by
      unfold f_MH_end
      rw [if_neg h0, e1, if_pos h1]
      rfl
    have c3 : f_MO_end n x tM = some (mz_pI (mz_pI tM 0 0 0) 0 2 x) := by
      unfold f_MO_end f_MO_end_18 f_MO_in
      rw [e2, if_neg h0, if_neg (pz_nlt.mpr h1)]
      simp only [Option.bind_some, fx_ref]
      rfl
    refine ⟨(0, none, mz_pI tC 1 3 x), _, ?_, c3, ?_, x, ?_, ?_⟩
    · unfold h_end
      rw [c1]
    · rw [gI_oth _ _ (by simp), gI_same]
    · exact CI_text ci (fun k p _ h3 => gI_oth _ _ h3) (gI_same _ _ _ _) (by omega) (by omega)
    · exact AI_text a (fun k p _ h2 h3 => by rw [gI_oth _ _ h3, gI_oth _ _ h2]) (gI_same _ _ _ _) (by omega) (by omega)
theorem BI_expand {n : Nat} {tC tM : mz_St} (hn : 8589934592 ≤ n) (h : BI tC tM) : ∃ q r, f_MH_expand n tC = some q ∧ f_MO_expand n tM = some r ∧ BI q.2 r.2 := by
  obtain ⟨L, ci, a⟩ := h
  obtain ⟨q, e1, h1⟩ := s_MH_expand hn ci
  obtain ⟨r, e2, h2⟩ := s_MO_expand hn a
  exact ⟨q, r, e1, e2, L, h1, h2⟩
theorem c_about {n : Nat} {x : Int32} {t : mz_St} : ∃ q, h_about n x t = some q ∧ q.2.2 = t := by
  have key : (∃ v, f_MH_about n x t = some (v, t)) ∨ (f_MH_about n x t = none ∧ f_MH_about_T n x t = some 0) := by
    unfold f_MH_about f_MH_about_T
    by_cases h0 : x = (0 : Int32)
    · rw [if_pos h0, if_pos h0]
      exact Or.inl ⟨_, rfl⟩
    rw [if_neg h0, if_neg h0]
    by_cases h1 : x = (1 : Int32)
    · rw [if_pos h1, if_pos h1]
      exact Or.inl ⟨_, rfl⟩
    rw [if_neg h1, if_neg h1]
    by_cases h2 : x = (2 : Int32)
    · rw [if_pos h2, if_pos h2]
      exact Or.inl ⟨_, rfl⟩
    rw [if_neg h2, if_neg h2]
    by_cases h3 : x = (3 : Int32)
    · rw [if_pos h3, if_pos h3]
      exact Or.inl ⟨_, rfl⟩
    rw [if_neg h3, if_neg h3]
    by_cases h4 : x = (4 : Int32)
    · rw [if_pos h4, if_pos h4]
      exact Or.inl ⟨_, rfl⟩
    rw [if_neg h4, if_neg h4]
    by_cases h5 : x = (5 : Int32)
    · rw [if_pos h5, if_pos h5]
      exact Or.inl ⟨_, rfl⟩
    rw [if_neg h5, if_neg h5]
    by_cases h6 : x = (6 : Int32)
    · rw [if_pos h6, if_pos h6]
      exact Or.inl ⟨_, rfl⟩
    rw [if_neg h6, if_neg h6]
    by_cases h7 : x = (7 : Int32)
    · rw [if_pos h7, if_pos h7]
      exact Or.inl ⟨_, rfl⟩
    rw [if_neg h7, if_neg h7]
    by_cases h8 : x = (8 : Int32)
    · rw [if_pos h8, if_pos h8]
      exact Or.inl ⟨_, rfl⟩
    rw [if_neg h8, if_neg h8]
    exact Or.inr ⟨rfl, rfl⟩
  unfold h_about
  rcases key with ⟨v, e⟩ | ⟨e, e'⟩
  · rw [e]
    exact ⟨_, rfl, rfl⟩
  · rw [e, e']
    exact ⟨_, rfl, rfl⟩
theorem BI_about {n : Nat} {x : Int32} {tC tM : mz_St} (hn : 8589934592 ≤ n) (h : BI tC tM) : ∃ q r, h_about n x tC = some q ∧ f_MO_about n x tM = some r ∧ BI q.2.2 r.2 := by
  obtain ⟨L, ci, a⟩ := h
  obtain ⟨q, e1, h1⟩ := c_about (n := n) (x := x) (t := tC)
  obtain ⟨r, e2, h2⟩ := s_MO_about hn (x1 := x) a.1
  exact ⟨q, r, e1, e2, L, by rw [h1]; exact ci, AI_tr a h2⟩
theorem c_line {n : Nat} {L x y : Int32} {t : mz_St} (hn : 8589934592 ≤ n) (ci : CI L t) : ∃ q, h_line n x y t = some q ∧ CI L q.2.2 := by
  have key : (∃ r, f_MH_line n x y t = some r ∧ CI L r.2) ∨ (f_MH_line n x y t = none ∧ (f_MH_line_T n x y t = some 2 ∨ f_MH_line_T n x y t = some 0)) := by
    unfold f_MH_line f_MH_line_T f_MH_line_18 f_MH_line_T_18
    by_cases h0 : x < 0
    · rw [if_pos h0, if_pos h0]
      exact Or.inr ⟨rfl, Or.inl rfl⟩
    rw [if_neg h0, if_neg h0]
    by_cases h1 : x < mz_gI t 32 5
    · rw [if_pos h1, if_pos h1]
      by_cases h2 : 0 ≤ y
      · rw [if_pos h2, if_pos h2]
        obtain ⟨r, e, h⟩ := s_OU_tell hn ci (x1 := x) (x2 := y)
        rw [e]
        exact Or.inl ⟨_, rfl, h.1⟩
      · rw [if_neg h2, if_neg h2]
        exact Or.inr ⟨rfl, Or.inr rfl⟩
    · rw [if_neg h1, if_neg h1]
      exact Or.inr ⟨rfl, Or.inl rfl⟩
  unfold h_line
  rcases key with ⟨r, e, h⟩ | ⟨e, e' | e'⟩
  · rw [e]
    exact ⟨_, rfl, h⟩
  · rw [e, e']
    exact ⟨_, rfl, ci⟩
  · rw [e, e']
    exact ⟨_, rfl, ci⟩
theorem BI_line {n : Nat} {x y : Int32} {tC tM : mz_St} (hn : 8589934592 ≤ n) (h : BI tC tM) : ∃ q r, h_line n x y tC = some q ∧ f_MO_line n x y tM = some r ∧ BI q.2.2 r.2 := by
  obtain ⟨L, ci, a⟩ := h
  obtain ⟨q, e1, h1⟩ := c_line (x := x) (y := y) hn ci
  obtain ⟨r, e2, h2⟩ := s_MO_line hn (x1 := x) (x2 := y) a.1
  exact ⟨q, r, e1, e2, L, h1, AI_tr a h2⟩
theorem c_constant {n : Nat} {L x y : Int32} {t : mz_St} (hn : 8589934592 ≤ n) (ci : CI L t) : ∃ q, h_constant n x y t = some q ∧ CI L q.2.2 := by
  have l0 : (0 : Int32).toInt = 0 := rfl
  have key : (∃ r, f_MH_constant n x y t = some r ∧ CI L r.2) ∨ (f_MH_constant n x y t = none ∧ (f_MH_constant_T n x y t = some 2 ∨ f_MH_constant_T n x y t = some 0)) := by
    unfold f_MH_constant f_MH_constant_T f_MH_constant_21 f_MH_constant_T_21
    by_cases h0 : x < 0
    · rw [if_pos h0, if_pos h0]
      exact Or.inr ⟨rfl, Or.inl rfl⟩
    rw [if_neg h0, if_neg h0]
    by_cases h1 : x < mz_gI t 15 4
    · rw [if_pos h1, if_pos h1]
      by_cases h2 : 0 ≤ y
      · rw [if_pos h2, if_pos h2]
        have i0 := ti_nl h0
        have i1 := ti_l h1
        have b := CI_g5 ci (c := 15) (p := 4) rfl
        by_cases h3 : y = 0
        · rw [if_pos h3]
          obtain ⟨r, e, h⟩ := s_CN_numberOf hn ci (x1 := x)
          rw [e]
          exact Or.inl ⟨_, rfl, h.1⟩
        · rw [if_neg h3]
          obtain ⟨r, e, h⟩ := s_NA_sign_c hn ci (x1 := x) (x2 := y - 1) (by omega) (by omega)
          rw [e]
          exact Or.inl ⟨_, rfl, h.1⟩
      · rw [if_neg h2, if_neg h2]
        exact Or.inr ⟨rfl, Or.inr rfl⟩
    · rw [if_neg h1, if_neg h1]
      exact Or.inr ⟨rfl, Or.inl rfl⟩
  unfold h_constant
  rcases key with ⟨r, e, h⟩ | ⟨e, e' | e'⟩
  · rw [e]
    exact ⟨_, rfl, h⟩
  · rw [e, e']
    exact ⟨_, rfl, ci⟩
  · rw [e, e']
    exact ⟨_, rfl, ci⟩
theorem BI_constant {n : Nat} {x y : Int32} {tC tM : mz_St} (hn : 8589934592 ≤ n) (h : BI tC tM) : ∃ q r, h_constant n x y tC = some q ∧ f_MO_constant n x y tM = some r ∧ BI q.2.2 r.2 := by
  obtain ⟨L, ci, a⟩ := h
  obtain ⟨q, e1, h1⟩ := c_constant (x := x) (y := y) hn ci
  obtain ⟨r, e2, h2⟩ := s_MO_constant hn (x1 := x) (x2 := y) a.1
  exact ⟨q, r, e1, e2, L, h1, AI_tr a h2⟩
theorem c_macro {n : Nat} {L x y : Int32} {t : mz_St} (hn : 8589934592 ≤ n) (ci : CI L t) : ∃ q, h_macro n x y t = some q ∧ CI L q.2.2 := by
  have key : (∃ r, f_MH_macro n x y t = some r ∧ CI L r.2) ∨ (f_MH_macro n x y t = none ∧ (f_MH_macro_T n x y t = some 2 ∨ f_MH_macro_T n x y t = some 0)) := by
    unfold f_MH_macro f_MH_macro_T f_MH_macro_21 f_MH_macro_T_21
    by_cases h0 : x < 0
    · rw [if_pos h0, if_pos h0]
      exact Or.inr ⟨rfl, Or.inl rfl⟩
    rw [if_neg h0, if_neg h0]
    by_cases h1 : x < mz_gI t 27 4
    · rw [if_pos h1, if_pos h1]
      by_cases h2 : 0 ≤ y
      · rw [if_pos h2, if_pos h2]
        obtain ⟨r, e, h⟩ := s_MA_tell hn ci (x1 := x) (x2 := y)
        rw [e]
        exact Or.inl ⟨_, rfl, h.1⟩
      · rw [if_neg h2, if_neg h2]
        exact Or.inr ⟨rfl, Or.inr rfl⟩
    · rw [if_neg h1, if_neg h1]
      exact Or.inr ⟨rfl, Or.inl rfl⟩
  unfold h_macro
  rcases key with ⟨r, e, h⟩ | ⟨e, e' | e'⟩
  · rw [e]
    exact ⟨_, rfl, h⟩
  · rw [e, e']
    exact ⟨_, rfl, ci⟩
  · rw [e, e']
    exact ⟨_, rfl, ci⟩
theorem BI_macro {n : Nat} {x y : Int32} {tC tM : mz_St} (hn : 8589934592 ≤ n) (h : BI tC tM) : ∃ q r, h_macro n x y tC = some q ∧ f_MO_macro n x y tM = some r ∧ BI q.2.2 r.2 := by
  obtain ⟨L, ci, a⟩ := h
  obtain ⟨q, e1, h1⟩ := c_macro (x := x) (y := y) hn ci
  obtain ⟨r, e2, h2⟩ := s_MO_macro hn (x1 := x) (x2 := y) a.1
  exact ⟨q, r, e1, e2, L, h1, AI_tr a h2⟩
