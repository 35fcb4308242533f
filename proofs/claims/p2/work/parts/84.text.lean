/-! PURE: one text on both sides: put, end, lines -/
/-- the same text, of len signs, each of them a sign that may stand -/
def Tx (tC tM : mz_St) (len : Nat) : Prop := mz_gI tC 1 3 = nI len ∧ mz_gI tM 0 2 = nI len ∧ len ≤ 3000 ∧ ∀ i, i < len → mz_gI tC 2 i = mz_gI tM 1 i ∧ fx_ok (mz_gI tM 1 i) = true
theorem Tx_zero : Tx mz_zC mz_zM 0 := ⟨rfl, rfl, by omega, fun i h => absurd h (Nat.not_lt_zero i)⟩
theorem Tx_put {x : Int32} : ∀ r len tC tM, Tx tC tM len → len + fx_n x r ≤ 3000 → fx_good x r = true → Tx (fx_wC x r len tC) (fx_wM x r len tM) (len + fx_n x r) := by
  intro r
  induction r with
  | zero => intro len tC tM h _ _; exact h
  | succ r ih =>
    intro len tC tM h hle hg
    have hg2 : (fx_c x (r + 1) = 0 ∨ fx_ok (fx_c x (r + 1)) = true) ∧ fx_good x r = true := by
      simpa [fx_good] using hg
    by_cases hc : fx_c x (r + 1) = 0
    · have hle' : len + fx_n x r ≤ 3000 := by
        simpa [fx_n, hc] using hle
      have := ih len tC tM h hle' hg2.2
      simpa [fx_wC, fx_wM, fx_n, hc] using this
    · have ho := hg2.1.resolve_left hc
      have hle' : len + 1 + fx_n x r ≤ 3000 := by
        have q := hle
        simp only [fx_n, hc, if_false] at q
        omega
      have hT : Tx (mz_pI (mz_pI tC 2 len (fx_c x (r + 1))) 1 3 (nI (len + 1))) (mz_pI (mz_pI tM 1 len (fx_c x (r + 1))) 0 2 (nI (len + 1))) (len + 1) := by
        refine ⟨rfl, rfl, by omega, fun i hi => ?_⟩
        have eC : mz_gI (mz_pI (mz_pI tC 2 len (fx_c x (r + 1))) 1 3 (nI (len + 1))) 2 i = if i = len then fx_c x (r + 1) else mz_gI tC 2 i := by
          rw [gI_pI, gI_pI]
          simp
        have eM : mz_gI (mz_pI (mz_pI tM 1 len (fx_c x (r + 1))) 0 2 (nI (len + 1))) 1 i = if i = len then fx_c x (r + 1) else mz_gI tM 1 i := by
          rw [gI_pI, gI_pI]
          simp
        rw [eC, eM]
        by_cases e : i = len
        · rw [if_pos e, if_pos e]
          exact ⟨rfl, ho⟩
        · rw [if_neg e, if_neg e]
          exact h.2.2.2 i (by omega)
      have := ih (len + 1) _ _ hT hle' hg2.2
      rw [show len + 1 + fx_n x r = len + fx_n x (r + 1) by simp only [fx_n, hc, if_false]; omega] at this
      simpa only [fx_wC, fx_wM, hc, if_false] using this
/-- what put leaves alone -/
theorem fx_wC_keep {x : Int32} {k j : Nat} (h1 : ¬ (k = 1 ∧ j = 3)) (h2 : ¬ k = 2) : ∀ r len t, mz_gI (fx_wC x r len t) k j = mz_gI t k j := by
  intro r
  induction r with
  | zero => intro len t; rfl
  | succ r ih =>
    intro len t
    unfold fx_wC
    split
    · exact ih _ _
    · rw [ih, gI_pI, gI_pI, if_neg h1, if_neg (fun q => h2 q.1)]
theorem fx_wM_keep {x : Int32} {k j : Nat} (h1 : ¬ (k = 0 ∧ j = 2)) (h2 : ¬ k = 1) : ∀ r len t, mz_gI (fx_wM x r len t) k j = mz_gI t k j := by
  intro r
  induction r with
  | zero => intro len t; rfl
  | succ r ih =>
    intro len t
    unfold fx_wM
    split
    · exact ih _ _
    · rw [ih, gI_pI, gI_pI, if_neg h1, if_neg (fun q => h2 q.1)]
theorem fx_wC_keepL {x : Int32} {k j : Nat} : ∀ r len t, mz_gL (fx_wC x r len t) k j = mz_gL t k j := by
  intro r
  induction r with
  | zero => intro len t; rfl
  | succ r ih =>
    intro len t
    unfold fx_wC
    split
    · exact ih _ _
    · rw [ih]
      rfl
theorem fx_wM_keepL {x : Int32} {k j : Nat} : ∀ r len t, mz_gL (fx_wM x r len t) k j = mz_gL t k j := by
  intro r
  induction r with
  | zero => intro len t; rfl
  | succ r ih =>
    intro len t
    unfold fx_wM
    split
    · exact ih _ _
    · rw [ih]
      rfl
/-- put, both sides, one text: alike, and one text again; nothing else changes but the reference's 'thrown' -/
theorem Tx_putS {n len : Nat} {x : Int32} {tC tM : mz_St} (hn : 5 ≤ n) (h : Tx tC tM len) : ∃ q r len', h_put n x tC = some q ∧ f_MO_put n x tM = some r ∧ mz_gI r.2 0 0 = q.1 ∧ (q.1 = 0 → q.2.1 = some r.1.toInt64) ∧ Tx q.2.2 r.2 len' ∧
    (∀ k j, ¬ (k = 1 ∧ j = 3) → ¬ k = 2 → mz_gI q.2.2 k j = mz_gI tC k j) ∧ (∀ k j, mz_gL q.2.2 k j = mz_gL tC k j) ∧
    (∀ k j, ¬ (k = 0 ∧ j = 0) → ¬ (k = 0 ∧ j = 2) → ¬ k = 1 → mz_gI r.2 k j = mz_gI tM k j) ∧ (∀ k j, mz_gL r.2 k j = mz_gL tM k j) := by
  have e0 : ∀ v, Tx tC (mz_pI tM 0 0 v) len := fun v => ⟨h.1, h.2.1, h.2.2.1, h.2.2.2⟩
  have e1 : ∀ v k j, ¬ (k = 0 ∧ j = 0) → mz_gI (mz_pI tM 0 0 v) k j = mz_gI tM k j := fun v k j q => by rw [gI_pI, if_neg q]
  rw [fx_h_put hn h.1 h.2.2.1, fx_m_put hn h.2.1 h.2.2.1]
  by_cases hg : fx_good x 4 = false
  · rw [if_pos hg, if_pos hg]
    exact ⟨_, _, len, rfl, rfl, rfl, fun q => absurd (show (1 : Int32) = 0 from q) (by decide), e0 _, fun _ _ _ _ => rfl, fun _ _ => rfl, fun k j a _ _ => e1 _ k j a, fun _ _ => rfl⟩
  · rw [if_neg hg, if_neg hg]
    by_cases hc : len + fx_n x 4 ≤ 3000
    · rw [if_pos hc, if_pos hc]
      refine ⟨_, _, len + fx_n x 4, rfl, rfl, ?_, fun _ => rfl, Tx_put 4 len _ _ (e0 0) hc (by simpa using hg), fun k j a b => fx_wC_keep a b 4 len tC, fun k j => fx_wC_keepL 4 len tC, fun k j a b c => ?_, fun k j => fx_wM_keepL 4 len _⟩
      · exact fx_wM_keep (by decide) (by decide) 4 len _
      · exact (fx_wM_keep b c 4 len _).trans (e1 0 k j a)
    · rw [if_neg hc, if_neg hc]
      exact ⟨_, _, len, rfl, rfl, rfl, fun q => absurd (show (2 : Int32) = 0 from q) (by decide), e0 _, fun _ _ _ _ => rfl, fun _ _ => rfl, fun k j a _ _ => e1 _ k j a, fun _ _ => rfl⟩
/-- end, both sides, one text -/
theorem Tx_endS {n len : Nat} {x : Int32} {tC tM : mz_St} (h : Tx tC tM len) : ∃ q r len', h_end n x tC = some q ∧ f_MO_end n x tM = some r ∧ mz_gI r 0 0 = q.1 ∧ Tx q.2.2 r len' ∧
    (∀ k j, ¬ (k = 1 ∧ j = 3) → mz_gI q.2.2 k j = mz_gI tC k j) ∧ (∀ k j, mz_gL q.2.2 k j = mz_gL tC k j) ∧
    (∀ k j, ¬ (k = 0 ∧ j = 0) → ¬ (k = 0 ∧ j = 2) → mz_gI r k j = mz_gI tM k j) ∧ (∀ k j, mz_gL r k j = mz_gL tM k j) := by
  by_cases ho : x < 0 ∨ nI len < x
  · have e1 : f_MH_end n x tC = none := by
      unfold f_MH_end f_MH_end_15
      by_cases h0 : x < 0
      · rw [if_pos h0]
      · rw [if_neg h0, h.1, if_neg (pz_nle.mpr (ho.resolve_left h0))]
    have e2 : f_MH_end_T n x tC = some 0 := by
      unfold f_MH_end_T f_MH_end_T_15
      by_cases h0 : x < 0
      · rw [if_pos h0]
      · rw [if_neg h0, h.1, if_neg (pz_nle.mpr (ho.resolve_left h0))]
    refine ⟨(1, none, tC), mz_pI tM 0 0 1, len, ?_, ?_, rfl, ⟨h.1, h.2.1, h.2.2.1, h.2.2.2⟩, fun _ _ _ => rfl, fun _ _ => rfl, fun k j a _ => ?_, fun _ _ => rfl⟩
    · unfold h_end
      rw [e1, e2]
      rfl
    · unfold f_MO_end f_MO_end_18
      rw [h.2.1, fr_in0 ho]
      simp only [Option.bind_some, if_true, fr_refuse1]
      rfl
    · rw [gI_pI, if_neg a]
  · have h0 : ¬ x < 0 := fun q => ho (Or.inl q)
    have h1 : x ≤ nI len := pz_nlt.mp (fun q => ho (Or.inr q))
    obtain ⟨j, hj31, rfl⟩ := nI_of h0
    have hj : j ≤ len := by
      have := h.2.2.1
      exact (pz_le hj31 (by omega)).mp h1
    have e1 : f_MH_end n (nI j) tC = some (mz_pI tC 1 3 (nI j)) := by
      unfold f_MH_end
      rw [if_neg h0, h.1, if_pos h1]
      rfl
    have e3 : f_MO_end n (nI j) tM = some (mz_pI (mz_pI tM 0 0 0) 0 2 (nI j)) := by
      unfold f_MO_end f_MO_end_18 f_MO_in
      rw [h.2.1, if_neg h0, if_neg (pz_nlt.mpr h1)]
      simp only [Option.bind_some, fx_ref]
      rfl
    refine ⟨(0, none, mz_pI tC 1 3 (nI j)), mz_pI (mz_pI tM 0 0 0) 0 2 (nI j), j, ?_, e3, rfl, ⟨rfl, rfl, by have := h.2.2.1; omega, fun i hi => h.2.2.2 i (by omega)⟩, fun k i a => ?_, fun _ _ => rfl, fun k i a b => ?_, fun _ _ => rfl⟩
    · unfold h_end
      rw [e1]
    · show mz_gI (mz_pI tC 1 3 (nI j)) k i = _
      rw [gI_pI, if_neg a]
    · rw [gI_pI, if_neg b, gI_pI, if_neg a]
