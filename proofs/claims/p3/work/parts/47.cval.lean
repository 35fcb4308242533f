/-! PURE: values on the class's side: L = row 2, e = where the line stops; places are the row's -/
theorem cv_num_4 {n b : Nat} : ∀ k a c (x : Int32) (t : mz_St), cr_R t a b → b - a < k → c + (b - a) < 2 ^ 30 →
    f_RE_number_4 n k x (nI c) t = f_RE_number_68 n (sp_dv (mz_gI t 2) (sp_dr (mz_gI t 2) (b - a) a - a) a x) (nI (c + (sp_dr (mz_gI t 2) (b - a) a - a))) (mz_pI t 6 2 (nI (sp_dr (mz_gI t 2) (b - a) a))) := by
  intro k
  induction k with
  | zero => intro a c x t _ h; omega
  | succ k ih =>
    intro a c x t h hk hc
    have hb := h.2.2.2
    have hab := h.2.2.1
    unfold f_RE_number_4
    rw [h.1, h.2.1]
    by_cases hlt : b ≤ a
    · rw [if_pos (nI_le hlt (by omega)), show b - a = 0 by omega]
      show _ = f_RE_number_68 n (sp_dv (mz_gI t 2) (a - a) a x) (nI (c + (a - a))) (mz_pI t 6 2 (nI a))
      rw [pI_self h.1, show a - a = 0 by omega]
      rfl
    · rw [if_neg (nI_ge (by omega) (by omega)), ev_at (by omega)]
      obtain ⟨m, hm⟩ : ∃ m, b - a = m + 1 := ⟨b - a - 1, by omega⟩
      rw [hm]
      simp only [Option.bind_some, ev_dig, sp_bi_0, sp_dr]
      cases hd : sp_d (mz_gI t 2 a)
      · simp only [if_true, Bool.false_eq_true, if_false]
        rw [pI_self h.1, show a - a = 0 by omega]
        rfl
      · simp only [Bool.true_eq_false, if_false, if_true]
        rw [h.1, ev_at (by omega)]
        simp only [Option.bind_some, mz_let]
        have hR : cr_R (mz_pI t 6 2 (nI (a + 1))) (a + 1) b := h.to (by omega)
        have hle := sp_dr_le (mz_gI t 2) m (a + 1)
        rw [h.1, show nI a + (1 : Int32) = nI (a + 1) from nI_1 a, show nI c + (1 : Int32) = nI (c + 1) from nI_1 c, ih (a + 1) (c + 1) _ _ hR (by omega) (by omega), show b - (a + 1) = m by omega, pI_pI]
        show f_RE_number_68 n (sp_dv (mz_gI t 2) (sp_dr (mz_gI t 2) m (a + 1) - (a + 1)) (a + 1) (x * 10 + (mz_gI t 2 a - 48))) (nI (c + 1 + (sp_dr (mz_gI t 2) m (a + 1) - (a + 1)))) (mz_pI t 6 2 (nI (sp_dr (mz_gI t 2) m (a + 1)))) = _
        rw [show sp_dr (mz_gI t 2) m (a + 1) - a = (sp_dr (mz_gI t 2) m (a + 1) - (a + 1)) + 1 by omega]
        simp only [sp_dv]
        rw [show c + 1 + (sp_dr (mz_gI t 2) m (a + 1) - (a + 1)) = c + (sp_dr (mz_gI t 2) m (a + 1) - (a + 1) + 1) by omega]
theorem cv_num {n a b : Nat} {t : mz_St} (hn : 10000 ≤ n) (h : cr_R t a b) (m : Int32) : f_RE_number n t = some (match sp_num (mz_gI t 2) b m a with
    | some r => (r.1, mz_pI t 6 2 (nI r.2.2))
    | none => ((0 : Int32), mz_pI (mz_pI t 6 2 (nI (sp_dr (mz_gI t 2) (b - a) a))) 6 6 1)) := by
  have hb := h.2.2.2
  have hab := h.2.2.1
  have hle := sp_dr_le (mz_gI t 2) (b - a) a
  unfold f_RE_number
  rw [show (0 : Int32) = nI 0 from rfl, cv_num_4 n a 0 (nI 0) t h (by omega) (by omega), Nat.zero_add, show nI 0 = (0 : Int32) from rfl]
  unfold sp_num
  generalize hr : sp_dr (mz_gI t 2) (b - a) a = r at *
  generalize sp_dv (mz_gI t 2) (r - a) a 0 = v
  have hR : cr_R (mz_pI t 6 2 (nI r)) r b := h.to (by omega)
  have hrow : mz_gI (mz_pI t 6 2 (nI r)) 2 = mz_gI t 2 := rfl
  have fin : ∀ s0 : Bool, f_RE_number_101 n v (nI (r - a)) (sp_bi s0) (mz_pI t 6 2 (nI r)) = some (if s0 = true then ((0 : Int32), mz_pI (mz_pI t 6 2 (nI r)) 6 6 1) else if r - a ≤ 9 then (v, mz_pI t 6 2 (nI r)) else ((0 : Int32), mz_pI (mz_pI t 6 2 (nI r)) 6 6 1)) := by
    intro s0
    unfold f_RE_number_101 f_RE_number_112 f_RE_refuse mz_let
    cases s0
    · rw [if_pos (show sp_bi false = 0 from rfl)]
      by_cases h9 : r - a ≤ 9
      · rw [if_pos (show nI (r - a) ≤ (9 : Int32) from nI_le (b := 9) h9 (by decide)), if_pos h9]
        rfl
      · rw [if_neg (show ¬ nI (r - a) ≤ (9 : Int32) from nI_ge (a := 9) (by omega) (by omega)), if_neg h9]
        rfl
    · rw [if_neg (show ¬ sp_bi true = 0 by decide)]
      rfl
  unfold f_RE_number_68 f_RE_number_100
  rw [hR.1, hR.2.1]
  by_cases hlt : b ≤ r
  · rw [if_pos (nI_le hlt (by omega)), show sp_at (mz_gI t 2) b r = -1 from if_neg (by omega)]
    refine (fin false).trans ?_
    rw [if_neg (show ¬ sp_b (-1) = true by decide)]
    by_cases h9 : r - a ≤ 9
    · simp [h9]
    · simp [h9]
  · rw [if_neg (nI_ge (by omega) (by omega)), ev_at (by omega), show sp_at (mz_gI t 2) b r = mz_gI t 2 r from if_pos (by omega)]
    simp only [Option.bind_some, ev_beg, sp_bi_0, hrow]
    cases hs : sp_b (mz_gI t 2 r)
    · simp only [if_true, Bool.false_eq_true, if_false]
      refine (fin false).trans ?_
      by_cases h9 : r - a ≤ 9
      · simp [h9]
      · simp [h9]
    · simp only [Bool.true_eq_false, if_false, if_true]
      exact fin true
/-! the spec moves on, within the line -/
theorem sp_at_lt {L : Nat → Int32} {e q : Nat} {c : Int32} (h : sp_at L e q = c) (hc : c ≠ -1) : q < e := by
  by_cases hq : q < e
  · exact hq
  · rw [sp_at, if_neg hq] at h
    exact absurd h.symm hc
/-- s moves on: strictly (1), or not back (0) -/
def sp_go (e : Nat) (s : Int32 → Nat → sp_A) (k : Nat) : Prop := ∀ m q r, q ≤ e → s m q = some r → q + k ≤ r.2.2 ∧ r.2.2 ≤ e
theorem sp_prT_go {L : Nat → Int32} {e : Nat} {fac : Int32 → Nat → sp_A} (hf : sp_go e fac 1) : ∀ k v, sp_go e (sp_prT L e fac k v) 0 := by
  intro k
  induction k with
  | zero =>
    intro v m q r hq h
    have := sp_nb_le L hq
    have e1 : r = (v, m, sp_nb L q e) := (Option.some.inj h).symm
    rw [e1]
    exact ⟨by show q + 0 ≤ sp_nb L q e; omega, by show sp_nb L q e ≤ e; omega⟩
  | succ k ih =>
    intro v m q r hq h
    have hb := sp_nb_le L hq
    simp only [sp_prT] at h
    split at h
    · rename_i hc
      have hlt := sp_at_lt hc (by decide)
      obtain ⟨z, h1, h2⟩ := mz_bd h
      have g1 := hf m _ z (by omega) h1
      have g2 := ih _ _ _ r g1.2 h2
      omega
    · split at h
      · rename_i hc
        have hlt := sp_at_lt hc (by decide)
        obtain ⟨z, h1, h2⟩ := mz_bd h
        have g1 := hf m _ z (by omega) h1
        split at h2
        · have g2 := ih _ _ _ r g1.2 h2
          omega
        · have g2 := ih _ _ _ r g1.2 h2
          omega
      · split at h
        · rename_i hc
          have hlt := sp_at_lt hc (by decide)
          obtain ⟨z, h1, h2⟩ := mz_bd h
          have g1 := hf m _ z (by omega) h1
          split at h2
          · have g2 := ih _ _ _ r g1.2 h2
            omega
          · have g2 := ih _ _ _ r g1.2 h2
            omega
        · have e1 : r = (v, m, sp_nb L q e) := (Option.some.inj h).symm
          rw [e1]
          exact ⟨by show q + 0 ≤ sp_nb L q e; omega, by show sp_nb L q e ≤ e; omega⟩
theorem sp_pr_go {L : Nat → Int32} {e : Nat} {fac : Int32 → Nat → sp_A} (hf : sp_go e fac 1) : sp_go e (sp_pr L e fac) 1 := by
  intro m q r hq h
  obtain ⟨z, h1, h2⟩ := mz_bd h
  have g1 := hf m q z hq h1
  have g2 := sp_prT_go hf _ _ _ _ r g1.2 h2
  omega
theorem sp_suT_go {L : Nat → Int32} {e : Nat} {pr : Int32 → Nat → sp_A} (hf : sp_go e pr 1) : ∀ k v, sp_go e (sp_suT L e pr k v) 0 := by
  intro k
  induction k with
  | zero =>
    intro v m q r hq h
    have := sp_nb_le L hq
    have e1 : r = (v, m, sp_nb L q e) := (Option.some.inj h).symm
    rw [e1]
    exact ⟨by show q + 0 ≤ sp_nb L q e; omega, by show sp_nb L q e ≤ e; omega⟩
  | succ k ih =>
    intro v m q r hq h
    have hb := sp_nb_le L hq
    simp only [sp_suT] at h
    split at h
    · rename_i hc
      have hlt := sp_at_lt hc (by decide)
      obtain ⟨z, h1, h2⟩ := mz_bd h
      have g1 := hf m _ z (by omega) h1
      have g2 := ih _ _ _ r g1.2 h2
      omega
    · split at h
      · rename_i hc
        have hlt := sp_at_lt hc (by decide)
        obtain ⟨z, h1, h2⟩ := mz_bd h
        have g1 := hf m _ z (by omega) h1
        have g2 := ih _ _ _ r g1.2 h2
        omega
      · have e1 : r = (v, m, sp_nb L q e) := (Option.some.inj h).symm
        rw [e1]
        exact ⟨by show q + 0 ≤ sp_nb L q e; omega, by show sp_nb L q e ≤ e; omega⟩
theorem sp_su_go {L : Nat → Int32} {e : Nat} {fac : Int32 → Nat → sp_A} (hf : sp_go e fac 1) : sp_go e (sp_su L e fac) 1 := by
  intro m q r hq h
  obtain ⟨z, h1, h2⟩ := mz_bd h
  have g1 := sp_pr_go hf m q z hq h1
  have g2 := sp_suT_go (sp_pr_go hf) _ _ _ _ r g1.2 h2
  omega
theorem sp_cm_lt {L : Nat → Int32} {e q : Nat} (h : sp_cm L e q ≠ 0) : q + (if sp_cm L e q = 3 then 1 else 2) ≤ e := by
  unfold sp_cm at h ⊢
  by_cases h1 : sp_at L e q = 61 ∧ sp_at L e (q + 1) = 61
  · have := sp_at_lt h1.2 (by decide)
    simp only [h1, and_self, if_true]
    simp only [show ¬ (1 : Nat) = 3 by decide, if_false]
    omega
  · by_cases h2 : sp_at L e q = 33 ∧ sp_at L e (q + 1) = 61
    · have := sp_at_lt h2.2 (by decide)
      rw [if_neg h1, if_pos h2]
      simp only [show ¬ (2 : Nat) = 3 by decide, if_false]
      omega
    · rw [if_neg h1, if_neg h2] at h ⊢
      by_cases h3 : sp_at L e q = 60
      · have := sp_at_lt h3 (by decide)
        rw [if_pos h3] at h ⊢
        by_cases h4 : sp_at L e (q + 1) = 61
        · have := sp_at_lt h4 (by decide)
          rw [if_pos h4]
          simp only [show ¬ (4 : Nat) = 3 by decide, if_false]
          omega
        · rw [if_neg h4]
          simp only [if_true]
          omega
      · rw [if_neg h3] at h
        exact absurd rfl h
theorem sp_va_go {L : Nat → Int32} {e : Nat} {fac : Int32 → Nat → sp_A} (hf : sp_go e fac 1) : sp_go e (sp_va L e fac) 1 := by
  intro m q r hq h
  obtain ⟨z, h1, h2⟩ := mz_bd h
  have g1 := sp_su_go hf m q z hq h1
  have hb := sp_nb_le L g1.2
  split at h2
  · have e1 : r = (z.1, z.2.1, sp_nb L z.2.2 e) := (Option.some.inj h2).symm
    rw [e1]
    exact ⟨by show q + 1 ≤ sp_nb L z.2.2 e; omega, by show sp_nb L z.2.2 e ≤ e; omega⟩
  · rename_i hc
    obtain ⟨y, h3, h4⟩ := mz_bd h2
    have hl := sp_cm_lt hc
    have g2 := sp_su_go hf _ _ y hl h3
    have e1 : r = (sp_bi (sp_is (sp_cm L e (sp_nb L z.2.2 e)) z.1 y.1), y.2.1, y.2.2) := (Option.some.inj h4).symm
    rw [e1]
    exact ⟨by show q + 1 ≤ y.2.2; omega, by show y.2.2 ≤ e; omega⟩
