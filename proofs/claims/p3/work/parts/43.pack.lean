/-! PURE: a word of at most twelve signs, packed in two longs, is that word -/
def sp_h (f : Nat → Int32) : Nat → Nat → Nat
  | 0, _ => 0
  | i + 1, q => (f q).toNatClampNeg + 256 * sp_h f i (q + 1)
/-- signs that are small numbers -/
def sp_sm (f : Nat → Int32) (q i : Nat) : Prop := ∀ j, j < i → ∃ m, 0 < m ∧ m < 128 ∧ f (q + j) = nI m
theorem sp_w_n {c : Int32} (h : sp_w c = true) : ∃ m, 0 < m ∧ m < 128 ∧ c = nI m := by
  have hb : (48 : Int32) ≤ c ∧ c ≤ 122 := by
    unfold sp_w sp_b sp_d at h
    simp only [Bool.or_eq_true, Bool.and_eq_true, decide_eq_true_eq] at h
    rw [Int32.le_iff_toInt_le, Int32.le_iff_toInt_le]
    simp only [Int32.le_iff_toInt_le] at h
    have e48 : (48 : Int32).toInt = 48 := by decide
    have e57 : (57 : Int32).toInt = 57 := by decide
    have e97 : (97 : Int32).toInt = 97 := by decide
    have e122 : (122 : Int32).toInt = 122 := by decide
    rcases h with (h | h) | h
    · omega
    · subst h
      have e95 : (95 : Int32).toInt = 95 := by decide
      omega
    · omega
  obtain ⟨j, hj, e⟩ := nI_of2 (x := c) (M := 122) (n := 122) (by decide) (fun q => by
    have := Int32.le_iff_toInt_le.mp hb.1
    have e48 : (48 : Int32).toInt = 48 := by decide
    have := Int32.lt_iff_toInt_lt.mp q
    rw [Int32.toInt_zero] at this
    omega) hb.2
  refine ⟨j, ?_, by omega, e⟩
  have := hb.1
  rw [e, show (48 : Int32) = nI 48 from rfl, pz_le (by decide) (by omega)] at this
  omega
theorem sp_h_step (f : Nat → Int32) : ∀ i q, sp_h f (i + 1) q = sp_h f i q + (f (q + i)).toNatClampNeg * 256 ^ i := by
  intro i
  induction i with
  | zero => intro q; simp [sp_h]
  | succ i ih =>
    intro q
    rw [sp_h, ih (q + 1)]
    show _ = ((f q).toNatClampNeg + 256 * sp_h f i (q + 1)) + _
    rw [show q + 1 + i = q + (i + 1) by omega, Nat.pow_succ, Nat.mul_add]
    have : 256 * ((f (q + (i + 1))).toNatClampNeg * 256 ^ i) = (f (q + (i + 1))).toNatClampNeg * (256 ^ i * 256) := by
      rw [Nat.mul_comm 256, Nat.mul_assoc]
    omega
theorem sp_h_lt {f : Nat → Int32} : ∀ i q, sp_sm f q i → sp_h f i q < 256 ^ i := by
  intro i
  induction i with
  | zero => intro q _; simp [sp_h]
  | succ i ih =>
    intro q h
    obtain ⟨m, h0, h1, h2⟩ := h 0 (by omega)
    have := ih (q + 1) (fun j hj => by
      obtain ⟨m, a, b, c⟩ := h (j + 1) (by omega)
      exact ⟨m, a, b, by rw [show q + 1 + j = q + (j + 1) by omega]; exact c⟩)
    rw [sp_h, show f q = nI m from h2, nI_clamp (by omega), Nat.pow_succ]
    omega
theorem sp_pw (i : Nat) : (256 : Nat) ^ i = 2 ^ (8 * i) := by rw [Nat.pow_mul]
theorem sp_or8 {a m i : Nat} (hi : i < 8) (ha : a < 256 ^ i) (hm : m < 128) : lN a ||| ((nI m).toInt64 <<< (((8 : Int32) * nI i).toInt64 &&& 63)) = lN (a + m * 256 ^ i) := by
  rw [nI_l (by omega), show (8 : Int32) * nI i = nI (8 * i) from pk_mul 8 i, wb_shl m (by omega), ← sp_pw]
  have hb : 256 ^ i ≤ 256 ^ 7 := Nat.pow_le_pow_right (by decide) (by omega)
  refine g_or' (k := 8 * i) (sp_pw i).symm ha ?_
  have : m * 256 ^ i ≤ 127 * 256 ^ 7 := Nat.mul_le_mul (by omega) hb
  have e : (256 : Nat) ^ 7 = 72057594037927936 := by decide
  omega
theorem sp_pkA_n {f : Nat → Int32} {q : Nat} : ∀ i, i ≤ 8 → sp_sm f q i → sp_pkA f q i = lN (sp_h f i q) := by
  intro i
  induction i with
  | zero => intro _ _; rfl
  | succ i ih =>
    intro hi h
    have h' : sp_sm f q i := fun j hj => h j (by omega)
    obtain ⟨m, m0, m1, m2⟩ := h i (by omega)
    simp only [sp_pkA]
    rw [if_pos (by omega : i < 8), ih (by omega) h', m2, sp_or8 (by omega) (sp_h_lt i q h') m1, sp_h_step, m2, nI_clamp (by omega)]
theorem sp_pkA_hi {f : Nat → Int32} {q : Nat} : ∀ i, 8 ≤ i → sp_pkA f q i = sp_pkA f q 8 := by
  intro i
  induction i with
  | zero => intro h; omega
  | succ i ih =>
    intro hi
    by_cases h8 : i = 7
    · subst h8; rfl
    · simp only [sp_pkA]
      rw [if_neg (by omega : ¬ i < 8)]
      exact ih (by omega)
theorem sp_pkB_lo {f : Nat → Int32} {q : Nat} : ∀ i, i ≤ 8 → sp_pkB f q i = 0 := by
  intro i
  induction i with
  | zero => intro _; rfl
  | succ i ih =>
    intro hi
    simp only [sp_pkB]
    rw [if_neg (by omega : ¬ (8 ≤ i ∧ i < 12))]
    exact ih (by omega)
theorem sp_pkB_n {f : Nat → Int32} {q : Nat} : ∀ i, i ≤ 4 → sp_sm f q (8 + i) → sp_pkB f q (8 + i) = lN (sp_h f i (q + 8)) := by
  intro i
  induction i with
  | zero => intro _ _; exact sp_pkB_lo 8 (by omega)
  | succ i ih =>
    intro hi h
    have h' : sp_sm f q (8 + i) := fun j hj => h j (by omega)
    have h2 : sp_sm f (q + 8) i := fun j hj => by
      obtain ⟨m, a, b, c⟩ := h (8 + j) (by omega)
      exact ⟨m, a, b, by rw [show q + 8 + j = q + (8 + j) by omega]; exact c⟩
    obtain ⟨m, m0, m1, m2⟩ := h (8 + i) (by omega)
    rw [show 8 + (i + 1) = (8 + i) + 1 by omega]
    simp only [sp_pkB]
    rw [if_pos (by omega : 8 ≤ 8 + i ∧ 8 + i < 12), ih (by omega) h', m2, show nI (8 + i) - (8 : Int32) = nI i from (pz_sub (a := 8 + i) (b := 8) (by omega)).trans (by rw [show 8 + i - 8 = i by omega]), sp_or8 (by omega) (sp_h_lt i _ h2) m1, sp_h_step, show q + 8 + i = q + (8 + i) by omega, m2, nI_clamp (by omega)]
/-- two packed runs are the same run -/
theorem sp_h_inj {f g : Nat → Int32} : ∀ i i' q r, sp_sm f q i → sp_sm g r i' → sp_h f i q = sp_h g i' r → i = i' ∧ ∀ j, j < i → f (q + j) = g (r + j) := by
  intro i
  induction i with
  | zero =>
    intro i' q r _ h2 e
    cases i' with
    | zero => exact ⟨rfl, fun j hj => by omega⟩
    | succ i' =>
      obtain ⟨m, m0, m1, m2⟩ := h2 0 (by omega)
      rw [sp_h, sp_h, show g r = nI m from m2, nI_clamp (by omega)] at e
      omega
  | succ i ih =>
    intro i' q r h1 h2 e
    obtain ⟨m, m0, m1, m2⟩ := h1 0 (by omega)
    cases i' with
    | zero =>
      rw [sp_h, sp_h, show f q = nI m from m2, nI_clamp (by omega)] at e
      omega
    | succ i' =>
      obtain ⟨m', m0', m1', m2'⟩ := h2 0 (by omega)
      rw [sp_h, sp_h, show f q = nI m from m2, show g r = nI m' from m2', nI_clamp (by omega), nI_clamp (by omega)] at e
      have e1 : m = m' := by omega
      have e2 : sp_h f i (q + 1) = sp_h g i' (r + 1) := by omega
      obtain ⟨a, b⟩ := ih i' (q + 1) (r + 1) (fun j hj => by
        obtain ⟨m, a, b, c⟩ := h1 (j + 1) (by omega)
        exact ⟨m, a, b, by rw [show q + 1 + j = q + (j + 1) by omega]; exact c⟩) (fun j hj => by
        obtain ⟨m, a, b, c⟩ := h2 (j + 1) (by omega)
        exact ⟨m, a, b, by rw [show r + 1 + j = r + (j + 1) by omega]; exact c⟩) e2
      refine ⟨by omega, fun j hj => ?_⟩
      cases j with
      | zero => show f q = g r; rw [show f q = nI m from m2, show g r = nI m' from m2', e1]
      | succ j =>
        have := b j (by omega)
        rw [show q + (j + 1) = q + 1 + j by omega, show r + (j + 1) = r + 1 + j by omega]
        exact this
theorem sp_lN_inj {a b : Nat} (ha : a < 2 ^ 64) (hb : b < 2 ^ 64) (h : lN a = lN b) : a = b := by
  have := congrArg (fun x => x.toBitVec.toNat) h
  simp only [wb_tn ha, wb_tn hb] at this
  exact this
theorem sp_pk_inj {f g : Nat → Int32} {q r i i' : Nat} (hi : i ≤ 12) (hi' : i' ≤ 12) (h1 : sp_sm f q i) (h2 : sp_sm g r i') (eA : sp_pkA f q i = sp_pkA g r i') (eB : sp_pkB f q i = sp_pkB g r i') : i = i' ∧ ∀ j, j < i → f (q + j) = g (r + j) := by
  have b8 : (256 : Nat) ^ 8 = 2 ^ 64 := by decide
  have b4 : ∀ k, k ≤ 8 → (256 : Nat) ^ k ≤ 2 ^ 64 := fun k hk => by rw [← b8]; exact Nat.pow_le_pow_right (by decide) hk
  have sub : ∀ {h : Nat → Int32} {a n k : Nat}, sp_sm h a n → k ≤ n → sp_sm h a k := fun hs hk j hj => hs j (by omega)
  have tl : ∀ {h : Nat → Int32} {a n : Nat}, sp_sm h a n → 8 ≤ n → sp_sm h (a + 8) (n - 8) := fun {h a n} hs hk j hj => by
    obtain ⟨m, x, y, z⟩ := hs (8 + j) (by omega)
    exact ⟨m, x, y, by rw [show a + 8 + j = a + (8 + j) by omega]; exact z⟩
  have A : ∀ {h : Nat → Int32} {a n : Nat}, sp_sm h a n → sp_pkA h a n = lN (sp_h h (min n 8) a) := fun {h a n} hs => by
    by_cases hn : n ≤ 8
    · rw [Nat.min_eq_left hn]; exact sp_pkA_n n hn hs
    · rw [Nat.min_eq_right (by omega), sp_pkA_hi n (by omega)]; exact sp_pkA_n 8 (Nat.le_refl _) (sub hs (by omega))
  have B : ∀ {h : Nat → Int32} {a n : Nat}, sp_sm h a n → n ≤ 12 → sp_pkB h a n = lN (sp_h h (n - 8) (a + 8)) := fun {h a n} hs hn => by
    by_cases h8 : n ≤ 8
    · rw [sp_pkB_lo n h8, show n - 8 = 0 by omega]; rfl
    · obtain ⟨k, rfl⟩ : ∃ k, n = 8 + k := ⟨n - 8, by omega⟩
      rw [sp_pkB_n k (by omega) hs, show 8 + k - 8 = k by omega]
  rw [A h1, A h2] at eA
  rw [B h1 hi, B h2 hi'] at eB
  have l1 := sp_h_lt (min i 8) q (sub h1 (Nat.min_le_left _ _))
  have l2 := sp_h_lt (min i' 8) r (sub h2 (Nat.min_le_left _ _))
  obtain ⟨a1, a2⟩ := sp_h_inj _ _ _ _ (sub h1 (Nat.min_le_left _ _)) (sub h2 (Nat.min_le_left _ _)) (sp_lN_inj (Nat.lt_of_lt_of_le l1 (b4 _ (Nat.min_le_right _ _))) (Nat.lt_of_lt_of_le l2 (b4 _ (Nat.min_le_right _ _))) eA)
  by_cases hs : i < 8
  · have e : i = i' := by omega
    refine ⟨e, fun j hj => a2 j (by omega)⟩
  · have h8' : 8 ≤ i' := by omega
    have l3 := sp_h_lt (i - 8) (q + 8) (tl h1 (by omega))
    have l4 := sp_h_lt (i' - 8) (r + 8) (tl h2 h8')
    obtain ⟨c1, c2⟩ := sp_h_inj _ _ _ _ (tl h1 (by omega)) (tl h2 h8') (sp_lN_inj (Nat.lt_of_lt_of_le l3 (b4 _ (by omega))) (Nat.lt_of_lt_of_le l4 (b4 _ (by omega))) eB)
    refine ⟨by omega, fun j hj => ?_⟩
    by_cases hj8 : j < 8
    · exact a2 j (by omega)
    · have := c2 (j - 8) (by omega)
      rw [show q + 8 + (j - 8) = q + j by omega, show r + 8 + (j - 8) = r + j by omega] at this
      exact this
