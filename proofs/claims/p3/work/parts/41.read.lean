/-! PURE: reading and writing a side's state; the reference's reader -/
theorem gI_pI (t : mz_St) (k j k' j' : Nat) (v : Int32) : mz_gI (mz_pI t k j v) k' j' = if k' = k ∧ j' = j then v else mz_gI t k' j' := rfl
theorem gL_pL (t : mz_St) (k j k' j' : Nat) (v : Int64) : mz_gL (mz_pL t k j v) k' j' = if k' = k ∧ j' = j then v else mz_gL t k' j' := rfl
theorem gI_pL (t : mz_St) (k j k' j' : Nat) (v : Int64) : mz_gI (mz_pL t k j v) k' j' = mz_gI t k' j' := rfl
theorem gL_pI (t : mz_St) (k j k' j' : Nat) (v : Int32) : mz_gL (mz_pI t k j v) k' j' = mz_gL t k' j' := rfl
theorem pI_pI (t : mz_St) (k j : Nat) (v w : Int32) : mz_pI (mz_pI t k j v) k j w = mz_pI t k j w := by
  unfold mz_pI
  refine Prod.ext ?_ rfl
  funext a b
  by_cases h : a = k ∧ b = j <;> simp [h]
theorem pL_pL (t : mz_St) (k j : Nat) (v w : Int64) : mz_pL (mz_pL t k j v) k j w = mz_pL t k j w := by
  unfold mz_pL
  refine Prod.ext rfl ?_
  funext a b
  by_cases h : a = k ∧ b = j <;> simp [h]
theorem pI_self {t : mz_St} {k j : Nat} {v : Int32} (h : mz_gI t k j = v) : mz_pI t k j v = t := by
  unfold mz_pI
  refine Prod.ext ?_ rfl
  funext a b
  show (if a = k ∧ b = j then v else t.1 a b) = t.1 a b
  by_cases hq : a = k ∧ b = j
  · rw [if_pos hq, hq.1, hq.2, ← h]
    rfl
  · rw [if_neg hq]
theorem pL_self {t : mz_St} {k j : Nat} {v : Int64} (h : mz_gL t k j = v) : mz_pL t k j v = t := by
  unfold mz_pL
  refine Prod.ext rfl ?_
  funext a b
  show (if a = k ∧ b = j then v else t.2 a b) = t.2 a b
  by_cases hq : a = k ∧ b = j
  · rw [if_pos hq, hq.1, hq.2, ← h]
    rfl
  · rw [if_neg hq]
theorem pI_comm (t : mz_St) {k j k' j' : Nat} (v w : Int32) (h : ¬ (k = k' ∧ j = j')) : mz_pI (mz_pI t k j v) k' j' w = mz_pI (mz_pI t k' j' w) k j v := by
  unfold mz_pI
  refine Prod.ext ?_ rfl
  funext a b
  by_cases h1 : a = k' ∧ b = j'
  · have h2 : ¬ (a = k ∧ b = j) := fun q => h ⟨by rw [← q.1, h1.1], by rw [← q.2, h1.2]⟩
    simp [h1, h2]
    intro e1 e2
    exact absurd ⟨e1.symm, e2.symm⟩ h
  · by_cases h2 : a = k ∧ b = j
    · simp [h1, h2]
      intro e1 e2
      exact absurd ⟨e1, e2⟩ h
    · simp [h1, h2]
theorem pL_pI (t : mz_St) (k j k' j' : Nat) (v : Int64) (w : Int32) : mz_pI (mz_pL t k j v) k' j' w = mz_pL (mz_pI t k' j' w) k j v := rfl
theorem mr_in {n : Nat} {v a b : Int32} {t : mz_St} : f_MO_in n v a b t = some (sp_bi (decide (a ≤ v) && decide (v ≤ b)), t) := by
  unfold f_MO_in sp_bi
  by_cases h1 : v < a
  · have h2 : ¬ a ≤ v := pz_nle.mpr h1
    simp [h1, h2]
  · have h2 : a ≤ v := pz_nlt.mp h1
    by_cases h3 : b < v
    · have h4 : ¬ v ≤ b := pz_nle.mpr h3
      simp [h1, h2, h3, h4]
    · have h4 : v ≤ b := pz_nlt.mp h3
      simp [h1, h2, h3, h4]
theorem mr_beg {n : Nat} {c : Int32} {t : mz_St} : f_MO_isBegin n c t = some (sp_bi (sp_b c), t) := by
  unfold f_MO_isBegin f_MO_isBegin_12 f_MO_isBegin_18 sp_b sp_bi
  by_cases h1 : c < 97
  · have h2 : ¬ (97 : Int32) ≤ c := pz_nle.mpr h1
    by_cases h3 : c = 95 <;> simp [h1, h2, h3]
  · have h2 : (97 : Int32) ≤ c := pz_nlt.mp h1
    by_cases h4 : c ≤ 122
    · simp [h1, h2, h4]
    · by_cases h3 : c = 95 <;> simp [h1, h2, h3, h4]
theorem mr_dig {n : Nat} {c : Int32} {t : mz_St} : f_MO_isDigit n c t = some (sp_bi (sp_d c), t) := by
  unfold f_MO_isDigit sp_d sp_bi
  by_cases h1 : c < 48
  · have h2 : ¬ (48 : Int32) ≤ c := pz_nle.mpr h1
    simp [h1, h2]
  · have h2 : (48 : Int32) ≤ c := pz_nlt.mp h1
    by_cases h4 : 57 < c
    · have h5 : ¬ c ≤ 57 := pz_nle.mpr h4
      simp [h1, h2, h4, h5]
    · have h5 : c ≤ 57 := pz_nlt.mp h4
      simp [h1, h2, h4, h5]
theorem mr_ws {n : Nat} {c : Int32} {t : mz_St} : f_MO_isWordSign n c t = some (sp_bi (sp_w c), t) := by
  unfold f_MO_isWordSign f_MO_isWordSign_14 sp_w
  simp only [mr_beg, mr_dig, Option.bind_some, sp_bi_0]
  cases sp_b c <;> cases sp_d c <;> simp [sp_bi]
/-- the reference's reader stands at q of a line of e signs -/
def mr_R (t : mz_St) (e q : Nat) : Prop := mz_gI t 0 60 = nI e ∧ mz_gI t 0 61 = nI q ∧ e ≤ 6000 ∧ q < 2 ^ 30
/-- the sign at q, or none -/
def sp_at (f : Nat → Int32) (e q : Nat) : Int32 := if q < e then f q else -1
theorem mr_here {n e q : Nat} {t : mz_St} (h : mr_R t e q) : f_MO_here n t = some (sp_at (mz_gI t 43) e q, t) := by
  obtain ⟨h1, h2, h3, h4⟩ := h
  unfold f_MO_here sp_at
  rw [h1, h2]
  by_cases hq : q < e
  · rw [if_neg (nI_ge hq (by omega)), if_pos (pz_in (by omega) (by decide)), if_pos hq, nI_clamp (by omega)]
  · rw [if_pos (nI_le (by omega) (by omega)), if_neg hq]
theorem mr_R.to {t : mz_St} {e q q' : Nat} (h : mr_R t e q) (hq : q' < 2 ^ 30) : mr_R (mz_pI t 0 61 (nI q')) e q' := ⟨h.1, rfl, h.2.2.1, hq⟩
theorem mr_blanks_0 {n e : Nat} : ∀ k q t, mr_R t e q → e - q < k → f_MO_blanks_0 n k t = some (mz_pI t 0 61 (nI (sp_bl (mz_gI t 43) (e - q) q))) := by
  intro k
  induction k with
  | zero => intro q t _ h; omega
  | succ k ih =>
    intro q t h hk
    unfold f_MO_blanks_0
    rw [mr_here h]
    show (if sp_at (mz_gI t 43) e q = 32 then mz_let (mz_pI t 0 61 (mz_gI t 0 61 + 1)) fun t4 => f_MO_blanks_0 n k t4 else some t) = _
    by_cases hq : q < e
    · obtain ⟨m, hm⟩ : ∃ m, e - q = m + 1 := ⟨e - q - 1, by omega⟩
      unfold sp_at
      rw [if_pos hq, hm]
      unfold sp_bl
      by_cases hc : mz_gI t 43 q = 32
      · rw [if_pos hc, if_pos hc, h.2.1, show nI q + (1 : Int32) = nI (q + 1) from nI_1 q]
        show f_MO_blanks_0 n k (mz_pI t 0 61 (nI (q + 1))) = _
        rw [ih (q + 1) _ (h.to (by have := h.2.2.1; omega)) (by omega), pI_pI, show e - (q + 1) = m by omega]
        rfl
      · rw [if_neg hc, if_neg hc, pI_self h.2.1]
    · unfold sp_at
      rw [if_neg hq, if_neg (by decide), show e - q = 0 by omega]
      show some t = some (mz_pI t 0 61 (nI q))
      rw [pI_self h.2.1]
theorem mr_blanks {n e q : Nat} {t : mz_St} (hn : 10000 ≤ n) (h : mr_R t e q) : f_MO_blanks n t = some (mz_pI t 0 61 (nI (sp_bl (mz_gI t 43) (e - q) q))) := mr_blanks_0 n q t h (by have := h.2.2.1; omega)
/-- words packed: eight signs in the first, four in the second -/
def sp_pkA (f : Nat → Int32) (q : Nat) : Nat → Int64
  | 0 => 0
  | i + 1 => if i < 8 then sp_pkA f q i ||| ((f (q + i)).toInt64 <<< (((8 : Int32) * nI i).toInt64 &&& 63)) else sp_pkA f q i
def sp_pkB (f : Nat → Int32) (q : Nat) : Nat → Int64
  | 0 => 0
  | i + 1 => if 8 ≤ i ∧ i < 12 then sp_pkB f q i ||| ((f (q + i)).toInt64 <<< (((8 : Int32) * (nI i - 8)).toInt64 &&& 63)) else sp_pkB f q i
/-- the state with the reader at q, the word's two halves, and whether all is well -/
def mr_st (t : mz_St) (q : Nat) (A B : Int64) : mz_St := mz_pI (mz_pL (mz_pL t 0 65 A) 0 66 B) 0 61 (nI q)
theorem mr_st_R {t : mz_St} {e q q' : Nat} {A B : Int64} (h : mr_R t e q) (hq : q' < 2 ^ 30) : mr_R (mr_st t q' A B) e q' := ⟨h.1, rfl, h.2.2.1, hq⟩
theorem pL_comm (t : mz_St) {k j k' j' : Nat} (v w : Int64) (h : ¬ (k = k' ∧ j = j')) : mz_pL (mz_pL t k j v) k' j' w = mz_pL (mz_pL t k' j' w) k j v := by
  unfold mz_pL
  refine Prod.ext rfl ?_
  funext a b
  by_cases h1 : a = k' ∧ b = j'
  · have h2 : ¬ (a = k ∧ b = j) := fun q => h ⟨by rw [← q.1, h1.1], by rw [← q.2, h1.2]⟩
    simp [h1, h2]
    intro e1 e2
    exact absurd ⟨e1.symm, e2.symm⟩ h
  · by_cases h2 : a = k ∧ b = j
    · simp [h1, h2]
      intro e1 e2
      exact absurd ⟨e1, e2⟩ h
    · simp [h1, h2]
theorem mr_st_A {t : mz_St} {q : Nat} {A B A' : Int64} : mz_pL (mr_st t q A B) 0 65 A' = mr_st t q A' B := by
  show mz_pI (mz_pL (mz_pL (mz_pL t 0 65 A) 0 66 B) 0 65 A') 0 61 (nI q) = _
  rw [pL_comm _ _ _ (by decide : ¬ ((0 : Nat) = 0 ∧ (66 : Nat) = 65)), pL_pL]
  rfl
theorem mr_st_B {t : mz_St} {q : Nat} {A B B' : Int64} : mz_pL (mr_st t q A B) 0 66 B' = mr_st t q A B' := by
  show mz_pI (mz_pL (mz_pL (mz_pL t 0 65 A) 0 66 B) 0 66 B') 0 61 (nI q) = _
  rw [pL_pL]
  rfl
theorem mr_st_q {t : mz_St} {q q' : Nat} {A B : Int64} : mz_pI (mr_st t q A B) 0 61 (nI q') = mr_st t q' A B := pI_pI _ _ _ _ _
theorem mr_st_gA {t : mz_St} {q : Nat} {A B : Int64} : mz_gL (mr_st t q A B) 0 65 = A := rfl
theorem mr_st_gB {t : mz_St} {q : Nat} {A B : Int64} : mz_gL (mr_st t q A B) 0 66 = B := rfl
theorem mr_st_gq {t : mz_St} {q : Nat} {A B : Int64} : mz_gI (mr_st t q A B) 0 61 = nI q := rfl
theorem mr_st_gc {t : mz_St} {q : Nat} {A B : Int64} : mz_gI (mr_st t q A B) 43 = mz_gI t 43 := rfl
/-- i signs of the word that begins at q are read -/
theorem mr_word_step {n e q : Nat} {t : mz_St} (hR : mr_R t e q) (K : Int32 → mz_St → Option mz_St) {i : Nat} (hlt : q + i < e) :
    f_MO_word_43 n K (nI i) (mr_st t (q + i) (sp_pkA (mz_gI t 43) q i) (sp_pkB (mz_gI t 43) q i)) = K (nI (i + 1)) (mr_st t (q + (i + 1)) (sp_pkA (mz_gI t 43) q (i + 1)) (sp_pkB (mz_gI t 43) q (i + 1))) := by
  have he := hR.2.2.1
  have hR1 : ∀ A B, mr_R (mr_st t (q + i) A B) e (q + i) := fun A B => mr_st_R hR (by omega)
  have hat : sp_at (mz_gI t 43) e (q + i) = mz_gI t 43 (q + i) := if_pos hlt
  have e1 : nI i + (1 : Int32) = nI (i + 1) := nI_1 i
  have e2 : nI (q + i) + (1 : Int32) = nI (q + (i + 1)) := nI_1 (q + i)
  unfold f_MO_word_43 f_MO_word_72 f_MO_word_109 f_MO_word_113 mz_let
  simp only [sp_pkA, sp_pkB]
  by_cases h8 : i < 8
  · have c1 : ¬ (8 : Int32) ≤ nI i := nI_ge (b := 8) h8 (by decide)
    have c2 : nI i < (8 : Int32) := nI_lt (b := 8) h8 (by decide)
    rw [if_neg c1, mr_here (hR1 _ _), if_pos h8, if_neg (show ¬ (8 ≤ i ∧ i < 12) by omega)]
    simp only [Option.bind_some, c2, if_true, mr_st_gA, mr_st_gB, mr_st_gc, mr_st_A, mr_st_B, mr_st_gq, e1, e2, mr_st_q, hat]
  · have c1 : (8 : Int32) ≤ nI i := nI_le (a := 8) (by omega) (by omega)
    have c2 : ¬ nI i < (8 : Int32) := nI_nlt (b := 8) (by omega) (by omega)
    rw [if_pos c1, if_neg h8]
    simp only [mr_st_gA, mr_st_A, c2, if_false]
    by_cases h12 : i < 12
    · have c3 : ¬ (12 : Int32) ≤ nI i := nI_ge (b := 12) h12 (by decide)
      rw [if_neg c3, mr_here (hR1 _ _), if_pos (show 8 ≤ i ∧ i < 12 by omega)]
      simp only [Option.bind_some, mr_st_gB, mr_st_gc, mr_st_B, mr_st_gq, e1, e2, mr_st_q, hat]
    · have c3 : (12 : Int32) ≤ nI i := nI_le (a := 12) (by omega) (by omega)
      rw [if_pos c3, if_neg (show ¬ (8 ≤ i ∧ i < 12) by omega)]
      simp only [mr_st_gB, mr_st_B, mr_st_gq, e1, e2, mr_st_q]
theorem mr_word_16 {n e q : Nat} {t : mz_St} (hR : mr_R t e q) : ∀ k i, 0 < i → q + i ≤ e → e - (q + i) < k →
    f_MO_word_16 n k (nI i) (mr_st t (q + i) (sp_pkA (mz_gI t 43) q i) (sp_pkB (mz_gI t 43) q i)) =
      f_MO_word_132 n (nI (sp_run (mz_gI t 43) (e - (q + i)) (q + i) - q)) (mr_st t (sp_run (mz_gI t 43) (e - (q + i)) (q + i)) (sp_pkA (mz_gI t 43) q (sp_run (mz_gI t 43) (e - (q + i)) (q + i) - q)) (sp_pkB (mz_gI t 43) q (sp_run (mz_gI t 43) (e - (q + i)) (q + i) - q))) := by
  have he := hR.2.2.1
  intro k
  induction k with
  | zero => intro i _ _ h; omega
  | succ k ih =>
    intro i h0 hi hk
    have hR1 : mr_R (mr_st t (q + i) (sp_pkA (mz_gI t 43) q i) (sp_pkB (mz_gI t 43) q i)) e (q + i) := mr_st_R hR (by omega)
    unfold f_MO_word_16
    rw [if_neg (nI_ne0 h0 (by omega)), mr_here hR1]
    simp only [Option.bind_some, mr_ws, sp_bi_0, mr_st_gc]
    by_cases hlt : q + i < e
    · obtain ⟨m, hm⟩ : ∃ m, e - (q + i) = m + 1 := ⟨e - (q + i) - 1, by omega⟩
      rw [show sp_at (mz_gI t 43) e (q + i) = mz_gI t 43 (q + i) from if_pos hlt, hm]
      simp only [sp_run]
      cases hw : sp_w (mz_gI t 43 (q + i))
      · simp only [if_true, Bool.false_eq_true, if_false]
        rw [show q + i - q = i by omega]
      · simp only [Bool.true_eq_false, if_false, if_true]
        rw [mr_word_step hR _ hlt, ih (i + 1) (by omega) (by omega) (by omega), show e - (q + (i + 1)) = m by omega, show q + (i + 1) = q + i + 1 by omega]
    · have e0 : e - (q + i) = 0 := by omega
      rw [show sp_at (mz_gI t 43) e (q + i) = -1 from if_neg hlt, e0]
      simp only [sp_run]
      rw [if_pos (by decide : sp_w (-1) = false), show q + i - q = i by omega]
/-- the word at q: how long it is, its two halves -/
theorem mr_word_0 {n e q : Nat} {t : mz_St} (hR : mr_R t e q) (hn : 10000 ≤ n) (hq : q ≤ e) :
    f_MO_word_16 n n 0 (mr_st t q 0 0) = f_MO_word_132 n (nI (sp_we (mz_gI t 43) (e - q) q - q)) (mr_st t (sp_we (mz_gI t 43) (e - q) q) (sp_pkA (mz_gI t 43) q (sp_we (mz_gI t 43) (e - q) q - q)) (sp_pkB (mz_gI t 43) q (sp_we (mz_gI t 43) (e - q) q - q))) := by
  have he := hR.2.2.1
  have hR1 : mr_R (mr_st t q 0 0) e q := mr_st_R hR (by omega)
  obtain ⟨k, rfl⟩ : ∃ k, n = k + 1 := ⟨n - 1, by omega⟩
  rw [show f_MO_word_16 (k + 1) (k + 1) 0 (mr_st t q 0 0) = (if (0 : Int32) = 0 then ((f_MO_here (k + 1) (mr_st t q 0 0)).bind fun q27 => (f_MO_isBegin (k + 1) q27.1 q27.2).bind fun q29 => if q29.1 = 0 then (f_MO_word_132 (k + 1) 0 q29.2) else (f_MO_word_43 (k + 1) (f_MO_word_16 (k + 1) k) 0 q29.2)) else ((f_MO_here (k + 1) (mr_st t q 0 0)).bind fun q6 => (f_MO_isWordSign (k + 1) q6.1 q6.2).bind fun q8 => if q8.1 = 0 then (f_MO_word_132 (k + 1) 0 q8.2) else (f_MO_word_43 (k + 1) (f_MO_word_16 (k + 1) k) 0 q8.2))) from rfl]
  rw [if_pos rfl, mr_here hR1]
  simp only [Option.bind_some, mr_beg, sp_bi_0, mr_st_gc]
  by_cases hlt : q < e
  · obtain ⟨m, hm⟩ : ∃ m, e - q = m + 1 := ⟨e - q - 1, by omega⟩
    rw [show sp_at (mz_gI t 43) e q = mz_gI t 43 q from if_pos hlt, hm]
    simp only [sp_we]
    cases hw : sp_b (mz_gI t 43 q)
    · simp only [if_true, Bool.false_eq_true, if_false]
      rw [show q - q = 0 by omega]
      rfl
    · simp only [Bool.true_eq_false, if_false, if_true]
      have s1 := mr_word_step (n := k + 1) hR (f_MO_word_16 (k + 1) k) (i := 0) hlt
      rw [show f_MO_word_43 (k + 1) (f_MO_word_16 (k + 1) k) 0 (mr_st t q 0 0) = f_MO_word_43 (k + 1) (f_MO_word_16 (k + 1) k) (nI 0) (mr_st t (q + 0) (sp_pkA (mz_gI t 43) q 0) (sp_pkB (mz_gI t 43) q 0)) from rfl, s1]
      have s2 := mr_word_16 (n := k + 1) hR k 1 (by omega) (by omega) (by omega)
      rw [show q + (0 + 1) = q + 1 from rfl, show (0 : Nat) + 1 = 1 from rfl, s2, show e - (q + 1) = m by omega]
  · have e0 : e - q = 0 := by omega
    rw [show sp_at (mz_gI t 43) e q = -1 from if_neg hlt, e0]
    simp only [sp_we]
    rw [if_pos (by decide : sp_b (-1) = false), show q - q = 0 by omega]
    rfl
