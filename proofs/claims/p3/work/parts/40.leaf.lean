/-! PURE: what the leaves answer (class side); nI: an Int32 by its number -/
theorem pz_in {i N : Nat} (h : i < N) (hN : N < 2 ^ 31) : ¬ (nI i < 0 ∨ N ≤ (nI i).toNatClampNeg) := nI_in h hN
theorem pz_sub {a b : Nat} (h : b ≤ a) : nI a - nI b = nI (a - b) := pk_sub h
theorem pz_le {a b : Nat} (ha : a < 2 ^ 31) (hb : b < 2 ^ 31) : nI a ≤ nI b ↔ a ≤ b := nI_leI ha hb
theorem pz_lt {a b : Nat} (ha : a < 2 ^ 31) (hb : b < 2 ^ 31) : nI a < nI b ↔ a < b := nI_ltI ha hb
/-- the first place from a on, within m places, that holds c -/
def sp_find (f : Nat → Int32) (c : Int32) : Nat → Nat → Nat
  | 0, a => a
  | m + 1, a => if f a = c then a else sp_find f c m (a + 1)
/-- the first place from a on, within m places, that isn't blank -/
def sp_bl (f : Nat → Int32) : Nat → Nat → Nat
  | 0, a => a
  | m + 1, a => if f a = 32 then sp_bl f m (a + 1) else a
/-- the end ahead of blanks: m places down from b -/
def sp_tr (f : Nat → Int32) : Nat → Nat → Nat
  | 0, b => b
  | m + 1, b => if f (b - 1) = 32 then sp_tr f m (b - 1) else b
/-- signs that begin a word, digits, signs of a word -/
def sp_b (c : Int32) : Bool := (decide (97 ≤ c) && decide (c ≤ 122)) || decide (c = 95)
def sp_d (c : Int32) : Bool := decide (48 ≤ c) && decide (c ≤ 57)
def sp_w (c : Int32) : Bool := sp_b c || sp_d c
/-- signs of a word from a on, within m places -/
def sp_run (f : Nat → Int32) : Nat → Nat → Nat
  | 0, a => a
  | m + 1, a => if sp_w (f a) = true then sp_run f m (a + 1) else a
/-- where the word at a ends -/
def sp_we (f : Nat → Int32) : Nat → Nat → Nat
  | 0, a => a
  | m + 1, a => if sp_b (f a) = true then sp_run f m (a + 1) else a
def sp_bi (b : Bool) : Int32 := if b = true then 1 else 0
theorem sp_find_le (f : Nat → Int32) (c : Int32) : ∀ m a, a ≤ sp_find f c m a ∧ sp_find f c m a ≤ a + m := by
  intro m
  induction m with
  | zero => intro a; exact ⟨Nat.le_refl _, Nat.le_refl _⟩
  | succ m ih =>
    intro a
    unfold sp_find
    split
    · omega
    · have := ih (a + 1); omega
theorem sp_bl_le (f : Nat → Int32) : ∀ m a, a ≤ sp_bl f m a ∧ sp_bl f m a ≤ a + m := by
  intro m
  induction m with
  | zero => intro a; exact ⟨Nat.le_refl _, Nat.le_refl _⟩
  | succ m ih =>
    intro a
    unfold sp_bl
    split
    · have := ih (a + 1); omega
    · omega
theorem sp_tr_le (f : Nat → Int32) : ∀ m b, m ≤ b → b - m ≤ sp_tr f m b ∧ sp_tr f m b ≤ b := by
  intro m
  induction m with
  | zero => intro b _; exact ⟨Nat.le_refl _, Nat.le_refl _⟩
  | succ m ih =>
    intro b hb
    unfold sp_tr
    split
    · have := ih (b - 1) (by omega); omega
    · omega
theorem ev_at {n i : Nat} {t : mz_St} (h : i < 6600) : f_SI_at n (nI i) t = some (mz_gI t 2 i, t) := by
  unfold f_SI_at
  rw [if_neg (nI_pos (by omega)), if_neg (show ¬ (6600 : Int32) ≤ nI i from nI_ge (b := 6600) h (by decide)), if_pos (pz_in h (by decide)), nI_clamp (by omega)]
theorem ev_find_3 {n : Nat} {t : mz_St} {c : Int32} {b : Nat} (hb : b ≤ 6600) : ∀ k a, a ≤ b → b - a < k → f_SI_find_3 n k c (nI b) (nI a) t = some (nI (sp_find (mz_gI t 2) c (b - a) a), t) := by
  intro k
  induction k with
  | zero => intro a _ h; omega
  | succ k ih =>
    intro a ha hk
    unfold f_SI_find_3
    by_cases h : b ≤ a
    · rw [if_pos ((pz_le (by omega) (by omega)).mpr h)]
      have e : b - a = 0 := by omega
      rw [e]
      rfl
    · rw [if_neg (fun q => h ((pz_le (by omega) (by omega)).mp q)), ev_at (by omega)]
      obtain ⟨m, hm⟩ : ∃ m, b - a = m + 1 := ⟨b - a - 1, by omega⟩
      show (if mz_gI t 2 a = c then some (nI a, t) else f_SI_find_3 n k c (nI b) (nI a + (1 : Int32)) t) = _
      rw [hm]
      unfold sp_find
      by_cases hc : mz_gI t 2 a = c
      · rw [if_pos hc, if_pos hc]
      · rw [if_neg hc, if_neg hc, show nI a + (1 : Int32) = nI (a + 1) from nI_1 a, ih (a + 1) (by omega) (by omega)]
        rw [show b - (a + 1) = m by omega]
theorem ev_find {n : Nat} {t : mz_St} {c : Int32} {a b : Nat} (hn : 10000 ≤ n) (hb : b ≤ 6600) (ha : a ≤ b) : f_SI_find n c (nI a) (nI b) t = some (nI (sp_find (mz_gI t 2) c (b - a) a), t) := ev_find_3 hb n a ha (by omega)
theorem sp_run_le (f : Nat → Int32) : ∀ m a, a ≤ sp_run f m a ∧ sp_run f m a ≤ a + m := by
  intro m
  induction m with
  | zero => intro a; exact ⟨Nat.le_refl _, Nat.le_refl _⟩
  | succ m ih =>
    intro a
    unfold sp_run
    split
    · have := ih (a + 1); omega
    · omega
theorem sp_we_le (f : Nat → Int32) : ∀ m a, a ≤ sp_we f m a ∧ sp_we f m a ≤ a + m := by
  intro m a
  cases m with
  | zero => exact ⟨Nat.le_refl _, Nat.le_refl _⟩
  | succ m =>
    show a ≤ (if sp_b (f a) = true then sp_run f m (a + 1) else a) ∧ (if sp_b (f a) = true then sp_run f m (a + 1) else a) ≤ a + (m + 1)
    split
    · have := sp_run_le f m (a + 1); omega
    · omega
theorem sp_bi_0 {b : Bool} : sp_bi b = 0 ↔ b = false := by
  cases b <;> decide
theorem ev_behind_2 {n : Nat} {t : mz_St} {b : Nat} (hb : b ≤ 6600) : ∀ k a, a ≤ b → b - a < k → f_SI_behindBlanks_2 n k (nI b) (nI a) t = some (nI (sp_bl (mz_gI t 2) (b - a) a), t) := by
  intro k
  induction k with
  | zero => intro a _ h; omega
  | succ k ih =>
    intro a ha hk
    unfold f_SI_behindBlanks_2
    by_cases h : b ≤ a
    · rw [if_pos ((pz_le (by omega) (by omega)).mpr h)]
      have e : b - a = 0 := by omega
      rw [e]
      rfl
    · rw [if_neg (fun q => h ((pz_le (by omega) (by omega)).mp q)), if_neg (nI_pos (by omega)), if_neg (show ¬ (6600 : Int32) ≤ nI a from nI_ge (b := 6600) (by omega) (by decide)), if_pos (pz_in (by omega) (by decide)), nI_clamp (by omega)]
      obtain ⟨m, hm⟩ : ∃ m, b - a = m + 1 := ⟨b - a - 1, by omega⟩
      rw [hm]
      unfold sp_bl
      by_cases hc : mz_gI t 2 a = 32
      · rw [if_pos hc, if_pos hc, show nI a + (1 : Int32) = nI (a + 1) from nI_1 a, ih (a + 1) (by omega) (by omega), show b - (a + 1) = m by omega]
      · rw [if_neg hc, if_neg hc]
theorem ev_behind {n : Nat} {t : mz_St} {a b : Nat} (hn : 10000 ≤ n) (hb : b ≤ 6600) (ha : a ≤ b) : f_SI_behindBlanks n (nI a) (nI b) t = some (nI (sp_bl (mz_gI t 2) (b - a) a), t) := ev_behind_2 hb n a ha (by omega)
theorem ev_ahead_2 {n : Nat} {t : mz_St} {a : Nat} : ∀ k b, a ≤ b → b ≤ 6600 → b - a < k → f_SI_aheadOfBlanks_2 n k (nI a) (nI b) t = some (nI (sp_tr (mz_gI t 2) (b - a) b), t) := by
  intro k
  induction k with
  | zero => intro b _ _ h; omega
  | succ k ih =>
    intro b ha hb hk
    unfold f_SI_aheadOfBlanks_2
    by_cases h : b ≤ a
    · rw [if_pos ((pz_le (by omega) (by omega)).mpr h)]
      have e : b - a = 0 := by omega
      rw [e]
      rfl
    · have e1 : nI b - (1 : Int32) = nI (b - 1) := pz_sub (a := b) (b := 1) (by omega)
      have e2 : nI b + (-1 : Int32) = nI (b - 1) := sb_m1 (by omega)
      rw [if_neg (fun q => h ((pz_le (by omega) (by omega)).mp q)), if_neg (nI_nle (by omega) (by omega)), if_neg (show ¬ (6600 : Int32) < nI b from nI_nlt (a := 6600) (by omega) (by decide)), e1, if_pos (pz_in (by omega) (by decide)), nI_clamp (by omega), e2]
      obtain ⟨m, hm⟩ : ∃ m, b - a = m + 1 := ⟨b - a - 1, by omega⟩
      rw [hm]
      unfold sp_tr
      by_cases hc : mz_gI t 2 (b - 1) = 32
      · rw [if_pos hc, if_pos hc, ih (b - 1) (by omega) (by omega) (by omega), show b - 1 - a = m by omega]
      · rw [if_neg hc, if_neg hc]
theorem ev_ahead {n : Nat} {t : mz_St} {a b : Nat} (hn : 10000 ≤ n) (hb : b ≤ 6600) (ha : a ≤ b) : f_SI_aheadOfBlanks n (nI a) (nI b) t = some (nI (sp_tr (mz_gI t 2) (b - a) b), t) := ev_ahead_2 n b ha hb (by omega)
theorem pz_nlt {x y : Int32} : ¬ x < y ↔ y ≤ x := by
  rw [Int32.lt_iff_toInt_lt, Int32.le_iff_toInt_le]; omega
theorem pz_nle {x y : Int32} : ¬ x ≤ y ↔ y < x := by
  rw [Int32.lt_iff_toInt_lt, Int32.le_iff_toInt_le]; omega
theorem ev_beg {n : Nat} {c : Int32} {t : mz_St} : f_SI_beginsWord n c t = some (sp_bi (sp_b c), t) := by
  unfold f_SI_beginsWord f_SI_beginsWord_12 f_SI_beginsWord_18 sp_b sp_bi
  by_cases h1 : c < 97
  · have h2 : ¬ (97 : Int32) ≤ c := pz_nle.mpr h1
    by_cases h3 : c = 95 <;> simp [h1, h2, h3]
  · have h2 : (97 : Int32) ≤ c := pz_nlt.mp h1
    by_cases h4 : c ≤ 122
    · simp [h1, h2, h4]
    · by_cases h3 : c = 95 <;> simp [h1, h2, h3, h4]
theorem ev_dig {n : Nat} {c : Int32} {t : mz_St} : f_SI_isDigit n c t = some (sp_bi (sp_d c), t) := by
  unfold f_SI_isDigit sp_d sp_bi
  by_cases h1 : c < 48
  · have h2 : ¬ (48 : Int32) ≤ c := pz_nle.mpr h1
    simp [h1, h2]
  · have h2 : (48 : Int32) ≤ c := pz_nlt.mp h1
    by_cases h4 : 57 < c
    · have h5 : ¬ c ≤ 57 := pz_nle.mpr h4
      simp [h1, h2, h4, h5]
    · have h5 : c ≤ 57 := pz_nlt.mp h4
      simp [h1, h2, h4, h5]
theorem ev_we_22 {n : Nat} {t : mz_St} {b : Nat} (hb : b ≤ 6600) : ∀ k a, a ≤ b → b - a < k → f_SI_wordEnd_22 n k (nI b) (nI a) t = some (nI (sp_run (mz_gI t 2) (b - a) a), t) := by
  intro k
  induction k with
  | zero => intro a _ h; omega
  | succ k ih =>
    intro a ha hk
    unfold f_SI_wordEnd_22
    by_cases h : b ≤ a
    · rw [if_pos ((pz_le (by omega) (by omega)).mpr h)]
      have e : b - a = 0 := by omega
      rw [e]
      rfl
    · rw [if_neg (fun q => h ((pz_le (by omega) (by omega)).mp q)), ev_at (by omega)]
      obtain ⟨m, hm⟩ : ∃ m, b - a = m + 1 := ⟨b - a - 1, by omega⟩
      rw [hm]
      simp only [Option.bind_some, ev_beg, ev_dig, ev_at (show a < 6600 by omega), sp_bi_0]
      unfold sp_run f_SI_wordEnd_49
      rw [show nI a + (1 : Int32) = nI (a + 1) from nI_1 a, ih (a + 1) (by omega) (by omega), show b - (a + 1) = m by omega]
      unfold sp_w
      cases sp_b (mz_gI t 2 a) <;> cases sp_d (mz_gI t 2 a) <;> simp
theorem ev_we {n : Nat} {t : mz_St} {a b : Nat} (hn : 10000 ≤ n) (hb : b ≤ 6600) (ha : a ≤ b) : f_SI_wordEnd n (nI a) (nI b) t = some (nI (sp_we (mz_gI t 2) (b - a) a), t) := by
  unfold f_SI_wordEnd
  by_cases h : b ≤ a
  · rw [if_pos ((pz_le (by omega) (by omega)).mpr h)]
    have e : b - a = 0 := by omega
    rw [e]
    rfl
  · rw [if_neg (fun q => h ((pz_le (by omega) (by omega)).mp q)), ev_at (by omega)]
    obtain ⟨m, hm⟩ : ∃ m, b - a = m + 1 := ⟨b - a - 1, by omega⟩
    rw [hm]
    simp only [Option.bind_some, ev_beg, sp_bi_0]
    unfold sp_we
    rw [show nI a + (1 : Int32) = nI (a + 1) from nI_1 a, ev_we_22 hb n (a + 1) (by omega) (by omega), show b - (a + 1) = m by omega]
    cases hsb : sp_b (mz_gI t 2 a) <;> simp [hsb]
