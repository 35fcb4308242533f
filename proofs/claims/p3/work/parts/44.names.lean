/-! PURE: names: the class's by their signs, the reference's by two longs -/
def sp_eq (g f : Nat → Int32) : Nat → Nat → Nat → Bool
  | 0, _, _ => true
  | m + 1, p, u => decide (g p = f u) && sp_eq g f m (p + 1) (u + 1)
/-- the first of m names from i on that is the word from u to w -/
def sp_nm (ln g f : Nat → Int32) (u w : Nat) : Nat → Nat → Option Nat
  | 0, _ => none
  | m + 1, i => if (decide (ln i = nI (w - u)) && sp_eq g f (w - u) (12 * i) u) = true then some i else sp_nm ln g f u w m (i + 1)
def sp_ix (o : Option Nat) : Int32 := match o with
  | none => -1
  | some i => nI i
/-- the last of m names from i on with these halves, or x -/
def sp_pm (ga gb : Nat → Int64) (A B : Int64) : Nat → Nat → Int32 → Int32
  | 0, _, x => x
  | m + 1, i, x => if ga i = A ∧ gb i = B then sp_pm ga gb A B m (i + 1) (nI i) else sp_pm ga gb A B m (i + 1) x
theorem sp_cmp0 {a b : Int64} : (lg_cmp a b = 0) ↔ a = b := by
  unfold lg_cmp
  by_cases h : a = b
  · subst h
    by_cases g : a > a
    · exact absurd g (by rw [gt_iff_lt, Int64.lt_iff_toInt_lt]; omega)
    · rw [if_neg g, if_pos rfl]
      exact ⟨fun _ => rfl, fun _ => rfl⟩
  · refine ⟨fun q => ?_, fun q => absurd q h⟩
    by_cases g : a > b
    · rw [if_pos g] at q
      exact absurd q (by decide)
    · rw [if_neg g, if_neg h] at q
      exact absurd q (by decide)
theorem sp_eq_iff {g f : Nat → Int32} : ∀ m p u, sp_eq g f m p u = true ↔ ∀ j, j < m → g (p + j) = f (u + j) := by
  intro m
  induction m with
  | zero => intro p u; exact ⟨fun _ j hj => by omega, fun _ => rfl⟩
  | succ m ih =>
    intro p u
    simp only [sp_eq, Bool.and_eq_true, decide_eq_true_eq, ih]
    refine ⟨fun h j hj => ?_, fun h => ⟨h 0 (by omega), fun j hj => ?_⟩⟩
    · cases j with
      | zero => exact h.1
      | succ j =>
        have := h.2 j (by omega)
        rw [show p + (j + 1) = p + 1 + j by omega, show u + (j + 1) = u + 1 + j by omega]
        exact this
    · have := h (j + 1) (by omega)
      rw [show p + 1 + j = p + (j + 1) by omega, show u + 1 + j = u + (j + 1) by omega]
      exact this
/-- the names of kind c: how many, their lengths -/
def nz_Rc (t : mz_St) (cnt : Nat) : Prop := mz_gI t 15 4 = nI cnt ∧ cnt ≤ 64 ∧ (∀ i, i < cnt → ∃ l, l ≤ 12 ∧ mz_gI t 17 i = nI l)
theorem nz_lenc {n cnt i : Nat} {t : mz_St} (h : nz_Rc t cnt) (hi : i < cnt) : f_NA_lengthOf_c n (nI i) t = some (mz_gI t 17 i, t) := by
  obtain ⟨h1, h2, h3⟩ := h
  unfold f_NA_lengthOf_c
  rw [if_neg (nI_pos (by omega)), h1, if_neg (nI_ge hi (by omega)), if_neg (show ¬ (64 : Int32) ≤ nI i from nI_ge (b := 64) (by omega) (by decide)), if_pos (pz_in (by omega) (by decide)), nI_clamp (by omega)]
theorem nz_isc_44 {n p u len : Nat} {t : mz_St} (hp : p + len ≤ 768) (hu : u + len ≤ 6600) : ∀ k j, j ≤ len → len - j < k → f_NA_is_c_44 n k (nI u) (nI p) (nI len) (nI j) t = some (sp_bi (sp_eq (mz_gI t 16) (mz_gI t 2) (len - j) (p + j) (u + j)), t) := by
  intro k
  induction k with
  | zero => intro j _ h; omega
  | succ k ih =>
    intro j hj hk
    unfold f_NA_is_c_44
    by_cases h : len ≤ j
    · rw [if_pos (nI_le h (by omega)), show len - j = 0 by omega]
      rfl
    · rw [if_neg (nI_ge (by omega) (by omega)), nI_add, nI_add, if_pos (pz_in (by omega) (by decide)), nI_clamp (by omega), ev_at (by omega)]
      obtain ⟨m, hm⟩ : ∃ m, len - j = m + 1 := ⟨len - j - 1, by omega⟩
      rw [hm]
      simp only [Option.bind_some, sp_eq]
      rw [show nI j + (1 : Int32) = nI (j + 1) from nI_1 j, ih (j + 1) (by omega) (by omega), show len - (j + 1) = m by omega, show p + (j + 1) = p + j + 1 by omega, show u + (j + 1) = u + j + 1 by omega]
      by_cases hc : mz_gI t 16 (p + j) = mz_gI t 2 (u + j)
      · rw [if_pos hc, decide_eq_true hc, Bool.true_and]
      · rw [if_neg hc, decide_eq_false hc, Bool.false_and]
        rfl
theorem nz_isc {n cnt i u w : Nat} {t : mz_St} (hn : 10000 ≤ n) (h : nz_Rc t cnt) (hi : i < cnt) (hu : u ≤ w) (hw : w ≤ 6600) : f_NA_is_c n (nI i) (nI u) (nI w) t = some (sp_bi (decide (mz_gI t 17 i = nI (w - u)) && sp_eq (mz_gI t 16) (mz_gI t 2) (w - u) (12 * i) u), t) := by
  obtain ⟨l, hl, el⟩ := h.2.2 i hi
  have hc := h.2.1
  unfold f_NA_is_c
  rw [nz_lenc h hi, pz_sub hu, show nI i * (12 : Int32) = nI (12 * i) from (pk_mul i 12).trans (by rw [Nat.mul_comm])]
  simp only [Option.bind_some]
  by_cases e : mz_gI t 17 i = nI (w - u)
  · have e2 : w - u = l := by
      rw [el] at e
      exact ((nI_eq (by omega) (by omega)).mp e).symm
    rw [if_pos e, if_neg (nI_pos (by omega)), nI_add, if_pos (show nI (12 * i + (w - u)) ≤ (768 : Int32) from nI_le (b := 768) (by omega) (by decide)), show (0 : Int32) = nI 0 from rfl, nz_isc_44 (by omega) (by omega) n 0 (by omega) (by omega), decide_eq_true e, Bool.true_and]
    rfl
  · rw [if_neg e, decide_eq_false e, Bool.false_and]
    rfl
theorem nz_findc_2 {n cnt u w : Nat} {t : mz_St} (hn : 10000 ≤ n) (h : nz_Rc t cnt) (hu : u ≤ w) (hw : w ≤ 6600) : ∀ k i, i ≤ cnt → cnt - i < k → f_NA_find_c_2 n k (nI u) (nI w) (nI i) t = some (sp_ix (sp_nm (mz_gI t 17) (mz_gI t 16) (mz_gI t 2) u w (cnt - i) i), t) := by
  have hc := h.2.1
  intro k
  induction k with
  | zero => intro i _ h; omega
  | succ k ih =>
    intro i hi hk
    unfold f_NA_find_c_2
    rw [h.1]
    by_cases hlt : cnt ≤ i
    · rw [if_pos (nI_le hlt (by omega)), show cnt - i = 0 by omega]
      rfl
    · rw [if_neg (nI_ge (by omega) (by omega)), nz_isc hn h (by omega) hu hw]
      obtain ⟨m, hm⟩ : ∃ m, cnt - i = m + 1 := ⟨cnt - i - 1, by omega⟩
      rw [hm]
      simp only [Option.bind_some, sp_bi_0, sp_nm]
      rw [show nI i + (1 : Int32) = nI (i + 1) from nI_1 i, ih (i + 1) (by omega) (by omega), show cnt - (i + 1) = m by omega]
      cases decide (mz_gI t 17 i = nI (w - u)) && sp_eq (mz_gI t 16) (mz_gI t 2) (w - u) (12 * i) u <;> simp [sp_ix]
theorem nz_findc {n cnt u w : Nat} {t : mz_St} (hn : 10000 ≤ n) (h : nz_Rc t cnt) (hu : u ≤ w) (hw : w ≤ 6600) : f_NA_find_c n (nI u) (nI w) t = some (sp_ix (sp_nm (mz_gI t 17) (mz_gI t 16) (mz_gI t 2) u w cnt 0), t) := nz_findc_2 hn h hu hw n 0 (by omega) (by have := h.2.1; omega)
/-- the names of kind m: how many, their lengths -/
def nz_Rm (t : mz_St) (cnt : Nat) : Prop := mz_gI t 27 4 = nI cnt ∧ cnt ≤ 16 ∧ (∀ i, i < cnt → ∃ l, l ≤ 12 ∧ mz_gI t 29 i = nI l)
theorem nz_lenm {n cnt i : Nat} {t : mz_St} (h : nz_Rm t cnt) (hi : i < cnt) : f_NA_lengthOf_m n (nI i) t = some (mz_gI t 29 i, t) := by
  obtain ⟨h1, h2, h3⟩ := h
  unfold f_NA_lengthOf_m
  rw [if_neg (nI_pos (by omega)), h1, if_neg (nI_ge hi (by omega)), if_neg (show ¬ (16 : Int32) ≤ nI i from nI_ge (b := 16) (by omega) (by decide)), if_pos (pz_in (by omega) (by decide)), nI_clamp (by omega)]
theorem nz_ism_44 {n p u len : Nat} {t : mz_St} (hp : p + len ≤ 192) (hu : u + len ≤ 6600) : ∀ k j, j ≤ len → len - j < k → f_NA_is_m_44 n k (nI u) (nI p) (nI len) (nI j) t = some (sp_bi (sp_eq (mz_gI t 28) (mz_gI t 2) (len - j) (p + j) (u + j)), t) := by
  intro k
  induction k with
  | zero => intro j _ h; omega
  | succ k ih =>
    intro j hj hk
    unfold f_NA_is_m_44
    by_cases h : len ≤ j
    · rw [if_pos (nI_le h (by omega)), show len - j = 0 by omega]
      rfl
    · rw [if_neg (nI_ge (by omega) (by omega)), nI_add, nI_add, if_pos (pz_in (by omega) (by decide)), nI_clamp (by omega), ev_at (by omega)]
      obtain ⟨m, hm⟩ : ∃ m, len - j = m + 1 := ⟨len - j - 1, by omega⟩
      rw [hm]
      simp only [Option.bind_some, sp_eq]
      rw [show nI j + (1 : Int32) = nI (j + 1) from nI_1 j, ih (j + 1) (by omega) (by omega), show len - (j + 1) = m by omega, show p + (j + 1) = p + j + 1 by omega, show u + (j + 1) = u + j + 1 by omega]
      by_cases hc : mz_gI t 28 (p + j) = mz_gI t 2 (u + j)
      · rw [if_pos hc, decide_eq_true hc, Bool.true_and]
      · rw [if_neg hc, decide_eq_false hc, Bool.false_and]
        rfl
theorem nz_ism {n cnt i u w : Nat} {t : mz_St} (hn : 10000 ≤ n) (h : nz_Rm t cnt) (hi : i < cnt) (hu : u ≤ w) (hw : w ≤ 6600) : f_NA_is_m n (nI i) (nI u) (nI w) t = some (sp_bi (decide (mz_gI t 29 i = nI (w - u)) && sp_eq (mz_gI t 28) (mz_gI t 2) (w - u) (12 * i) u), t) := by
  obtain ⟨l, hl, el⟩ := h.2.2 i hi
  have hc := h.2.1
  unfold f_NA_is_m
  rw [nz_lenm h hi, pz_sub hu, show nI i * (12 : Int32) = nI (12 * i) from (pk_mul i 12).trans (by rw [Nat.mul_comm])]
  simp only [Option.bind_some]
  by_cases e : mz_gI t 29 i = nI (w - u)
  · have e2 : w - u = l := by
      rw [el] at e
      exact ((nI_eq (by omega) (by omega)).mp e).symm
    rw [if_pos e, if_neg (nI_pos (by omega)), nI_add, if_pos (show nI (12 * i + (w - u)) ≤ (192 : Int32) from nI_le (b := 192) (by omega) (by decide)), show (0 : Int32) = nI 0 from rfl, nz_ism_44 (by omega) (by omega) n 0 (by omega) (by omega), decide_eq_true e, Bool.true_and]
    rfl
  · rw [if_neg e, decide_eq_false e, Bool.false_and]
    rfl
theorem nz_findm_2 {n cnt u w : Nat} {t : mz_St} (hn : 10000 ≤ n) (h : nz_Rm t cnt) (hu : u ≤ w) (hw : w ≤ 6600) : ∀ k i, i ≤ cnt → cnt - i < k → f_NA_find_m_2 n k (nI u) (nI w) (nI i) t = some (sp_ix (sp_nm (mz_gI t 29) (mz_gI t 28) (mz_gI t 2) u w (cnt - i) i), t) := by
  have hc := h.2.1
  intro k
  induction k with
  | zero => intro i _ h; omega
  | succ k ih =>
    intro i hi hk
    unfold f_NA_find_m_2
    rw [h.1]
    by_cases hlt : cnt ≤ i
    · rw [if_pos (nI_le hlt (by omega)), show cnt - i = 0 by omega]
      rfl
    · rw [if_neg (nI_ge (by omega) (by omega)), nz_ism hn h (by omega) hu hw]
      obtain ⟨m, hm⟩ : ∃ m, cnt - i = m + 1 := ⟨cnt - i - 1, by omega⟩
      rw [hm]
      simp only [Option.bind_some, sp_bi_0, sp_nm]
      rw [show nI i + (1 : Int32) = nI (i + 1) from nI_1 i, ih (i + 1) (by omega) (by omega), show cnt - (i + 1) = m by omega]
      cases decide (mz_gI t 29 i = nI (w - u)) && sp_eq (mz_gI t 28) (mz_gI t 2) (w - u) (12 * i) u <;> simp [sp_ix]
theorem nz_findm {n cnt u w : Nat} {t : mz_St} (hn : 10000 ≤ n) (h : nz_Rm t cnt) (hu : u ≤ w) (hw : w ≤ 6600) : f_NA_find_m n (nI u) (nI w) t = some (sp_ix (sp_nm (mz_gI t 29) (mz_gI t 28) (mz_gI t 2) u w cnt 0), t) := nz_findm_2 hn h hu hw n 0 (by omega) (by have := h.2.1; omega)
theorem nm_constantOf_6 {n cnt : Nat} {t : mz_St} {A B : Int64} (hc : mz_gI t 0 24 = nI cnt) (hN : cnt ≤ 64) : ∀ k i x, i ≤ cnt → cnt - i < k → f_MO_constantOf_6 n k A B x (nI i) t = some (sp_pm (mz_gL t 15) (mz_gL t 16) A B (cnt - i) i x, t) := by
  intro k
  induction k with
  | zero => intro i x _ h; omega
  | succ k ih =>
    intro i x hi hk
    unfold f_MO_constantOf_6
    rw [hc]
    by_cases hlt : cnt ≤ i
    · rw [if_pos (nI_le hlt (by omega)), show cnt - i = 0 by omega]
      rfl
    · rw [if_neg (nI_ge (by omega) (by omega)), if_pos (pz_in (by omega) (by decide)), if_pos (pz_in (by omega) (by decide)), nI_clamp (by omega)]
      obtain ⟨m, hm⟩ : ∃ m, cnt - i = m + 1 := ⟨cnt - i - 1, by omega⟩
      rw [hm]
      unfold f_MO_constantOf_44 f_MO_constantOf_46
      rw [show nI i + (1 : Int32) = nI (i + 1) from nI_1 i, ih (i + 1) x (by omega) (by omega), ih (i + 1) (nI i) (by omega) (by omega), show cnt - (i + 1) = m by omega]
      simp only [sp_pm, sp_cmp0]
      by_cases c1 : mz_gL t 15 i = A
      · by_cases c2 : mz_gL t 16 i = B
        · rw [if_pos c1, if_pos c2, if_pos ⟨c1, c2⟩]
        · rw [if_pos c1, if_neg c2, if_neg (fun q => c2 q.2)]
      · rw [if_neg c1, if_neg (fun q => c1 q.1)]
theorem nm_constantOf {n cnt : Nat} {t : mz_St} {A B : Int64} (hn : 10000 ≤ n) (hc : mz_gI t 0 24 = nI cnt) (hN : cnt ≤ 64) : f_MO_constantOf n A B t = some (sp_pm (mz_gL t 15) (mz_gL t 16) A B cnt 0 (-1), t) := nm_constantOf_6 hc hN n 0 (-1) (by omega) (by omega)
theorem nm_macroOf_6 {n cnt : Nat} {t : mz_St} {A B : Int64} (hc : mz_gI t 0 12 = nI cnt) (hN : cnt ≤ 16) : ∀ k i x, i ≤ cnt → cnt - i < k → f_MO_macroOf_6 n k A B x (nI i) t = some (sp_pm (mz_gL t 4) (mz_gL t 5) A B (cnt - i) i x, t) := by
  intro k
  induction k with
  | zero => intro i x _ h; omega
  | succ k ih =>
    intro i x hi hk
    unfold f_MO_macroOf_6
    rw [hc]
    by_cases hlt : cnt ≤ i
    · rw [if_pos (nI_le hlt (by omega)), show cnt - i = 0 by omega]
      rfl
    · rw [if_neg (nI_ge (by omega) (by omega)), if_pos (pz_in (by omega) (by decide)), if_pos (pz_in (by omega) (by decide)), nI_clamp (by omega)]
      obtain ⟨m, hm⟩ : ∃ m, cnt - i = m + 1 := ⟨cnt - i - 1, by omega⟩
      rw [hm]
      unfold f_MO_macroOf_44 f_MO_macroOf_46
      rw [show nI i + (1 : Int32) = nI (i + 1) from nI_1 i, ih (i + 1) x (by omega) (by omega), ih (i + 1) (nI i) (by omega) (by omega), show cnt - (i + 1) = m by omega]
      simp only [sp_pm, sp_cmp0]
      by_cases c1 : mz_gL t 4 i = A
      · by_cases c2 : mz_gL t 5 i = B
        · rw [if_pos c1, if_pos c2, if_pos ⟨c1, c2⟩]
        · rw [if_pos c1, if_neg c2, if_neg (fun q => c2 q.2)]
      · rw [if_neg c1, if_neg (fun q => c1 q.1)]
theorem nm_macroOf {n cnt : Nat} {t : mz_St} {A B : Int64} (hn : 10000 ≤ n) (hc : mz_gI t 0 12 = nI cnt) (hN : cnt ≤ 16) : f_MO_macroOf n A B t = some (sp_pm (mz_gL t 4) (mz_gL t 5) A B cnt 0 (-1), t) := nm_macroOf_6 hc hN n 0 (-1) (by omega) (by omega)
