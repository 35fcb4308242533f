/-! TOTAL: an Option that is 'some' and as wanted -/
def Tp {α : Type} (o : Option α) (Q : α → Prop) : Prop := ∃ r, o = some r ∧ Q r
theorem Tp_so {α : Type} {Q : α → Prop} {r : α} (h : Q r) : Tp (some r) Q := ⟨r, rfl, h⟩
theorem Tp_bi {α β : Type} {o : Option α} {f : α → Option β} {P : α → Prop} {Q : β → Prop} (h : Tp o P) (g : ∀ r, P r → Tp (f r) Q) : Tp (o.bind f) Q := by
  obtain ⟨r, rfl, hr⟩ := h
  exact g r hr
theorem Tp_mo {α : Type} {o : Option α} {P Q : α → Prop} (h : Tp o P) (g : ∀ r, P r → Q r) : Tp o Q := by
  obtain ⟨r, e, hr⟩ := h
  exact ⟨r, e, g r hr⟩
theorem Tp_if {α : Type} {c : Prop} [Decidable c] {a b : Option α} {Q : α → Prop} (h1 : c → Tp a Q) (h2 : ¬ c → Tp b Q) : Tp (if c then a else b) Q := by
  by_cases h : c
  · rw [if_pos h]; exact h1 h
  · rw [if_neg h]; exact h2 h
theorem Tp_gd {α : Type} {c : Prop} [Decidable c] {a b : Option α} {Q : α → Prop} (h : c) (h1 : Tp a Q) : Tp (if c then a else b) Q := by
  rw [if_pos h]; exact h1
theorem Tp_le {α β : Type} {x : α} {f : α → Option β} {Q : β → Prop} (h : ∀ y, y = x → Tp (f y) Q) : Tp (mz_let x f) Q := h x rfl
theorem ti_lo (x : Int32) : -2147483648 ≤ x.toInt := Int32.le_toInt x
theorem ti_hi (x : Int32) : x.toInt ≤ 2147483647 := by have := Int32.toInt_lt x; omega
theorem ti_rg (x : Int32) : -2147483648 ≤ x.toInt ∧ x.toInt ≤ 2147483647 := ⟨ti_lo x, ti_hi x⟩
theorem ti_bmod {z : Int} (h1 : -2147483648 ≤ z) (h2 : z ≤ 2147483647) : z.bmod (2 ^ 32) = z := by
  rw [Int.bmod_def]; omega
theorem ti_add {x y : Int32} (h1 : -2147483648 ≤ x.toInt + y.toInt) (h2 : x.toInt + y.toInt ≤ 2147483647) : (x + y).toInt = x.toInt + y.toInt := by
  rw [Int32.toInt_add]; exact ti_bmod h1 h2
theorem ti_sub {x y : Int32} (h1 : -2147483648 ≤ x.toInt - y.toInt) (h2 : x.toInt - y.toInt ≤ 2147483647) : (x - y).toInt = x.toInt - y.toInt := by
  rw [Int32.toInt_sub]; exact ti_bmod h1 h2
theorem ti_mul {x y : Int32} (h1 : -2147483648 ≤ x.toInt * y.toInt) (h2 : x.toInt * y.toInt ≤ 2147483647) : (x * y).toInt = x.toInt * y.toInt := by
  rw [Int32.toInt_mul]; exact ti_bmod h1 h2
theorem ti_mx {a b x y : Int32} : ((if a < b then x else y).toInt = x.toInt ∧ a.toInt < b.toInt) ∨ ((if a < b then x else y).toInt = y.toInt ∧ b.toInt ≤ a.toInt) := by
  by_cases h : a < b
  · rw [if_pos h]; exact Or.inl ⟨rfl, Int32.lt_iff_toInt_lt.mp h⟩
  · rw [if_neg h]; exact Or.inr ⟨rfl, by have : ¬ a.toInt < b.toInt := fun q => h (Int32.lt_iff_toInt_lt.mpr q)
                                         omega⟩
theorem ti_l {a b : Int32} (h : a < b) : a.toInt < b.toInt := Int32.lt_iff_toInt_lt.mp h
theorem ti_nl {a b : Int32} (h : ¬ a < b) : b.toInt ≤ a.toInt := by
  have : ¬ a.toInt < b.toInt := fun q => h (Int32.lt_iff_toInt_lt.mpr q)
  omega
theorem ti_e {a b : Int32} (h : a ≤ b) : a.toInt ≤ b.toInt := Int32.le_iff_toInt_le.mp h
theorem ti_ne {a b : Int32} (h : ¬ a ≤ b) : b.toInt < a.toInt := by
  have : ¬ a.toInt ≤ b.toInt := fun q => h (Int32.le_iff_toInt_le.mpr q)
  omega
theorem ti_q {a b : Int32} (h : a = b) : a.toInt = b.toInt := by rw [h]
theorem ti_nq {a b : Int32} (h : ¬ a = b) : a.toInt ≠ b.toInt := fun q => h (Int32.toInt_inj.mp q)
theorem ti_cl (x : Int32) : x.toNatClampNeg = x.toInt.toNat := rfl
theorem ti_ix {x : Int32} {N : Nat} (h1 : 0 ≤ x.toInt) (h2 : x.toInt < N) : ¬ (x < 0 ∨ N ≤ x.toNatClampNeg) := by
  rw [ti_cl]
  intro h
  rcases h with h | h
  · have := ti_l h
    rw [show (0 : Int32).toInt = 0 from rfl] at this
    omega
  · omega
theorem ti_c16 {x : Int32} {N : Nat} (h1 : 0 < N) (h2 : x.toInt < N) : x.toNatClampNeg < N := by
  rw [ti_cl]; omega
theorem ti_b {x : Int32} (h1 : 0 ≤ x.toInt) (h2 : x.toInt ≤ 1) : x = 0 ∨ x = 1 := by
  rcases (show x.toInt = 0 ∨ x.toInt = 1 by omega) with h | h
  · exact Or.inl (Int32.toInt_inj.mp h)
  · exact Or.inr (Int32.toInt_inj.mp h)
theorem ti_n0 {x : Int32} (h : x.toInt ≠ 0) : ¬ x = 0 := fun q => h (by rw [q]; rfl)
theorem gI_same (t : mz_St) (k j : Nat) (v : Int32) : mz_gI (mz_pI t k j v) k j = v := by
  unfold mz_gI mz_pI; simp
theorem gI_oth (t : mz_St) {k j k' j' : Nat} (v : Int32) (h : ¬ (k' = k ∧ j' = j)) : mz_gI (mz_pI t k j v) k' j' = mz_gI t k' j' := by
  unfold mz_gI mz_pI; simp only [if_neg h]
theorem ti_m1 (x : Int32) : x + (-1 : Int32) = x - (1 : Int32) := by
  rw [Int32.sub_eq_add_neg]
theorem ti_mulr {x y : Int32} {c : Int} (h : y.toInt = c) (h1 : -2147483648 ≤ x.toInt * c) (h2 : x.toInt * c ≤ 2147483647) : (x * y).toInt = x.toInt * c := by
  subst h; exact ti_mul h1 h2
theorem ti_mull {x y : Int32} {c : Int} (h : x.toInt = c) (h1 : -2147483648 ≤ c * y.toInt) (h2 : c * y.toInt ≤ 2147483647) : (x * y).toInt = c * y.toInt := by
  subst h; exact ti_mul h1 h2
theorem ti_divr {x y : Int32} {c : Int} (h : y.toInt = c) (h1 : 0 ≤ x.toInt) (h2 : 0 < c) : (x / y).toInt = x.toInt / c := by
  have h3 := ti_hi x
  have h4 : x.toInt / c ≤ x.toInt := Int.ediv_le_self c h1
  have h5 : 0 ≤ x.toInt / c := Int.ediv_nonneg h1 (by omega)
  rw [Int32.toInt_div, h, Int.tdiv_eq_ediv_of_nonneg h1]
  exact ti_bmod (by omega) (by omega)
theorem ti_and1 (x : Int32) : 0 ≤ (x &&& 1).toInt ∧ (x &&& 1).toInt ≤ 1 := by
  have h : (x &&& 1).toBitVec.toNat < 2 := by
    show (x.toBitVec &&& (1 : Int32).toBitVec).toNat < 2
    rw [BitVec.toNat_and]
    show x.toBitVec.toNat &&& 1 < 2
    rw [Nat.and_one_is_mod]
    omega
  have h2 : (x &&& 1) = 0 ∨ (x &&& 1) = 1 := by
    rcases (show (x &&& 1).toBitVec.toNat = 0 ∨ (x &&& 1).toBitVec.toNat = 1 by omega) with h | h
    · exact Or.inl (Int32.toBitVec_inj.mp (BitVec.eq_of_toNat_eq h))
    · exact Or.inr (Int32.toBitVec_inj.mp (BitVec.eq_of_toNat_eq h))
  rcases h2 with h | h <;> rw [h] <;> decide
theorem ti_nb (x : Int32) : 0 ≤ (vp_nar .boolean x).toInt ∧ (vp_nar .boolean x).toInt ≤ 1 := ti_and1 x
