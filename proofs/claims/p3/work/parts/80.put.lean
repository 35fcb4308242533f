/-! PURE: put -/
/-- the byte with r still to come (r = 4 the lowest) -/
def fx_c (x : Int32) (r : Nat) : Int32 := (x >>> (nI (32 - 8 * r) &&& 31)) &&& 255
def fx_ok (c : Int32) : Bool := decide (c = 10) || (decide (32 ≤ c) && decide (c ≤ 126))
theorem fx_sh (x : Int32) (k : Nat) (hk : k < 32) : ((x.toUInt32 >>> ((nI k).toUInt32 &&& Int32.toUInt32 31)).toInt32 &&& 255) = ((x >>> (nI k &&& 31)) &&& 255) ∨ 24 < k := by
  by_cases h24 : 24 < k
  · exact Or.inr h24
  · refine Or.inl ?_
    have e1 : ((nI k).toUInt32 &&& Int32.toUInt32 31) = UInt32.ofNat k := by
      have : ∀ k, k < 32 → ((nI k).toUInt32 &&& Int32.toUInt32 31) = UInt32.ofNat k := by decide
      exact this k hk
    have e2 : (nI k &&& 31) = nI k := by
      have : ∀ k, k < 32 → (nI k &&& 31) = nI k := by decide
      exact this k hk
    rw [e1, e2]
    apply Int32.toBitVec_inj.mp
    apply BitVec.eq_of_getLsbD_eq
    intro i hi
    have hb : (255 : Int32).toBitVec.getLsbD i = decide (i < 8) := by
      have : ∀ i, i < 32 → (255 : Int32).toBitVec.getLsbD i = decide (i < 8) := by decide
      exact this i hi
    have s1 : (x.toUInt32 >>> UInt32.ofNat k).toInt32.toBitVec = x.toBitVec >>> k := by
      show (x.toUInt32 >>> UInt32.ofNat k).toBitVec = _
      rw [UInt32.toBitVec_shiftRight]
      have : ((UInt32.ofNat k).toBitVec % 32) = BitVec.ofNat 32 k := by
        have : ∀ k, k < 32 → ((UInt32.ofNat k).toBitVec % 32) = BitVec.ofNat 32 k := by decide
        exact this k hk
      rw [this]
      rw [BitVec.ushiftRight_eq', BitVec.toNat_ofNat, Nat.mod_eq_of_lt (by omega)]
      rfl
    have s2 : (x >>> nI k).toBitVec = x.toBitVec.sshiftRight k := by
      rw [Int32.toBitVec_shiftRight]
      have : ((nI k).toBitVec.smod 32) = BitVec.ofNat 32 k := by
        have : ∀ k, k < 32 → ((nI k).toBitVec.smod 32) = BitVec.ofNat 32 k := by decide
        exact this k hk
      rw [this, BitVec.sshiftRight', BitVec.toNat_ofNat, Nat.mod_eq_of_lt (by omega)]
    rw [Int32.toBitVec_and, Int32.toBitVec_and, BitVec.getLsbD_and, BitVec.getLsbD_and, hb, s1, s2]
    by_cases h8 : i < 8
    · rw [BitVec.getLsbD_ushiftRight, BitVec.getLsbD_sshiftRight]
      simp only [h8, decide_true, Bool.and_true]
      have : ¬ 32 ≤ i := by omega
      simp [this, show k + i < 32 by omega]
    · simp [h8]
theorem fx_cc (x : Int32) {r : Nat} (h1 : 1 ≤ r) (h4 : r ≤ 4) : ((x.toUInt32 >>> ((nI (32 - 8 * r)).toUInt32 &&& Int32.toUInt32 31)).toInt32 &&& 255) = fx_c x r := by
  rcases fx_sh x (32 - 8 * r) (by omega) with h | h
  · exact h
  · omega
theorem fx_lo (x : Int32) (r : Nat) : 0 ≤ fx_c x r ∧ fx_c x r ≤ 255 := by
  have key : ∀ y : Int32, 0 ≤ (y &&& 255) ∧ (y &&& 255) ≤ 255 := by
    intro y
    have h : (y &&& 255).toBitVec.toNat ≤ 255 := by
      rw [Int32.toBitVec_and, BitVec.toNat_and]
      exact Nat.and_le_right
    have hi : (y &&& 255).toInt = ((y &&& 255).toBitVec.toNat : Int) := by
      show (y &&& 255).toBitVec.toInt = _
      rw [BitVec.toInt_eq_toNat_of_lt (by omega)]
    constructor
    · rw [Int32.le_iff_toInt_le, hi]
      exact Int.natCast_nonneg _
    · rw [Int32.le_iff_toInt_le, hi]
      show ((y &&& 255).toBitVec.toNat : Int) ≤ 255
      omega
  exact key _
def fx_good (x : Int32) : Nat → Bool
  | 0 => true
  | r + 1 => (decide (fx_c x (r + 1) = 0) || fx_ok (fx_c x (r + 1))) && fx_good x r
def fx_n (x : Int32) : Nat → Nat
  | 0 => 0
  | r + 1 => (if fx_c x (r + 1) = 0 then 0 else 1) + fx_n x r
theorem fx_n_le (x : Int32) : ∀ r, fx_n x r ≤ r := by
  intro r
  induction r with
  | zero => exact Nat.le_refl _
  | succ r ih =>
    unfold fx_n
    split <;> omega
theorem fx_ms {n : Nat} {c : Int32} {t : mz_St} : f_SI_mayStand n c t = some (sp_bi (fx_ok c), t) := by
  unfold f_SI_mayStand f_SI_mayStand_18 fx_ok sp_bi
  by_cases h1 : c = 10
  · simp [h1]
  · by_cases h2 : c < 32
    · have h3 : ¬ (32 : Int32) ≤ c := pz_nle.mpr h2
      simp [h1, h2, h3]
    · have h3 : (32 : Int32) ≤ c := pz_nlt.mp h2
      by_cases h4 : 126 < c
      · have h5 : ¬ c ≤ 126 := pz_nle.mpr h4
        simp [h1, h2, h3, h4, h5]
      · have h5 : c ≤ 126 := pz_nlt.mp h4
        simp [h1, h2, h3, h4, h5]
theorem fx_in {n : Nat} {c : Int32} {t : mz_St} (h10 : ¬ c = 10) : f_MO_in n c 32 126 t = some (sp_bi (fx_ok c), t) := by
  unfold f_MO_in fx_ok sp_bi
  by_cases h2 : c < 32
  · have h3 : ¬ (32 : Int32) ≤ c := pz_nle.mpr h2
    simp [h10, h2, h3]
  · have h3 : (32 : Int32) ≤ c := pz_nlt.mp h2
    by_cases h4 : 126 < c
    · have h5 : ¬ c ≤ 126 := pz_nle.mpr h4
      simp [h10, h2, h3, h4, h5]
    · have h5 : c ≤ 126 := pz_nlt.mp h4
      simp [h10, h2, h3, h4, h5]
theorem fx_step {r : Nat} (h4 : r + 1 ≤ 4) : nI (32 - 8 * (r + 1)) + (8 : Int32) = nI (32 - 8 * r) := by
  rw [show (8 : Int32) = nI 8 from rfl, nI_add]
  congr 1
  omega
theorem fx_nl {r : Nat} (h : 1 ≤ r) (h4 : r ≤ 4) : ¬ (32 : Int32) ≤ nI (32 - 8 * r) := nI_ge (a := 32 - 8 * r) (b := 32) (by omega) (by decide)
theorem fx_put_T {n len : Nat} {x : Int32} {t : mz_St} (hlen : mz_gI t 1 3 = nI len) (hl : len ≤ 3000) : ∀ r k more, r ≤ 4 → more + r ≤ 4 → r < k →
    f_MH_put_T_4 n k x (nI more) (nI (32 - 8 * r)) t = (if fx_good x r = false then some 0 else if len + more + fx_n x r ≤ 3000 then none else some 1) := by
  intro r
  induction r with
  | zero =>
    intro k more _ hm hk
    obtain ⟨k, rfl⟩ : ∃ j, k = j + 1 := ⟨k - 1, by omega⟩
    unfold f_MH_put_T_4
    rw [if_pos (show (32 : Int32) ≤ nI (32 - 8 * 0) from nI_le (Nat.le_refl _) (by decide)), hlen, nI_add]
    rw [if_neg (show ¬ fx_good x 0 = false from Bool.noConfusion)]
    by_cases h : len + more ≤ 3000
    · rw [if_pos (show nI (len + more) ≤ (3000 : Int32) from nI_le (b := 3000) h (by decide)), if_pos (show len + more + fx_n x 0 ≤ 3000 from h)]
    · rw [if_neg (show ¬ nI (len + more) ≤ (3000 : Int32) from nI_ge (a := 3000) (by omega) (by omega)), if_neg (show ¬ len + more + fx_n x 0 ≤ 3000 from h)]
  | succ r ih =>
    intro k more h4 hm hk
    obtain ⟨k, rfl⟩ : ∃ j, k = j + 1 := ⟨k - 1, by omega⟩
    unfold f_MH_put_T_4
    rw [if_neg (fx_nl (by omega) h4)]
    simp only [fx_cc x (show 1 ≤ r + 1 by omega) h4, fx_ms, Option.bind_some, sp_bi_0]
    unfold f_MH_put_T_42 f_MH_put_T_53
    rw [fx_step h4]
    by_cases hc : fx_c x (r + 1) = 0
    · rw [if_pos hc, if_pos hc, show nI more + (0 : Int32) = nI more from nI_add more 0, ih k more (by omega) (by omega) (by omega)]
      simp only [fx_good, fx_n, hc, decide_true, Bool.true_or, Bool.true_and, if_true, Nat.zero_add]
    · rw [if_neg hc]
      cases ho : fx_ok (fx_c x (r + 1)) with
      | false =>
        simp only [if_true, fx_good, hc, decide_false, Bool.false_or, ho, Bool.false_and]
      | true =>
        simp only [Bool.true_eq_false, if_false]
        rw [if_neg hc, show nI more + (1 : Int32) = nI (more + 1) from nI_1 more, ih k (more + 1) (by omega) (by omega) (by omega)]
        simp only [fx_good, fx_n, hc, decide_false, Bool.false_or, ho, Bool.true_and, if_false]
        rw [show len + (more + 1) + fx_n x r = len + more + (1 + fx_n x r) by omega]
theorem fx_put_N {n len : Nat} {x : Int32} {t : mz_St} (hlen : mz_gI t 1 3 = nI len) (hl : len ≤ 3000) : ∀ r k more, r ≤ 4 → more + r ≤ 4 → r < k →
    f_MH_put_4 n k x (nI more) (nI (32 - 8 * r)) t = (if fx_good x r = false then none else if len + more + fx_n x r ≤ 3000 then f_MH_put_88 n n x 0 t else none) := by
  intro r
  induction r with
  | zero =>
    intro k more _ hm hk
    obtain ⟨k, rfl⟩ : ∃ j, k = j + 1 := ⟨k - 1, by omega⟩
    unfold f_MH_put_4
    rw [if_pos (show (32 : Int32) ≤ nI (32 - 8 * 0) from nI_le (Nat.le_refl _) (by decide)), hlen, nI_add]
    rw [if_neg (show ¬ fx_good x 0 = false from Bool.noConfusion)]
    by_cases h : len + more ≤ 3000
    · rw [if_pos (show nI (len + more) ≤ (3000 : Int32) from nI_le (b := 3000) h (by decide)), if_pos (show len + more + fx_n x 0 ≤ 3000 from h)]
    · rw [if_neg (show ¬ nI (len + more) ≤ (3000 : Int32) from nI_ge (a := 3000) (by omega) (by omega)), if_neg (show ¬ len + more + fx_n x 0 ≤ 3000 from h)]
  | succ r ih =>
    intro k more h4 hm hk
    obtain ⟨k, rfl⟩ : ∃ j, k = j + 1 := ⟨k - 1, by omega⟩
    unfold f_MH_put_4
    rw [if_neg (fx_nl (by omega) h4)]
    simp only [fx_cc x (show 1 ≤ r + 1 by omega) h4, fx_ms, Option.bind_some, sp_bi_0]
    unfold f_MH_put_42 f_MH_put_53
    rw [fx_step h4]
    by_cases hc : fx_c x (r + 1) = 0
    · rw [if_pos hc, if_pos hc, show nI more + (0 : Int32) = nI more from nI_add more 0, ih k more (by omega) (by omega) (by omega)]
      simp only [fx_good, fx_n, hc, decide_true, Bool.true_or, Bool.true_and, if_true, Nat.zero_add]
    · rw [if_neg hc]
      cases ho : fx_ok (fx_c x (r + 1)) with
      | false =>
        simp only [if_true, fx_good, hc, decide_false, Bool.false_or, ho, Bool.false_and]
      | true =>
        simp only [Bool.true_eq_false, if_false]
        rw [if_neg hc, show nI more + (1 : Int32) = nI (more + 1) from nI_1 more, ih k (more + 1) (by omega) (by omega) (by omega)]
        simp only [fx_good, fx_n, hc, decide_false, Bool.false_or, ho, Bool.true_and, if_false]
        rw [show len + (more + 1) + fx_n x r = len + more + (1 + fx_n x r) by omega]
theorem fx_ref {n : Nat} {a b : Int32} {t : mz_St} : f_MO_refuse n a b t = some (if a = 0 then (if b = 0 then ((0 : Int32), mz_pI t 0 0 0) else (1, mz_pI t 0 0 2)) else (1, mz_pI t 0 0 1)) := by
  unfold f_MO_refuse f_MO_refuse_18
  simp only [mz_let]
  by_cases ha : a = 0
  · rw [if_pos ha, if_pos ha]
    by_cases hb : b = 0
    · rw [if_pos hb, if_pos hb, if_pos (show mz_gI (mz_pI t 0 0 0) 0 0 ≤ 0 from (by decide : (0 : Int32) ≤ 0))]
    · rw [if_neg hb, if_neg hb, if_neg (show ¬ mz_gI (mz_pI t 0 0 2) 0 0 ≤ 0 from (by decide : ¬ (2 : Int32) ≤ 0))]
  · rw [if_neg ha, if_neg ha, if_neg (show ¬ mz_gI (mz_pI t 0 0 1) 0 0 ≤ 0 from (by decide : ¬ (1 : Int32) ≤ 0))]
theorem fx_le0 {x : Int32} {r : Nat} : fx_c x r ≤ 0 ↔ fx_c x r = 0 := by
  constructor
  · intro h
    exact Int32.le_antisymm h (fx_lo x r).1
  · intro h
    rw [h]
    decide
theorem fx_mo0 {n : Nat} {x : Int32} {t : mz_St} : ∀ r k (more : Int32), r ≤ 4 → r < k → f_MO_put_7 n k x more 0 (nI (32 - 8 * r)) t = some (0, mz_pI t 0 0 1) := by
  intro r
  induction r with
  | zero =>
    intro k more _ hk
    obtain ⟨k, rfl⟩ : ∃ j, k = j + 1 := ⟨k - 1, by omega⟩
    unfold f_MO_put_7
    rw [if_pos (show (32 : Int32) ≤ nI (32 - 8 * 0) from nI_le (Nat.le_refl _) (by decide)), if_pos rfl]
    unfold f_MO_put_87 f_MO_put_107 f_MO_put_108
    rw [if_pos rfl, fx_ref]
    rfl
  | succ r ih =>
    intro k more h4 hk
    obtain ⟨k, rfl⟩ : ∃ j, k = j + 1 := ⟨k - 1, by omega⟩
    unfold f_MO_put_7
    rw [if_neg (fx_nl (by omega) h4), if_pos rfl]
    unfold f_MO_put_56 f_MO_put_57 f_MO_put_70
    rw [fx_step h4, ih k _ (by omega) (by omega), ih k _ (by omega) (by omega), ite_self]
theorem fx_mo {n len : Nat} {x : Int32} {t : mz_St} (hlen : mz_gI t 0 2 = nI len) (hl : len ≤ 3000) : ∀ r k more, r ≤ 4 → more + r ≤ 4 → r < k →
    f_MO_put_7 n k x (nI more) 1 (nI (32 - 8 * r)) t = (if fx_good x r = false then some (0, mz_pI t 0 0 1) else if len + more + fx_n x r ≤ 3000 then f_MO_put_119 n n x 0 (mz_pI t 0 0 0) else some (0, mz_pI t 0 0 2)) := by
  intro r
  induction r with
  | zero =>
    intro k more _ hm hk
    obtain ⟨k, rfl⟩ : ∃ j, k = j + 1 := ⟨k - 1, by omega⟩
    unfold f_MO_put_7
    rw [if_pos (show (32 : Int32) ≤ nI (32 - 8 * 0) from nI_le (Nat.le_refl _) (by decide)), if_neg (show ¬ (1 : Int32) = 0 by decide)]
    unfold f_MO_put_87 f_MO_put_107 f_MO_put_108
    rw [if_neg (show ¬ (1 : Int32) = 0 by decide), hlen, nI_add, fx_ref, fx_ref]
    rw [if_neg (show ¬ fx_good x 0 = false from Bool.noConfusion)]
    by_cases h : len + more ≤ 3000
    · rw [if_pos (show nI (len + more) ≤ (3000 : Int32) from nI_le (b := 3000) h (by decide)), if_pos (show len + more + fx_n x 0 ≤ 3000 from h)]
      simp
    · rw [if_neg (show ¬ nI (len + more) ≤ (3000 : Int32) from nI_ge (a := 3000) (by omega) (by omega)), if_neg (show ¬ len + more + fx_n x 0 ≤ 3000 from h)]
      simp
  | succ r ih =>
    intro k more h4 hm hk
    obtain ⟨k, rfl⟩ : ∃ j, k = j + 1 := ⟨k - 1, by omega⟩
    unfold f_MO_put_7
    rw [if_neg (fx_nl (by omega) h4), if_neg (show ¬ (1 : Int32) = 0 by decide), show (x >>> (nI (32 - 8 * (r + 1)) &&& 31) &&& (255 : Int32)) = fx_c x (r + 1) from rfl]
    unfold f_MO_put_52 f_MO_put_56 f_MO_put_57 f_MO_put_70
    rw [fx_step h4]
    have i0 := ih k more (by omega) (by omega) (by omega)
    have i1 := ih k (more + 1) (by omega) (by omega) (by omega)
    simp only [show nI more + (1 : Int32) = nI (more + 1) from nI_1 more, i0, i1, fx_mo0 r k _ (by omega : r ≤ 4) (by omega : r < k), ite_self, fx_le0]
    by_cases hc : fx_c x (r + 1) = 0
    · simp only [hc, if_true, fx_good, fx_n, decide_true, Bool.true_or, Bool.true_and, Nat.zero_add]
    · simp only [hc, if_false]
      by_cases h10 : fx_c x (r + 1) = 10
      · have ho : fx_ok (fx_c x (r + 1)) = true := by unfold fx_ok; simp [h10]
        rw [if_pos h10]
        simp only [fx_good, fx_n, hc, decide_false, Bool.false_or, ho, Bool.true_and, if_false]
        rw [show len + (more + 1) + fx_n x r = len + more + (1 + fx_n x r) by omega]
      · rw [if_neg h10, fx_in h10]
        simp only [Option.bind_some, sp_bi_0]
        cases ho : fx_ok (fx_c x (r + 1)) with
        | false => simp only [if_true, fx_good, hc, decide_false, Bool.false_or, ho, Bool.false_and]
        | true =>
          simp only [Bool.true_eq_false, if_false, fx_good, fx_n, hc, decide_false, Bool.false_or, ho, Bool.true_and]
          rw [i1, show len + (more + 1) + fx_n x r = len + more + (1 + fx_n x r) by omega]
