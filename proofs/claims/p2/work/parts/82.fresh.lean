/-! PURE: the calls on a fresh object -/
set_option maxRecDepth 100000 in
theorem fr_exC : (f_MH_expand 50 mz_zC).map (·.1) = some 0 := by decide +kernel
set_option maxRecDepth 100000 in
theorem fr_exM : (f_MO_expand 50 mz_zM).map (·.1) = some 0 := by decide +kernel
/-- a call's answer is alike on both sides -/
def fr_same (a : Option (Int32 × Option Int64 × mz_St)) (b : Option (Int32 × mz_St)) : Bool := match a, b with
  | some q, some r => decide (mz_gI r.2 0 0 = q.1) && (!decide (q.1 = 0) || decide (q.2.1 = some r.1.toInt64))
  | _, _ => false
theorem fr_same_e {a : Option (Int32 × Option Int64 × mz_St)} {b : Option (Int32 × mz_St)} (h : fr_same a b = true) : ∃ q r, a = some q ∧ b = some r ∧ mz_gI r.2 0 0 = q.1 ∧ (q.1 = 0 → q.2.1 = some r.1.toInt64) := by
  cases a with
  | none => exact nomatch h
  | some q =>
    cases b with
    | none => exact nomatch h
    | some r =>
      refine ⟨q, r, rfl, rfl, ?_⟩
      simp only [fr_same, Bool.and_eq_true, Bool.or_eq_true, decide_eq_true_eq, Bool.not_eq_true', decide_eq_false_iff_not] at h
      refine ⟨h.1, fun h0 => ?_⟩
      rcases h.2 with h2 | h2
      · exact absurd h0 h2
      · exact h2
theorem fr_put (x : Int32) : fr_same (h_put 50 x mz_zC) (f_MO_put 50 x mz_zM) = true := by
  rw [fx_h_put (len := 0) (by omega) rfl (by omega), fx_m_put (len := 0) (by omega) rfl (by omega)]
  by_cases hg : fx_good x 4 = false
  · rw [if_pos hg, if_pos hg]
    rfl
  · rw [if_neg hg, if_neg hg]
    have h4 := fx_n_le x 4
    rw [if_pos (by omega), if_pos (by omega)]
    have hz : ∀ r len t, mz_gI (fx_wM x r len t) 0 0 = mz_gI t 0 0 := by
      intro r
      induction r with
      | zero => intro len t; rfl
      | succ r ih =>
        intro len t
        unfold fx_wM
        split
        · exact ih _ _
        · rw [ih]
          rfl
    simp only [fr_same, hz]
    simp [gI_pI]
theorem fr_refuse1 {n : Nat} {t : mz_St} : f_MO_refuse n 1 0 t = some (1, mz_pI t 0 0 1) := by
  rw [fx_ref]
  rfl
theorem fr_in0 {n : Nat} {x a : Int32} {b : Int32} {t : mz_St} (h : x < a ∨ b < x) : f_MO_in n x a b t = some (0, t) := by
  unfold f_MO_in
  rcases h with h | h
  · rw [if_pos h]
  · rw [if_pos h]
    exact ite_self _
theorem fr_out (x : Int32) : x < 0 ∨ (-1 : Int32) < x := by
  by_cases h : x < 0
  · exact Or.inl h
  · refine Or.inr ?_
    exact Int32.lt_of_lt_of_le (by decide) (pz_nlt.mp h)
theorem fr_line (x y : Int32) : fr_same (h_line 50 x y mz_zC) (f_MO_line 50 x y mz_zM) = true := by
  have e1 : f_MH_line 50 x y mz_zC = none := by
    unfold f_MH_line f_MH_line_18
    by_cases h : x < 0
    · rw [if_pos h]
    · rw [if_neg h, if_neg (show ¬ x < mz_gI mz_zC 32 5 from h)]
  have e2 : f_MH_line_T 50 x y mz_zC = some 2 := by
    unfold f_MH_line_T f_MH_line_T_18
    by_cases h : x < 0
    · rw [if_pos h]
    · rw [if_neg h, if_neg (show ¬ x < mz_gI mz_zC 32 5 from h)]
  have e3 : f_MO_line 50 x y mz_zM = some (0, mz_pI mz_zM 0 0 1) := by
    unfold f_MO_line f_MO_line_22 f_MO_line_34 f_MO_line_35
    rw [fr_in0 (b := mz_gI mz_zM 0 28 - 1) (fr_out x)]
    simp only [Option.bind_some, if_true, fr_refuse1]
    rfl
  unfold h_line
  rw [e1, e2, e3]
  rfl
theorem fr_constant (x y : Int32) : fr_same (h_constant 50 x y mz_zC) (f_MO_constant 50 x y mz_zM) = true := by
  have e1 : f_MH_constant 50 x y mz_zC = none := by
    unfold f_MH_constant f_MH_constant_21
    by_cases h : x < 0
    · rw [if_pos h]
    · rw [if_neg h, if_neg (show ¬ x < mz_gI mz_zC 15 4 from h)]
  have e2 : f_MH_constant_T 50 x y mz_zC = some 2 := by
    unfold f_MH_constant_T f_MH_constant_T_21
    by_cases h : x < 0
    · rw [if_pos h]
    · rw [if_neg h, if_neg (show ¬ x < mz_gI mz_zC 15 4 from h)]
  have e3 : f_MO_constant 50 x y mz_zM = some (0, mz_pI mz_zM 0 0 1) := by
    unfold f_MO_constant f_MO_constant_22 f_MO_constant_34 f_MO_constant_35
    rw [fr_in0 (b := mz_gI mz_zM 0 24 - 1) (fr_out x)]
    simp only [Option.bind_some, if_true, fr_refuse1]
    rfl
  unfold h_constant
  rw [e1, e2, e3]
  rfl
theorem fr_macro (x y : Int32) : fr_same (h_macro 50 x y mz_zC) (f_MO_macro 50 x y mz_zM) = true := by
  have e1 : f_MH_macro 50 x y mz_zC = none := by
    unfold f_MH_macro f_MH_macro_21
    by_cases h : x < 0
    · rw [if_pos h]
    · rw [if_neg h, if_neg (show ¬ x < mz_gI mz_zC 27 4 from h)]
  have e2 : f_MH_macro_T 50 x y mz_zC = some 2 := by
    unfold f_MH_macro_T f_MH_macro_T_21
    by_cases h : x < 0
    · rw [if_pos h]
    · rw [if_neg h, if_neg (show ¬ x < mz_gI mz_zC 27 4 from h)]
  have e3 : f_MO_macro 50 x y mz_zM = some (0, mz_pI mz_zM 0 0 1) := by
    unfold f_MO_macro f_MO_macro_22 f_MO_macro_34 f_MO_macro_35
    rw [fr_in0 (b := mz_gI mz_zM 0 12 - 1) (fr_out x)]
    simp only [Option.bind_some, if_true, fr_refuse1]
    rfl
  unfold h_macro
  rw [e1, e2, e3]
  rfl
theorem fr_about9 : ∀ j, j ≤ 8 → fr_same (h_about 50 (nI j) mz_zC) (f_MO_about 50 (nI j) mz_zM) = true := by decide +kernel
theorem fr_about (x : Int32) : fr_same (h_about 50 x mz_zC) (f_MO_about 50 x mz_zM) = true := by
  by_cases h : x < 0 ∨ 8 < x
  · have hne : ∀ j, j ≤ 8 → ¬ x = nI j := by
      rintro j hj rfl
      rcases h with h | h
      · exact nI_pos (by omega) h
      · exact nI_nlt (a := 8) hj (by decide) h
    have e1 : f_MH_about 50 x mz_zC = none := by
      unfold f_MH_about
      rw [if_neg (show ¬ x = (0 : Int32) from hne 0 (by omega)), if_neg (show ¬ x = (1 : Int32) from hne 1 (by omega)), if_neg (show ¬ x = (2 : Int32) from hne 2 (by omega)), if_neg (show ¬ x = (3 : Int32) from hne 3 (by omega)), if_neg (show ¬ x = (4 : Int32) from hne 4 (by omega)), if_neg (show ¬ x = (5 : Int32) from hne 5 (by omega)), if_neg (show ¬ x = (6 : Int32) from hne 6 (by omega)), if_neg (show ¬ x = (7 : Int32) from hne 7 (by omega)), if_neg (show ¬ x = (8 : Int32) from hne 8 (by omega))]
    have e2 : f_MH_about_T 50 x mz_zC = some 0 := by
      unfold f_MH_about_T
      rw [if_neg (show ¬ x = (0 : Int32) from hne 0 (by omega)), if_neg (show ¬ x = (1 : Int32) from hne 1 (by omega)), if_neg (show ¬ x = (2 : Int32) from hne 2 (by omega)), if_neg (show ¬ x = (3 : Int32) from hne 3 (by omega)), if_neg (show ¬ x = (4 : Int32) from hne 4 (by omega)), if_neg (show ¬ x = (5 : Int32) from hne 5 (by omega)), if_neg (show ¬ x = (6 : Int32) from hne 6 (by omega)), if_neg (show ¬ x = (7 : Int32) from hne 7 (by omega)), if_neg (show ¬ x = (8 : Int32) from hne 8 (by omega))]
    have e3 : f_MO_about 50 x mz_zM = some (0, mz_pI mz_zM 0 0 1) := by
      unfold f_MO_about f_MO_about_16
      rw [fr_in0 h]
      simp only [Option.bind_some, if_true, fr_refuse1]
      rfl
    unfold h_about
    rw [e1, e2, e3]
    rfl
  · obtain ⟨j, hj, rfl⟩ := nI_of2 (x := x) (M := 8) (n := 8) (by decide) (fun q => h (Or.inl q)) (pz_nlt.mp (fun q => h (Or.inr q)))
    exact fr_about9 j hj
theorem fr_end (x : Int32) : ∃ q r, h_end 50 x mz_zC = some q ∧ f_MO_end 50 x mz_zM = some r ∧ mz_gI r 0 0 = q.1 := by
  by_cases h : x < 0 ∨ 0 < x
  · have e1 : f_MH_end 50 x mz_zC = none := by
      unfold f_MH_end f_MH_end_15
      rcases h with h | h
      · rw [if_pos h]
      · rw [if_neg (show ¬ x < 0 from fun q => absurd (Int32.lt_trans q h) (Int32.lt_irrefl)), if_neg (show ¬ x ≤ mz_gI mz_zC 1 3 from pz_nle.mpr h)]
    have e2 : f_MH_end_T 50 x mz_zC = some 0 := by
      unfold f_MH_end_T f_MH_end_T_15
      rcases h with h | h
      · rw [if_pos h]
      · rw [if_neg (show ¬ x < 0 from fun q => absurd (Int32.lt_trans q h) (Int32.lt_irrefl)), if_neg (show ¬ x ≤ mz_gI mz_zC 1 3 from pz_nle.mpr h)]
    refine ⟨(1, none, mz_zC), mz_pI mz_zM 0 0 1, ?_, ?_, rfl⟩
    · unfold h_end
      rw [e1, e2]
      rfl
    · unfold f_MO_end f_MO_end_18
      rw [fr_in0 (b := mz_gI mz_zM 0 2) h]
      simp only [Option.bind_some, if_true, fr_refuse1]
      rfl
  · obtain ⟨j, hj, rfl⟩ := nI_of2 (x := x) (M := 0) (n := 0) (by decide) (fun q => h (Or.inl q)) (pz_nlt.mp (fun q => h (Or.inr q)))
    obtain rfl : j = 0 := by omega
    exact ⟨_, _, rfl, rfl, rfl⟩
theorem fr_cmp (v : Int64) : lg_cmp v v = 0 := by
  unfold lg_cmp
  simp
theorem fr_tail {n k L : Nat} {xs : Nat → Int32} {i : Int32} {tC tM : mz_St} {g : Nat → Int64} (h : (Int32.ofNat L) - (3 : Int32) < i) : f_law n xs L (k + 1) i tC tM g = some () := by
  unfold f_law
  rw [if_pos h]
theorem fr_step {q : Int32 × Option Int64 × mz_St} {r : Int32 × mz_St} {g : Nat → Int64} {Z : mz_St → mz_St → (Nat → Int64) → Option Unit} (h1 : mz_gI r.2 0 0 = q.1) (h2 : q.1 = 0 → q.2.1 = some r.1.toInt64) (hZ : ∀ a b c, Z a b c = some ()) :
    ((f_MO_thrown 50 r.2).bind fun z => if z.1 = q.1 then (if q.1 = 0 then (if (lg_cmp ((lh_g g q.2.1) 0) r.1.toInt64) = 0 then (Z q.2.2 z.2 (lh_g g q.2.1)) else none) else (Z q.2.2 z.2 (lh_g g q.2.1))) else none) = some () := by
  unfold f_MO_thrown
  simp only [Option.bind_some]
  rw [if_pos h1]
  by_cases h0 : q.1 = 0
  · rw [if_pos h0, h2 h0, if_pos (show lg_cmp (lh_g g (some r.1.toInt64) 0) r.1.toInt64 = 0 from fr_cmp _), hZ]
  · rw [if_neg h0, hZ]
set_option maxRecDepth 100000 in
theorem fr_law (xs : Nat → Int32) (L : Nat) (hL : L ≤ 3) (g : Nat → Int64) : f_law 50 xs L 1000 0 mz_zC mz_zM g = some () := by
  by_cases h3 : L < 3
  · have key : ∀ L, L < 3 → (Int32.ofNat L) - (3 : Int32) < 0 := by decide
    exact fr_tail (k := 999) (key L h3)
  · obtain rfl : L = 3 := by omega
    have hZ : ∀ a b c, f_law 50 xs 3 999 (0 + 3) a b c = some () := fun a b c => fr_tail (k := 998) (by decide)
    rw [show (1000 : Nat) = 999 + 1 from rfl]
    unfold f_law
    rw [if_neg (show ¬ Int32.ofNat 3 - (3 : Int32) < 0 by decide), if_pos (show ¬ ((0 : Int32) < 0 ∨ 3 ≤ (0 : Int32).toNatClampNeg) by decide)]
    have g1 : ¬ ((0 : Int32) + 1 < 0 ∨ 3 ≤ ((0 : Int32) + 1).toNatClampNeg) := by decide
    have g2 : ¬ ((0 : Int32) + 2 < 0 ∨ 3 ≤ ((0 : Int32) + 2).toNatClampNeg) := by decide
    simp only [if_pos g1, if_pos g2]
    generalize hv : xs (0 : Int32).toNatClampNeg &&& (7 : Int32) = v
    by_cases h0 : v = (0 : Int32)
    · rw [if_pos h0]
      obtain ⟨q, r, e1, e2, h1, h2⟩ := fr_same_e (fr_put (xs ((0 : Int32) + 1).toNatClampNeg))
      rw [e1, e2]
      exact fr_step h1 h2 hZ
    rw [if_neg h0]
    by_cases h1 : v = (1 : Int32)
    · rw [if_pos h1]
      obtain ⟨q, r, e1, e2, h1⟩ := fr_end (xs ((0 : Int32) + 1).toNatClampNeg)
      rw [e1, e2]
      show (if mz_gI r 0 0 = q.1 then _ else _) = _
      rw [if_pos h1]
      exact hZ _ _ _
    rw [if_neg h1]
    by_cases h2 : v = (2 : Int32)
    · rw [if_pos h2]
      obtain ⟨a, ha, ha0⟩ := Option.map_eq_some_iff.mp fr_exC
      obtain ⟨b, hb, hb0⟩ := Option.map_eq_some_iff.mp fr_exM
      rw [ha, hb]
      show (if a.1 = b.1 then _ else _) = _
      rw [if_pos (ha0.trans hb0.symm)]
      exact hZ _ _ _
    rw [if_neg h2]
    by_cases h3 : v = (3 : Int32)
    · rw [if_pos h3]
      obtain ⟨q, r, e1, e2, h1, h2⟩ := fr_same_e (fr_about (xs ((0 : Int32) + 1).toNatClampNeg))
      rw [e1, e2]
      exact fr_step h1 h2 hZ
    rw [if_neg h3]
    by_cases h4 : v = (4 : Int32)
    · rw [if_pos h4]
      obtain ⟨q, r, e1, e2, h1, h2⟩ := fr_same_e (fr_line (xs ((0 : Int32) + 1).toNatClampNeg) (xs ((0 : Int32) + 2).toNatClampNeg))
      rw [e1, e2]
      exact fr_step h1 h2 hZ
    rw [if_neg h4]
    by_cases h5 : v = (5 : Int32)
    · rw [if_pos h5]
      obtain ⟨q, r, e1, e2, h1, h2⟩ := fr_same_e (fr_constant (xs ((0 : Int32) + 1).toNatClampNeg) (xs ((0 : Int32) + 2).toNatClampNeg))
      rw [e1, e2]
      exact fr_step h1 h2 hZ
    rw [if_neg h5]
    by_cases h6 : v = (6 : Int32)
    · rw [if_pos h6]
      obtain ⟨q, r, e1, e2, h1, h2⟩ := fr_same_e (fr_macro (xs ((0 : Int32) + 1).toNatClampNeg) (xs ((0 : Int32) + 2).toNatClampNeg))
      rw [e1, e2]
      exact fr_step h1 h2 hZ
    rw [if_neg h6]
    exact hZ _ _ _
