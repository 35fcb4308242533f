/-! the law's loop: every call answers, and end's answers are alike -/
theorem gz_cmp {g : Nat → Int64} (v : Int64) : lg_cmp (lh_g g (some v) 0) v = 0 := by
  show lg_cmp v v = 0
  unfold lg_cmp
  simp
set_option maxRecDepth 100000 in
set_option maxHeartbeats 8000000 in
theorem lw_run {n : Nat} (hn : 8589934592 ≤ n) {xs : Nat → Int32} {L : Nat} (hL : L ≤ 1536) : ∀ (k j : Nat) (tC tM : mz_St) (g : Nat → Int64), BI tC tM → j ≤ 1539 → 1539 - j < 3 * k → f_law n xs L k (nI j) tC tM g = some () := by
  intro k
  induction k with
  | zero => intro j tC tM g _ h1 h2; omega
  | succ k ih =>
    intro j tC tM g hB h1 h2
    have l3 : (3 : Int32).toInt = 3 := rfl
    have tL : (Int32.ofNat L).toInt = L := Int32.toInt_ofNat_of_lt (by omega)
    have tj := ti_nI (k := j) (by omega)
    have eL : (Int32.ofNat L - (3 : Int32)).toInt = (Int32.ofNat L).toInt - (3 : Int32).toInt := ti_sub (by omega) (by omega)
    unfold f_law
    by_cases he : Int32.ofNat L - (3 : Int32) < nI j
    · rw [if_pos he]
    rw [if_neg he]
    have he' := ti_nl he
    have hj : j + 3 ≤ L := by omega
    have g0 : ¬ (nI j < 0 ∨ L ≤ (nI j).toNatClampNeg) := pz_in (by omega) (by omega)
    have a1 : nI j + (1 : Int32) = nI (j + 1) := nI_1 j
    have a2 : nI j + (2 : Int32) = nI (j + 2) := nI_add j 2
    have a3 : nI j + (3 : Int32) = nI (j + 3) := nI_add j 3
    have g1 : ¬ (nI (j + 1) < 0 ∨ L ≤ (nI (j + 1)).toNatClampNeg) := pz_in (by omega) (by omega)
    have g2 : ¬ (nI (j + 2) < 0 ∨ L ≤ (nI (j + 2)).toNatClampNeg) := pz_in (by omega) (by omega)
    have hZ : ∀ a b c, BI a b → f_law n xs L k (nI (j + 3)) a b c = some () := fun a b c h => ih (j + 3) a b c h (by omega) (by omega)
    rw [if_pos g0, a1, a2, a3]
    simp only [if_pos g1, if_pos g2]
    generalize hv : xs (nI j).toNatClampNeg &&& (7 : Int32) = v
    generalize hy : xs (nI (j + 1)).toNatClampNeg = y
    generalize hz : xs (nI (j + 2)).toNatClampNeg = z
    by_cases h0 : v = (0 : Int32)
    · rw [if_pos h0]
      obtain ⟨q, r, e1, e2, h3, h4, h5⟩ := BI_put (x := y) hn hB
      rw [e1, e2]
      exact hZ _ _ _ h5
    rw [if_neg h0]
    by_cases h0 : v = (1 : Int32)
    · rw [if_pos h0]
      obtain ⟨q, r, e1, e2, h3, h5⟩ := BI_end (n := n) (x := y) hB
      rw [e1, e2]
      simp only [Option.bind_some]
      unfold f_MO_thrown
      simp only [Option.bind_some]
      rw [if_pos h3]
      exact hZ _ _ _ h5
    rw [if_neg h0]
    by_cases h0 : v = (2 : Int32)
    · rw [if_pos h0]
      obtain ⟨q, r, e1, e2, h5⟩ := BI_expand hn hB
      rw [e1, e2]
      exact hZ _ _ _ h5
    rw [if_neg h0]
    by_cases h0 : v = (3 : Int32)
    · rw [if_pos h0]
      obtain ⟨q, r, e1, e2, h5⟩ := BI_about (x := y) hn hB
      rw [e1, e2]
      exact hZ _ _ _ h5
    rw [if_neg h0]
    by_cases h0 : v = (4 : Int32)
    · rw [if_pos h0]
      obtain ⟨q, r, e1, e2, h5⟩ := BI_line (x := y) (y := z) hn hB
      rw [e1, e2]
      exact hZ _ _ _ h5
    rw [if_neg h0]
    by_cases h0 : v = (5 : Int32)
    · rw [if_pos h0]
      obtain ⟨q, r, e1, e2, h5⟩ := BI_constant (x := y) (y := z) hn hB
      rw [e1, e2]
      exact hZ _ _ _ h5
    rw [if_neg h0]
    by_cases h0 : v = (6 : Int32)
    · rw [if_pos h0]
      obtain ⟨q, r, e1, e2, h5⟩ := BI_macro (x := y) (y := z) hn hB
      rw [e1, e2]
      exact hZ _ _ _ h5
    rw [if_neg h0]
    exact hZ _ _ _ hB
theorem lw_fin (xs : Nat → Int32) (L : Nat) (hL : L ≤ 1536) (g : Nat → Int64) : ∃ n, f_law n xs L 1000 0 mz_zC mz_zM g = some () := by
  refine ⟨8589934592, ?_⟩
  rw [← nI_0]
  exact lw_run (Nat.le_refl _) hL 1000 0 mz_zC mz_zM g BI_zero (by omega) (by omega)
