/-! PURE: line on both sides -/
/-- what line tells is alike: c lines -/
def Ou (tC tM : mz_St) (c : Nat) : Prop := mz_gI tC 32 5 = nI c ∧ mz_gI tM 0 28 = nI c ∧ c ≤ 1000 ∧ ∀ i, i < c → ∃ s e, s ≤ e ∧ e ≤ 12000 ∧ mz_gI tC 34 i = nI s ∧ mz_gI tC 35 i = nI e ∧ mz_gI tM 18 i = nI s ∧ mz_gI tM 18 (i + 1) = nI e ∧ mz_gI tC 36 i = mz_gI tM 19 i ∧ mz_gI tC 37 i = mz_gI tM 20 i ∧ ∀ j, s ≤ j → j < e → mz_gI tC 33 j = mz_gI tM 21 j
theorem Ou_zero : Ou mz_zC mz_zM 0 := ⟨rfl, rfl, by omega, fun i h => absurd h (Nat.not_lt_zero i)⟩
theorem fr_refuse2 {n : Nat} {t : mz_St} : f_MO_refuse n 0 1 t = some (1, mz_pI t 0 0 2) := by
  rw [fx_ref]
  rfl
theorem fr_refuse0 {n : Nat} {t : mz_St} : f_MO_refuse n 0 0 t = some (0, mz_pI t 0 0 0) := by
  rw [fx_ref]
  rfl
theorem fr_in1 {n : Nat} {x a : Int32} {b : Int32} {t : mz_St} (h1 : ¬ x < a) (h2 : ¬ b < x) : f_MO_in n x a b t = some (1, t) := by
  unfold f_MO_in
  rw [if_neg h1, if_neg h2]
theorem Ou_out {x : Int32} {c : Nat} (hc : c ≤ 1000) (h : x < 0 ∨ ¬ x < nI c) : x < 0 ∨ nI c - 1 < x := by
  by_cases h0 : x < 0
  · exact Or.inl h0
  · refine Or.inr ?_
    obtain ⟨j, hj, rfl⟩ := nI_of h0
    have hcj : c ≤ j := by
      have := h.resolve_left h0
      rcases Nat.lt_or_ge j c with q | q
      · exact absurd (nI_lt q (by omega)) this
      · exact q
    cases c with
    | zero => exact Int32.lt_of_lt_of_le (show nI 0 - 1 < 0 by decide) (pz_nlt.mp h0)
    | succ c =>
      rw [nI_pred]
      exact nI_lt (by omega) (by omega)
theorem Ou_line {n c : Nat} {x y : Int32} {tC tM : mz_St} (h : Ou tC tM c) : fr_same (h_line n x y tC) (f_MO_line n x y tM) = true := by
  obtain ⟨hC, hM, hc, hr⟩ := h
  by_cases ho : x < 0 ∨ ¬ x < nI c
  · have e1 : f_MH_line n x y tC = none := by
      unfold f_MH_line f_MH_line_18
      rw [hC]
      by_cases h0 : x < 0
      · rw [if_pos h0]
      · rw [if_neg h0, if_neg (ho.resolve_left h0)]
    have e2 : f_MH_line_T n x y tC = some 2 := by
      unfold f_MH_line_T f_MH_line_T_18
      rw [hC]
      by_cases h0 : x < 0
      · rw [if_pos h0]
      · rw [if_neg h0, if_neg (ho.resolve_left h0)]
    have e3 : f_MO_line n x y tM = some (0, mz_pI tM 0 0 1) := by
      unfold f_MO_line f_MO_line_22 f_MO_line_34 f_MO_line_35
      rw [hM, fr_in0 (Ou_out hc ho)]
      simp only [Option.bind_some, if_true, fr_refuse1]
      rfl
    unfold h_line
    rw [e1, e2, e3]
    rfl
  · have h0 : ¬ x < 0 := fun q => ho (Or.inl q)
    have h1 : x < nI c := Classical.byContradiction fun q => ho (Or.inr q)
    obtain ⟨i, hi31, rfl⟩ := nI_of h0
    have hi : i < c := (pz_lt hi31 (by omega)).mp h1
    have hin : f_MO_in n (nI i) 0 (mz_gI tM 0 28 - 1) tM = some (1, tM) := by
      refine fr_in1 h0 ?_
      obtain ⟨c, rfl⟩ : ∃ d, c = d + 1 := ⟨c - 1, by omega⟩
      rw [hM, nI_pred]
      exact nI_nlt (by omega) (by omega)
    by_cases hy : 0 ≤ y
    · obtain ⟨s, e, hse, he, a1, a2, a3, a4, a5, a6, a7⟩ := hr i hi
      have g1 : ¬ (nI i < 0 ∨ 1000 ≤ (nI i).toNatClampNeg) := pz_in (by omega) (by decide)
      have g2 : ¬ (nI i < 0 ∨ 1001 ≤ (nI i).toNatClampNeg) := pz_in (by omega) (by decide)
      have g3 : ¬ (nI (i + 1) < 0 ∨ 1001 ≤ (nI (i + 1)).toNatClampNeg) := pz_in (by omega) (by decide)
      have c1 : (nI i).toNatClampNeg = i := nI_clamp (by omega)
      have c2 : (nI (i + 1)).toNatClampNeg = i + 1 := nI_clamp (by omega)
      rw [c1] at g1 g2
      rw [c2] at g3
      obtain ⟨b, eC, eM⟩ : ∃ b, f_OU_tell n (nI i) y tC = some (b, tC) ∧ f_MO_line_34 n (nI i) y 0 tM = some (b, mz_pI tM 0 0 0) := by
        unfold f_OU_tell f_MO_line_34 f_MO_line_35
        rw [fr_refuse0]
        simp only [Option.bind_some, if_true, nI_1, if_pos g1, if_pos g2, if_pos g3, c1, c2]
        rw [if_neg h0, if_pos (show nI i < (1000 : Int32) from nI_lt (b := 1000) (by omega) (by decide))]
        have k : ∀ r j, r ≠ 0 → mz_gI (mz_pI tM 0 0 0) r j = mz_gI tM r j := fun r j q => by rw [gI_pI, if_neg (fun z => q z.1)]
        rw [k 18 _ (by decide), k 18 _ (by decide), k 19 _ (by decide), k 20 _ (by decide), a1, a2, a3, a4, a5, a6]
        by_cases y0 : y = 0
        · exact ⟨_, by rw [if_pos y0], by rw [if_pos y0]⟩
        by_cases y1 : y = 1
        · exact ⟨_, by rw [if_neg y0, if_pos y1], by rw [if_neg y0, if_pos y1]⟩
        by_cases y2 : y = 2
        · exact ⟨_, by rw [if_neg y0, if_neg y1, if_pos y2], by rw [if_neg y0, if_neg y1, if_pos y2]⟩
        rw [if_neg y0, if_neg y1, if_neg y2, if_neg y0, if_neg y1, if_neg y2]
        obtain ⟨w, hw, rfl⟩ := nI_of (pz_nlt.mpr hy)
        have w3 : 3 ≤ w := by
          rcases Nat.lt_or_ge w 3 with q | q
          · exfalso
            have : w = 0 ∨ w = 1 ∨ w = 2 := by omega
            rcases this with rfl | rfl | rfl
            · exact y0 rfl
            · exact y1 rfl
            · exact y2 rfl
          · exact q
        have ew : nI w - (3 : Int32) = nI (w - 3) := pz_sub (a := w) (b := 3) w3
        unfold f_OU_sign
        rw [ew, pz_sub hse]
        by_cases hb : e - s ≤ w - 3
        · refine ⟨-1, ?_, ?_⟩
          · rw [if_neg (nI_pos (by omega)), if_pos (nI_le hb (by omega))]
            rfl
          · rw [if_pos (nI_le hb (by omega))]
        · have hb' : ¬ nI (e - s) ≤ nI (w - 3) := nI_ge (by omega) (by omega)
          refine ⟨mz_gI tC 33 (s + (w - 3)), ?_, ?_⟩
          · rw [if_neg (nI_pos (by omega)), if_neg hb', if_neg (nI_pos (by omega)), nI_add, if_pos (show nI (s + (w - 3)) < (12000 : Int32) from nI_lt (b := 12000) (by omega) (by decide)), if_pos (pz_in (by omega) (by decide)), nI_clamp (by omega)]
            rfl
          · rw [if_neg hb', nI_add, show nI (s + w) - (3 : Int32) = nI (s + (w - 3)) from (pz_sub (a := s + w) (b := 3) (by omega)).trans (by rw [show s + w - 3 = s + (w - 3) by omega]), if_pos (pz_in (by omega) (by decide)), nI_clamp (by omega), k 21 _ (by decide), a7 _ (by omega) (by omega)]
      have e1 : f_MH_line n (nI i) y tC = some (b, tC) := by
        unfold f_MH_line
        rw [if_neg h0, hC, if_pos h1, if_pos hy, eC]
        rfl
      have e3 : f_MO_line n (nI i) y tM = some (b, mz_pI tM 0 0 0) := by
        unfold f_MO_line f_MO_line_22
        rw [hin]
        simp only [Option.bind_some, show ¬ (1 : Int32) = 0 by decide, if_false, if_pos hy]
        exact eM
      unfold h_line
      rw [e1, e3]
      simp [fr_same, gI_pI]
    · have e1 : f_MH_line n (nI i) y tC = none := by
        unfold f_MH_line
        rw [if_neg h0, hC, if_pos h1, if_neg hy]
      have e2 : f_MH_line_T n (nI i) y tC = some 0 := by
        unfold f_MH_line_T
        rw [if_neg h0, hC, if_pos h1, if_neg hy]
      have e3 : f_MO_line n (nI i) y tM = some (0, mz_pI tM 0 0 2) := by
        unfold f_MO_line f_MO_line_22 f_MO_line_35
        rw [hin]
        simp only [Option.bind_some, show ¬ (1 : Int32) = 0 by decide, if_false, if_neg hy, fr_refuse2]
      unfold h_line
      rw [e1, e2, e3]
      rfl
