/-! PURE: about on both sides -/
/-- what about tells is alike -/
def Ab (tC tM : mz_St) : Prop := mz_gI tC 5 7 = mz_gI tM 0 6 ∧ mz_gI tC 5 8 = mz_gI tM 0 7 ∧ mz_gI tC 5 9 = mz_gI tM 0 8 ∧ mz_gI tC 5 10 = mz_gI tM 0 9 ∧ mz_gI tC 27 4 = mz_gI tM 0 12 ∧ mz_gI tC 15 4 = mz_gI tM 0 24 ∧ mz_gI tC 32 5 = mz_gI tM 0 28 ∧ mz_gI tC 32 6 = mz_gI tM 0 29 ∧ mz_gI tC 30 5 = mz_gI tM 0 10
theorem Ab_zero : Ab mz_zC mz_zM := ⟨rfl, rfl, rfl, rfl, rfl, rfl, rfl, rfl, rfl⟩
theorem Ab_same {n : Nat} {x : Int32} {tC tM : mz_St} {a b : Int32} (e1 : f_MH_about n x tC = some (a, tC)) (e2 : f_MO_about n x tM = some (b, mz_pI tM 0 0 0)) (h : a = b) : fr_same (h_about n x tC) (f_MO_about n x tM) = true := by
  unfold h_about
  rw [e1, e2, h]
  simp [fr_same, gI_pI]
theorem Ab_about {n : Nat} {x : Int32} {tC tM : mz_St} (h : Ab tC tM) : fr_same (h_about n x tC) (f_MO_about n x tM) = true := by
  obtain ⟨h0, h1, h2, h3, h4, h5, h6, h7, h8⟩ := h
  by_cases ho : x < 0 ∨ 8 < x
  · have hne : ∀ j, j ≤ 8 → ¬ x = nI j := by
      rintro j hj rfl
      rcases ho with h | h
      · exact nI_pos (by omega) h
      · exact nI_nlt (a := 8) hj (by decide) h
    have e1 : f_MH_about n x tC = none := by
      unfold f_MH_about
      rw [if_neg (show ¬ x = (0 : Int32) from hne 0 (by omega)), if_neg (show ¬ x = (1 : Int32) from hne 1 (by omega)), if_neg (show ¬ x = (2 : Int32) from hne 2 (by omega)), if_neg (show ¬ x = (3 : Int32) from hne 3 (by omega)), if_neg (show ¬ x = (4 : Int32) from hne 4 (by omega)), if_neg (show ¬ x = (5 : Int32) from hne 5 (by omega)), if_neg (show ¬ x = (6 : Int32) from hne 6 (by omega)), if_neg (show ¬ x = (7 : Int32) from hne 7 (by omega)), if_neg (show ¬ x = (8 : Int32) from hne 8 (by omega))]
    have e2 : f_MH_about_T n x tC = some 0 := by
      unfold f_MH_about_T
      rw [if_neg (show ¬ x = (0 : Int32) from hne 0 (by omega)), if_neg (show ¬ x = (1 : Int32) from hne 1 (by omega)), if_neg (show ¬ x = (2 : Int32) from hne 2 (by omega)), if_neg (show ¬ x = (3 : Int32) from hne 3 (by omega)), if_neg (show ¬ x = (4 : Int32) from hne 4 (by omega)), if_neg (show ¬ x = (5 : Int32) from hne 5 (by omega)), if_neg (show ¬ x = (6 : Int32) from hne 6 (by omega)), if_neg (show ¬ x = (7 : Int32) from hne 7 (by omega)), if_neg (show ¬ x = (8 : Int32) from hne 8 (by omega))]
    have e3 : f_MO_about n x tM = some (0, mz_pI tM 0 0 1) := by
      unfold f_MO_about f_MO_about_16
      rw [fr_in0 ho]
      simp only [Option.bind_some, if_true, fr_refuse1]
      rfl
    unfold h_about
    rw [e1, e2, e3]
    rfl
  · obtain ⟨j, hj, rfl⟩ := nI_of2 (x := x) (M := 8) (n := 8) (by decide) (fun q => ho (Or.inl q)) (pz_nlt.mp (fun q => ho (Or.inr q)))
    clear ho
    by_cases j0 : j = 0
    · subst j0
      exact Ab_same rfl rfl h0
    by_cases j1 : j = 1
    · subst j1
      exact Ab_same rfl rfl h1
    by_cases j2 : j = 2
    · subst j2
      exact Ab_same rfl rfl h2
    by_cases j3 : j = 3
    · subst j3
      exact Ab_same rfl rfl h3
    by_cases j4 : j = 4
    · subst j4
      exact Ab_same rfl rfl h4
    by_cases j5 : j = 5
    · subst j5
      exact Ab_same rfl rfl h5
    by_cases j6 : j = 6
    · subst j6
      exact Ab_same rfl rfl h6
    by_cases j7 : j = 7
    · subst j7
      exact Ab_same rfl rfl h7
    by_cases j8 : j = 8
    · subst j8
      exact Ab_same rfl rfl h8
    omega
/-- about leaves all but 'thrown' alone -/
theorem Ab_keep {n : Nat} {x : Int32} {tC tM : mz_St} {q : Int32 × Option Int64 × mz_St} {r : Int32 × mz_St} (h1 : h_about n x tC = some q) (h2 : f_MO_about n x tM = some r) : q.2.2 = tC ∧ ∃ v, r.2 = mz_pI tM 0 0 v := by
  constructor
  · unfold h_about at h1
    cases hf : f_MH_about n x tC with
    | some a =>
      rw [hf] at h1
      obtain rfl := Option.some.inj h1
      unfold f_MH_about at hf
      repeat' split at hf
      all_goals first | (obtain rfl := Option.some.inj hf; rfl) | exact nomatch hf
    | none =>
      rw [hf] at h1
      obtain ⟨j, -, h1⟩ := mz_bd h1
      split at h1
      · obtain rfl := Option.some.inj h1
        rfl
      · exact nomatch h1
  · unfold f_MO_about f_MO_about_16 f_MO_in at h2
    simp only [fx_ref] at h2
    by_cases a : x < 0
    · rw [if_pos a] at h2
      obtain rfl := Option.some.inj h2
      exact ⟨1, rfl⟩
    · rw [if_neg a] at h2
      by_cases b : 8 < x
      · rw [if_pos b] at h2
        obtain rfl := Option.some.inj h2
        exact ⟨1, rfl⟩
      · rw [if_neg b] at h2
        simp only [Option.bind_some, if_true, show ¬ (1 : Int32) = 0 by decide, if_false] at h2
        repeat' split at h2
        all_goals (obtain rfl := Option.some.inj h2; exact ⟨0, rfl⟩)
