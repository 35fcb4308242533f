/-! both sides at their start -/
theorem BI_zero : BI mz_zC mz_zM := by
  have c0 : ∀ c p, mz_gI mz_zC c p = if c = 27 ∧ p = 1 then 16 else if c = 15 ∧ p = 1 then 64 else if c = 5 ∧ p = 8 then -1 else 0 := fun c p => rfl
  have m0 : ∀ c p, mz_gI mz_zM c p = if c = 0 ∧ p = 7 then -1 else 0 := fun c p => rfl
  have mz : ∀ c p, ¬ (c = 0 ∧ p = 7) → (mz_gI mz_zM c p).toInt = 0 := fun c p h => by rw [m0, if_neg h]; rfl
  refine ⟨0, ⟨rfl, by decide, fun c p => ?_⟩, ⟨⟨?_, fun _ _ _ => rfl, fun c p => ?_⟩, rfl, ?_⟩⟩
  · rw [c0]
    by_cases h1 : c = 27 ∧ p = 1
    · obtain ⟨rfl, rfl⟩ := h1
      decide
    · rw [if_neg h1]
      by_cases h2 : c = 15 ∧ p = 1
      · obtain ⟨rfl, rfl⟩ := h2
        decide
      · rw [if_neg h2]
        by_cases h3 : c = 5 ∧ p = 8
        · obtain ⟨rfl, rfl⟩ := h3
          decide
        · rw [if_neg h3, show (0 : Int32).toInt = 0 from rfl]
          have kL : ∀ k, bxL k ≤ 0 ∧ 0 ≤ bxH k := by
            intro k
            by_cases hk : k < 30
            · have key : ∀ k, k < 30 → bxL k ≤ 0 ∧ 0 ≤ bxH k := by decide
              exact key k hk
            · unfold bxL bxH
              repeat rw [if_neg (by omega)]
              decide
          exact kL _
  · have z : ∀ c p, ¬ (c = 0 ∧ p = 7) → 0 ≤ (mz_gI mz_zM c p).toInt ∧ ∀ b : Int, 0 ≤ b → (mz_gI mz_zM c p).toInt ≤ b := fun c p h => by rw [mz c p h]; exact ⟨Int.le_refl _, fun b hb => hb⟩
    unfold FX
    refine ⟨?_, ?_, ?_, ?_, ?_, ?_, ?_, ?_, ?_, fun p => ?_, fun p => ?_, fun p => ?_, fun p => ?_, fun p => ?_, fun p => ?_, fun p => ?_, fun p => ?_, fun p => ?_, fun p => ?_, fun p => ?_, fun p => ?_, fun p => ?_, fun p => ?_, fun p => ?_, fun p => ?_, fun p => ?_, fun p => ?_, fun p => ?_, fun p => ?_, fun p => ?_, fun p => ?_, fun p => ?_, fun p => ?_, fun p => ?_⟩ <;>
      (first | (rw [mz _ _ (by simp), mz _ _ (by simp)]; decide) | (rw [mz _ _ (by simp)]; decide))
  · rw [m0]
    by_cases h1 : c = 0 ∧ p = 7
    · obtain ⟨rfl, rfl⟩ := h1
      decide
    · rw [if_neg h1, show (0 : Int32).toInt = 0 from rfl]
      have kL : ∀ k, bmL k ≤ 0 ∧ 0 ≤ bmH k := by
        intro k
        by_cases hk : k < 30
        · have key : ∀ k, k < 30 → bmL k ≤ 0 ∧ 0 ≤ bmH k := by decide
          exact key k hk
        · unfold bmL bmH
          repeat rw [if_neg (by omega)]
          decide
      exact kL _
  · refine ⟨fun p => ?_, fun p => ?_, fun p hp => ?_, fun p => ?_, fun m hm => ?_⟩
    · rw [mz 23 p (by simp), mz 24 p (by simp), mz 25 p (by simp)]; decide
    · rw [mz 6 p (by simp), mz 7 p (by simp)]; decide
    · rw [mz 31 p (by simp), mz 32 p (by simp)]
      unfold RB
      omega
    · rw [mz 26 p (by simp), mz 27 p (by simp)]; decide
    · have e : mz_gI mz_zM 10 m = 0 := by rw [m0, if_neg (by simp)]
      rw [e]
      show ds _ _ _ 0 ≤ 3000
      unfold ds
      decide
