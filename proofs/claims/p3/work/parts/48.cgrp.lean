/-! PURE: the spec's factor moves on; the class's product, sum, value over a factor -/
theorem sp_num_go {L : Nat → Int32} {e : Nat} {m : Int32} {q : Nat} {r : Int32 × Int32 × Nat} (hq : q < e) (hd : sp_d (L q) = true) (h : sp_num L e m q = some r) : q + 1 ≤ r.2.2 ∧ r.2.2 ≤ e := by
  obtain ⟨k, hk⟩ : ∃ k, e - q = k + 1 := ⟨e - q - 1, by omega⟩
  have e1 : sp_dr L (e - q) q = sp_dr L k (q + 1) := by
    rw [hk]
    show (if sp_d (L q) = true then sp_dr L k (q + 1) else q) = _
    rw [if_pos hd]
  have hle := sp_dr_le L k (q + 1)
  unfold sp_num at h
  rw [e1] at h
  split at h
  · exact nomatch h
  · split at h
    · have e2 := (Option.some.inj h).symm
      rw [e2]
      exact ⟨by show q + 1 ≤ sp_dr L k (q + 1); omega, by show sp_dr L k (q + 1) ≤ e; omega⟩
    · exact nomatch h
theorem sp_wo_go {L : Nat → Int32} {e : Nat} {lv : Nat → Nat → Option Int32} {ask : Bool} {m : Int32} {q : Nat} {r : Int32 × Int32 × Nat} (hq : q ≤ e) (h : sp_wo L e lv ask m q = some r) : q + 1 ≤ r.2.2 ∧ r.2.2 ≤ e := by
  have hb := sp_nb_le L hq
  have hwe := sp_we_le L (e - sp_nb L q e) (sp_nb L q e)
  unfold sp_wo at h
  split at h
  · rename_i hw
    split at h
    · have e1 := (Option.some.inj h).symm
      rw [e1]
      exact ⟨by show q + 1 ≤ sp_we L (e - sp_nb L q e) (sp_nb L q e); omega, by show sp_we L (e - sp_nb L q e) (sp_nb L q e) ≤ e; omega⟩
    · have e1 := (Option.some.inj h).symm
      rw [e1]
      exact ⟨by show q + 1 ≤ sp_we L (e - sp_nb L q e) (sp_nb L q e); omega, by show sp_we L (e - sp_nb L q e) (sp_nb L q e) ≤ e; omega⟩
  · exact nomatch h
theorem sp_faG_go {L : Nat → Int32} {e : Nat} {lv : Nat → Nat → Option Int32} {sub : Option (Int32 → Nat → sp_A)} (hs : ∀ fac, sub = some fac → sp_go e fac 1) : sp_go e (sp_faG L e lv sub) 1 := by
  intro m q r hq h
  have hb := sp_nb_le L hq
  unfold sp_faG at h
  split at h
  · rename_i hc
    have hlt := sp_at_lt hc (by decide)
    cases sub with
    | none => exact nomatch h
    | some fac =>
      obtain ⟨z, h1, h2⟩ := mz_bd h
      have g1 := hs fac rfl m _ z (by omega) h1
      have e1 := (Option.some.inj h2).symm
      rw [e1]
      exact ⟨by show q + 1 ≤ z.2.2; omega, by show z.2.2 ≤ e; omega⟩
  · split at h
    · rename_i hc
      have hlt := sp_at_lt hc (by decide)
      cases sub with
      | none => exact nomatch h
      | some fac =>
        obtain ⟨z, h1, h2⟩ := mz_bd h
        have g1 := sp_va_go (hs fac rfl) m _ z (by omega) h1
        have hb2 := sp_nb_le L g1.2
        split at h2
        · rename_i hc2
          have hlt2 := sp_at_lt hc2 (by decide)
          have e1 := (Option.some.inj h2).symm
          rw [e1]
          exact ⟨by show q + 1 ≤ sp_nb L z.2.2 e + 1; omega, by show sp_nb L z.2.2 e + 1 ≤ e; omega⟩
        · exact nomatch h2
    · split at h
      · rename_i hd
        have hlt : sp_nb L q e < e := by
          by_cases hl : sp_nb L q e < e
          · exact hl
          · rw [sp_at, if_neg hl] at hd
            exact absurd hd (by decide)
        rw [sp_at, if_pos hlt] at hd
        have := sp_num_go hlt hd h
        omega
      · split at h
        · rename_i hc
          have hlt := sp_at_lt hc (by decide)
          have := sp_wo_go (show sp_nb L q e + 1 ≤ e by omega) h
          omega
        · have := sp_wo_go hb.2 h
          omega
theorem sp_fa_go {L : Nat → Int32} {e : Nat} {lv : Nat → Nat → Option Int32} : ∀ d, sp_go e (sp_fa L e lv d) 1 := by
  intro d
  induction d with
  | zero => exact sp_faG_go (fun fac h => nomatch h)
  | succ d ih => exact sp_faG_go (fun fac h => by rw [← Option.some.inj h]; exact ih)
/-- what a reading function g of the class owes to the spec s, on the line that stops at b in the row L -/
def cv_ok (s0 b : Nat) (C : mz_St → Prop) (g : mz_St → Option (Int32 × mz_St)) (s : Int32 → Nat → sp_A) : Prop :=
  ∀ t a, s0 ≤ a → cr_R t a b → C t → (mz_gI t 6 6 = 0 ∨ mz_gI t 6 6 = 1) → ∃ r t' a', g t = some (r, t') ∧ cr_R t' a' b ∧ a ≤ a' ∧ cv_F t t' ∧ (mz_gI t' 6 6 = 0 ∨ mz_gI t' 6 6 = 1) ∧ (mz_gI t 6 6 = 1 → mz_gI t' 6 6 = 1) ∧
    (mz_gI t 6 6 = 0 → match s (mz_gI t 6 7) a with
      | some z => mz_gI t' 6 6 = 0 ∧ r = z.1 ∧ mz_gI t' 6 7 = z.2.1 ∧ a' = z.2.2
      | none => mz_gI t' 6 6 = 1)
/-- what of the state a reading function may rely on: kept while only the reader's fields change -/
def cv_K (C : mz_St → Prop) : Prop := ∀ t t', cv_F t t' → C t → C t'
