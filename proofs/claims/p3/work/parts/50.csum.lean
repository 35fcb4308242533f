/-! PURE: product and sum -/
theorem cv_pr {n b s0 : Nat} {L : Nat → Int32} {C : mz_St → Prop} {fa : Int32 → mz_St → Option (Int32 × mz_St)} {x1 : Int32} {fac : Int32 → Nat → sp_A} (hn : 10000 ≤ n) (hK : cv_K C) (hCL : ∀ t, C t → mz_gI t 2 = L) (hfa : cv_ok s0 b C (fa x1) fac) (hgo : sp_go b fac 1) (hlen : b ≤ s0 + 3000) : cv_ok s0 b C (f_RE_product n fa x1) (sp_pr L b fac) := by
  intro t a ha hR hC hw
  have hb := hR.2.2.2
  have hab := hR.2.2.1
  obtain ⟨r1, t2, a2, e1, R2, l2, F2, w2, s2, m2⟩ := hfa t a ha hR hC hw
  have hC2 := hK _ _ F2 hC
  have hst : mz_gI t2 6 6 = 0 → s0 + 0 + 1 ≤ a2 := by
    intro h0
    rcases hw with hw0 | hw1
    · have m2' := m2 hw0
      cases hz : fac (mz_gI t 6 7) a with
      | none => rw [hz] at m2'; rw [m2'] at h0; exact absurd h0 (by decide)
      | some z =>
        rw [hz] at m2'
        have := hgo _ _ z hab hz
        have e4 : a2 = z.2.2 := m2'.2.2.2
        omega
    · rw [s2 hw1] at h0
      exact absurd h0 (by decide)
  obtain ⟨r4, t4, a4, e4, R4, l4, F4, w4, s4, m4⟩ := cv_prT hn hK hfa hgo hlen n (b + 1) t2 a2 0 r1 R2 hC2 (hCL _ hC2) w2 (by omega) (by omega) hst
  refine ⟨r4, t4, a4, ?_, R4, by omega, F2.tr F4, w4, fun h1 => s4 (s2 h1), fun h0 => ?_⟩
  · unfold f_RE_product
    rw [e1]
    exact e4
  · have m2' := m2 h0
    unfold sp_pr
    cases hz : fac (mz_gI t 6 7) a with
    | none =>
      rw [hz] at m2'
      exact s4 m2'
    | some z =>
      rw [hz] at m2'
      have := m4 m2'.1
      rw [m2'.2.2.1, m2'.2.1, m2'.2.2.2] at this
      exact this
theorem cv_suT {n b s0 : Nat} {L : Nat → Int32} {C : mz_St → Prop} {fa : Int32 → mz_St → Option (Int32 × mz_St)} {x1 : Int32} {pr : Int32 → Nat → sp_A} (hn : 10000 ≤ n) (hK : cv_K C) (hpr : cv_ok s0 b C (f_RE_product n fa x1) pr) (hgo : sp_go b pr 1) (hlen : b ≤ s0 + 3000) :
    ∀ k K t a i (v : Int32), cr_R t a b → C t → mz_gI t 2 = L → (mz_gI t 6 6 = 0 ∨ mz_gI t 6 6 = 1) → b - a < k → b - a < K → (mz_gI t 6 6 = 0 → s0 + i + 1 ≤ a) →
      ∃ r t' a', f_RE_sum_8 n fa k x1 v (nI i) t = some (r, t') ∧ cr_R t' a' b ∧ a ≤ a' ∧ cv_F t t' ∧ (mz_gI t' 6 6 = 0 ∨ mz_gI t' 6 6 = 1) ∧ (mz_gI t 6 6 = 1 → mz_gI t' 6 6 = 1) ∧
        (mz_gI t 6 6 = 0 → match sp_suT L b pr K v (mz_gI t 6 7) a with
          | some z => mz_gI t' 6 6 = 0 ∧ r = z.1 ∧ mz_gI t' 6 7 = z.2.1 ∧ a' = z.2.2
          | none => mz_gI t' 6 6 = 1) := by
  intro k
  induction k with
  | zero => intro K t a i v _ _ _ _ h; omega
  | succ k ih =>
    intro K t a i v hR hC hL hw hk hKK hi
    have hb := hR.2.2.2
    have hab := hR.2.2.1
    have hnb := sp_nb_le L hab
    rcases hw with hw0 | hw1
    · have hi0 := hi hw0
      obtain ⟨K', rfl⟩ : ∃ K', K = K' + 1 := ⟨K - 1, by omega⟩
      have c3 : ¬ (3000 : Int32) ≤ nI i := nI_ge (b := 3000) (by omega) (by decide)
      have hR1 : cr_R (mz_pI t 6 2 (nI (sp_nb L a b))) (sp_nb L a b) b := hR.to hnb.2
      have hL1 : mz_gI (mz_pI t 6 2 (nI (sp_nb L a b))) 2 = L := hL
      have hid := sp_nb_id L hab
      have e1 : nI i + (1 : Int32) = nI (i + 1) := nI_1 i
      have go : ∀ (comb : Int32 → Int32), sp_nb L a b < b →
          ∃ r t' a', ((f_RE_product n fa x1 (mz_pI t 6 2 (nI (sp_nb L a b + 1)))).bind fun q => f_RE_sum_64 n fa (f_RE_sum_8 n fa k) x1 (comb q.1) (nI i) q.2) = some (r, t') ∧ cr_R t' a' b ∧ a ≤ a' ∧ cv_F t t' ∧ (mz_gI t' 6 6 = 0 ∨ mz_gI t' 6 6 = 1) ∧ (mz_gI t 6 6 = 1 → mz_gI t' 6 6 = 1) ∧
            (mz_gI t 6 6 = 0 → match ((pr (mz_gI t 6 7) (sp_nb L a b + 1)).bind fun r => sp_suT L b pr K' (comb r.1) r.2.1 r.2.2) with
              | some z => mz_gI t' 6 6 = 0 ∧ r = z.1 ∧ mz_gI t' 6 7 = z.2.1 ∧ a' = z.2.2
              | none => mz_gI t' 6 6 = 1) := by
        intro comb hlt
        have hR2 : cr_R (mz_pI t 6 2 (nI (sp_nb L a b + 1))) (sp_nb L a b + 1) b := hR.to (by omega)
        have hF2 : cv_F t (mz_pI t 6 2 (nI (sp_nb L a b + 1))) := (cv_F.rf t).put _ (Or.inl rfl)
        obtain ⟨r1, t2, a2, g1, R2, l2, F2, w2, s2, m2⟩ := hpr _ _ (by omega) hR2 (hK _ _ hF2 hC) (Or.inl hw0)
        have hL2 : mz_gI t2 2 = L := by rw [(hF2.tr F2).row (by decide), hL]
        have m2' := m2 hw0
        have hst : mz_gI t2 6 6 = 0 → s0 + (i + 1) + 1 ≤ a2 := by
          intro h0
          cases hz : pr (mz_gI (mz_pI t 6 2 (nI (sp_nb L a b + 1))) 6 7) (sp_nb L a b + 1) with
          | none => rw [hz] at m2'; rw [m2'] at h0; exact absurd h0 (by decide)
          | some z =>
            rw [hz] at m2'
            have := hgo _ _ z (by omega) hz
            have e4 : a2 = z.2.2 := m2'.2.2.2
            omega
        obtain ⟨r4, t4, a4, e4, R4, l4, F4, w4, s4, m4⟩ := ih K' t2 a2 (i + 1) (comb r1) R2 (hK _ _ (hF2.tr F2) hC) hL2 w2 (by omega) (by omega) hst
        refine ⟨r4, t4, a4, ?_, R4, by omega, (hF2.tr F2).tr F4, w4, fun h1 => absurd (hw0.symm.trans h1) (by decide), fun _ => ?_⟩
        · rw [g1]
          show f_RE_sum_64 n fa (f_RE_sum_8 n fa k) x1 (comb r1) (nI i) t2 = _
          unfold f_RE_sum_64
          rw [e1, e4]
        · have hm7 : mz_gI (mz_pI t 6 2 (nI (sp_nb L a b + 1))) 6 7 = mz_gI t 6 7 := rfl
          rw [hm7] at m2'
          cases hz : pr (mz_gI t 6 7) (sp_nb L a b + 1) with
          | none =>
            rw [hz] at m2'
            exact s4 m2'
          | some z =>
            rw [hz] at m2'
            have := m4 m2'.1
            rw [m2'.2.2.1, m2'.2.1, m2'.2.2.2] at this
            exact this
      unfold f_RE_sum_8
      rw [if_neg c3, if_pos hw0]
      simp only [sp_suT]
      by_cases h43 : sp_at L b (sp_nb L a b) = 43
      · have tk := cr_take1 (c := 43) hn hR (by decide) (by rw [hL]; exact h43)
        rw [hL] at tk
        rw [tk]
        simp only [Option.bind_some, show ¬ (1 : Int32) = 0 by decide, if_false, h43, if_true]
        exact go (fun r => v + r) (sp_at_lt h43 (by decide))
      · have tk := cr_take0 (c := 43) hn hR (by decide) (by rw [hL]; exact h43)
        rw [hL] at tk
        rw [tk]
        simp only [Option.bind_some, if_true, h43, if_false]
        by_cases h45 : sp_at L b (sp_nb L a b) = 45
        · have tk2 := cr_take1 (c := 45) hn hR1 (by decide) (by rw [hL1, hid]; exact h45)
          rw [hL1, hid, pI_pI] at tk2
          rw [tk2]
          simp only [Option.bind_some, show ¬ (1 : Int32) = 0 by decide, if_false, h45, if_true]
          exact go (fun r => v - r) (sp_at_lt h45 (by decide))
        · have tk2 := cr_take0 (c := 45) hn hR1 (by decide) (by rw [hL1, hid]; exact h45)
          rw [hL1, hid, pI_pI] at tk2
          rw [tk2]
          simp only [Option.bind_some, if_true, h45, if_false]
          exact ⟨v, mz_pI t 6 2 (nI (sp_nb L a b)), sp_nb L a b, rfl, hR1, hnb.1, (cv_F.rf t).put _ (Or.inl rfl), Or.inl hw0, fun h1 => absurd (hw0.symm.trans h1) (by decide), fun _ => ⟨hw0, rfl, rfl, rfl⟩⟩
    · refine ⟨v, t, a, ?_, hR, Nat.le_refl _, cv_F.rf t, Or.inr hw1, fun _ => hw1, fun h0 => absurd (h0.symm.trans hw1) (by decide)⟩
      unfold f_RE_sum_8
      rw [hw1]
      by_cases c : (3000 : Int32) ≤ nI i
      · rw [if_pos c]
      · rw [if_neg c, if_neg (by decide)]
theorem cv_su {n b s0 : Nat} {L : Nat → Int32} {C : mz_St → Prop} {fa : Int32 → mz_St → Option (Int32 × mz_St)} {x1 : Int32} {fac : Int32 → Nat → sp_A} (hn : 10000 ≤ n) (hK : cv_K C) (hCL : ∀ t, C t → mz_gI t 2 = L) (hfa : cv_ok s0 b C (fa x1) fac) (hgo : sp_go b fac 1) (hlen : b ≤ s0 + 3000) : cv_ok s0 b C (f_RE_sum n fa x1) (sp_su L b fac) := by
  have hpr := cv_pr hn hK hCL hfa hgo hlen
  have hgp := sp_pr_go (L := L) hgo
  intro t a ha hR hC hw
  have hb := hR.2.2.2
  have hab := hR.2.2.1
  obtain ⟨r1, t2, a2, e1, R2, l2, F2, w2, s2, m2⟩ := hpr t a ha hR hC hw
  have hC2 := hK _ _ F2 hC
  have hst : mz_gI t2 6 6 = 0 → s0 + 0 + 1 ≤ a2 := by
    intro h0
    rcases hw with hw0 | hw1
    · have m2' := m2 hw0
      cases hz : sp_pr L b fac (mz_gI t 6 7) a with
      | none => rw [hz] at m2'; rw [m2'] at h0; exact absurd h0 (by decide)
      | some z =>
        rw [hz] at m2'
        have := hgp _ _ z hab hz
        have e4 : a2 = z.2.2 := m2'.2.2.2
        omega
    · rw [s2 hw1] at h0
      exact absurd h0 (by decide)
  obtain ⟨r4, t4, a4, e4, R4, l4, F4, w4, s4, m4⟩ := cv_suT hn hK hpr hgp hlen n (b + 1) t2 a2 0 r1 R2 hC2 (hCL _ hC2) w2 (by omega) (by omega) hst
  refine ⟨r4, t4, a4, ?_, R4, by omega, F2.tr F4, w4, fun h1 => s4 (s2 h1), fun h0 => ?_⟩
  · unfold f_RE_sum
    rw [e1]
    exact e4
  · have m2' := m2 h0
    unfold sp_su
    cases hz : sp_pr L b fac (mz_gI t 6 7) a with
    | none =>
      rw [hz] at m2'
      exact s4 m2'
    | some z =>
      rw [hz] at m2'
      have := m4 m2'.1
      rw [m2'.2.2.1, m2'.2.1, m2'.2.2.2] at this
      exact this
