/-! PURE: the class's comparisons -/
theorem cr_pair {n a b : Nat} {t : mz_St} {L : Nat → Int32} {c1 c2 : Int32} (hn : 10000 ≤ n) (h : cr_R t a b) (hL : mz_gI t 2 = L) (h1 : c1 ≠ -1) (h2 : c2 ≠ -1) :
    f_RE_takePair n c1 c2 t = some (if sp_at L b (sp_nb L a b) = c1 ∧ sp_at L b (sp_nb L a b + 1) = c2 then ((1 : Int32), mz_pI t 6 2 (nI (sp_nb L a b + 2))) else ((0 : Int32), mz_pI t 6 2 (nI (sp_nb L a b)))) := by
  have hb := h.2.2.2
  have hab := h.2.2.1
  have hnb := sp_nb_le L hab
  unfold f_RE_takePair
  rw [cr_next hn h, hL]
  simp only [Option.bind_some]
  change (if sp_at L b (sp_nb L a b) = c1 then (if mz_gI t 6 3 ≤ nI (sp_nb L a b) + (1 : Int32) then some ((0 : Int32), mz_pI t 6 2 (nI (sp_nb L a b))) else (f_SI_at n (nI (sp_nb L a b) + (1 : Int32)) (mz_pI t 6 2 (nI (sp_nb L a b)))).bind fun q5 => if q5.1 = c2 then mz_let (mz_pI q5.2 6 2 (mz_gI q5.2 6 2 + (2 : Int32))) fun t8 => some ((1 : Int32), t8) else some ((0 : Int32), q5.2)) else some ((0 : Int32), mz_pI t 6 2 (nI (sp_nb L a b)))) = _
  rw [h.2.1, show nI (sp_nb L a b) + (1 : Int32) = nI (sp_nb L a b + 1) from nI_1 _]
  by_cases e1 : sp_at L b (sp_nb L a b) = c1
  · rw [if_pos e1]
    have hlt := sp_at_lt e1 h1
    by_cases hl : b ≤ sp_nb L a b + 1
    · rw [if_pos (nI_le hl (by omega)), if_neg (fun q => h2 (by rw [← q.2, sp_at, if_neg (by omega)]))]
    · rw [if_neg (nI_ge (by omega) (by omega)), ev_at (by omega)]
      simp only [Option.bind_some, mz_let]
      change (if mz_gI t 2 (sp_nb L a b + 1) = c2 then some ((1 : Int32), mz_pI (mz_pI t 6 2 (nI (sp_nb L a b))) 6 2 (nI (sp_nb L a b) + (2 : Int32))) else some ((0 : Int32), mz_pI t 6 2 (nI (sp_nb L a b)))) = _
      rw [hL, pI_pI, show nI (sp_nb L a b) + (2 : Int32) = nI (sp_nb L a b + 2) from nI_add _ 2]
      have e2 : sp_at L b (sp_nb L a b + 1) = L (sp_nb L a b + 1) := if_pos (by omega)
      rw [e2]
      by_cases e3 : L (sp_nb L a b + 1) = c2
      · rw [if_pos e3, if_pos ⟨e1, e3⟩]
      · rw [if_neg e3, if_neg (fun q => e3 q.2)]
  · rw [if_neg e1, if_neg (fun q => e1 q.1)]
theorem cv_va {n b s0 : Nat} {L : Nat → Int32} {C : mz_St → Prop} {fa : Int32 → mz_St → Option (Int32 × mz_St)} {x1 : Int32} {fac : Int32 → Nat → sp_A} (hn : 10000 ≤ n) (hK : cv_K C) (hCL : ∀ t, C t → mz_gI t 2 = L) (hfa : cv_ok s0 b C (fa x1) fac) (hgo : sp_go b fac 1) (hlen : b ≤ s0 + 3000) : cv_ok s0 b C (f_RE_readValue n fa x1) (sp_va L b fac) := by
  have hsu := cv_su hn hK hCL hfa hgo hlen
  have hgs := sp_su_go (L := L) hgo
  intro t a ha hR hC hw
  obtain ⟨r1, t2, a2, e1, R2, l2, F2, w2, s2, m2⟩ := hsu t a ha hR hC hw
  have hC2 := hK _ _ F2 hC
  have hL2 := hCL _ hC2
  have hb := R2.2.2.2
  have hab := R2.2.2.1
  have hnb := sp_nb_le L hab
  have hid := sp_nb_id L hab
  have hR3 : cr_R (mz_pI t2 6 2 (nI (sp_nb L a2 b))) (sp_nb L a2 b) b := R2.to hnb.2
  have hL3 : mz_gI (mz_pI t2 6 2 (nI (sp_nb L a2 b))) 2 = L := hL2
  have hF3 : ∀ x, cv_F t (mz_pI t2 6 2 x) := fun x => F2.put x (Or.inl rfl)
  unfold f_RE_readValue
  rw [e1]
  simp only [Option.bind_some]
  -- a second sum behind the sign
  have sec : ∀ (dl : Nat) (out : Int32 → Int32), sp_nb L a2 b + dl ≤ b → (sp_cm L b (sp_nb L a2 b) ≠ 0) → ((if sp_cm L b (sp_nb L a2 b) = 3 then 1 else 2) = dl) → (∀ z, out z = sp_bi (sp_is (sp_cm L b (sp_nb L a2 b)) r1 z)) →
      ∃ r t' a', ((f_RE_sum n fa x1 (mz_pI t2 6 2 (nI (sp_nb L a2 b + dl)))).bind fun q => some (out q.1, q.2)) = some (r, t') ∧ cr_R t' a' b ∧ a ≤ a' ∧ cv_F t t' ∧ (mz_gI t' 6 6 = 0 ∨ mz_gI t' 6 6 = 1) ∧ (mz_gI t 6 6 = 1 → mz_gI t' 6 6 = 1) ∧
        (mz_gI t 6 6 = 0 → match sp_va L b fac (mz_gI t 6 7) a with
          | some z => mz_gI t' 6 6 = 0 ∧ r = z.1 ∧ mz_gI t' 6 7 = z.2.1 ∧ a' = z.2.2
          | none => mz_gI t' 6 6 = 1) := by
    intro dl out hdl hcm hdd hout
    have R4 : cr_R (mz_pI t2 6 2 (nI (sp_nb L a2 b + dl))) (sp_nb L a2 b + dl) b := R2.to hdl
    obtain ⟨r5, t5, a5, e5, R5, l5, F5, w5, s5, m5⟩ := hsu _ _ (by omega) R4 (hK _ _ (hF3 _) hC) w2
    refine ⟨out r5, t5, a5, by rw [e5]; rfl, R5, by omega, (hF3 _).tr F5, w5, fun h1 => s5 (s2 h1), fun h0 => ?_⟩
    have m2' := m2 h0
    unfold sp_va
    cases hz : sp_su L b fac (mz_gI t 6 7) a with
    | none =>
      rw [hz] at m2'
      exact s5 m2'
    | some z =>
      rw [hz] at m2'
      have g0 : mz_gI (mz_pI t2 6 2 (nI (sp_nb L a2 b + dl))) 6 6 = 0 := m2'.1
      have m5' := m5 g0
      have hm7 : mz_gI (mz_pI t2 6 2 (nI (sp_nb L a2 b + dl))) 6 7 = z.2.1 := m2'.2.2.1
      have ha2 : a2 = z.2.2 := m2'.2.2.2
      rw [hm7] at m5'
      simp only [Option.bind_some]
      rw [← ha2, if_neg hcm, hdd]
      cases hy : sp_su L b fac z.2.1 (sp_nb L a2 b + dl) with
      | none =>
        rw [hy] at m5'
        exact m5'
      | some y =>
        rw [hy] at m5'
        refine ⟨m5'.1, ?_, m5'.2.2.1, m5'.2.2.2⟩
        rw [hout, m5'.2.1, m2'.2.1]
  have p1 := cr_pair (c1 := 61) (c2 := 61) hn R2 hL2 (by decide) (by decide)
  have p2 := cr_pair (c1 := 33) (c2 := 61) hn hR3 hL3 (by decide) (by decide)
  have p3 := cr_pair (c1 := 60) (c2 := 61) hn hR3 hL3 (by decide) (by decide)
  rw [hid, pI_pI, pI_pI] at p2 p3
  have hcm : sp_cm L b (sp_nb L a2 b) = sp_cm L b (sp_nb L a2 b) := rfl
  conv at hcm => rhs; unfold sp_cm
  have h1n : ∀ m : Nat, m ≠ 0 → sp_cm L b (sp_nb L a2 b) = m → sp_nb L a2 b + (if m = 3 then 1 else 2) ≤ b := by
    intro m hm e
    have := sp_cm_lt (L := L) (e := b) (q := sp_nb L a2 b) (by rw [e]; exact hm)
    rw [e] at this
    exact this
  rw [p1]
  simp only [Option.bind_some]
  by_cases k1 : sp_at L b (sp_nb L a2 b) = 61 ∧ sp_at L b (sp_nb L a2 b + 1) = 61
  · rw [if_pos k1] at hcm
    simp only [k1, and_self, if_true, show ¬ (1 : Int32) = 0 by decide, if_false]
    have es : (fun q : Int32 × mz_St => if r1 = q.1 then some ((1 : Int32), q.2) else some ((0 : Int32), q.2)) = fun q => some ((if r1 = q.1 then (1 : Int32) else 0), q.2) := by
      funext q
      by_cases hq : r1 = q.1
      · rw [if_pos hq, if_pos hq]
      · rw [if_neg hq, if_neg hq]
    rw [es]
    refine sec 2 (fun z => if r1 = z then (1 : Int32) else 0) (h1n 1 (by decide) hcm) (by rw [hcm]; decide) (by rw [hcm]; decide) (fun z => ?_)
    rw [hcm]
    show _ = sp_bi (decide (r1 = z))
    by_cases hq : r1 = z
    · simp [hq, sp_bi]
    · simp [hq, sp_bi]
  · rw [if_neg k1] at hcm
    simp only [k1, if_false, if_true]
    rw [p2]
    simp only [Option.bind_some]
    by_cases k2 : sp_at L b (sp_nb L a2 b) = 33 ∧ sp_at L b (sp_nb L a2 b + 1) = 61
    · rw [if_pos k2] at hcm
      simp only [k2, and_self, if_true, show ¬ (1 : Int32) = 0 by decide, if_false]
      have es : (fun q : Int32 × mz_St => if r1 = q.1 then some ((0 : Int32), q.2) else some ((1 : Int32), q.2)) = fun q => some ((if r1 = q.1 then (0 : Int32) else 1), q.2) := by
        funext q
        by_cases hq : r1 = q.1
        · rw [if_pos hq, if_pos hq]
        · rw [if_neg hq, if_neg hq]
      rw [es]
      refine sec 2 (fun z => if r1 = z then (0 : Int32) else 1) (h1n 2 (by decide) hcm) (by rw [hcm]; decide) (by rw [hcm]; decide) (fun z => ?_)
      rw [hcm]
      show _ = sp_bi (decide (r1 ≠ z))
      by_cases hq : r1 = z
      · simp [hq, sp_bi]
      · simp [hq, sp_bi]
    · rw [if_neg k2] at hcm
      simp only [k2, if_false, if_true]
      rw [p3]
      simp only [Option.bind_some]
      by_cases k3 : sp_at L b (sp_nb L a2 b) = 60 ∧ sp_at L b (sp_nb L a2 b + 1) = 61
      · rw [if_pos k3.1, if_pos k3.2] at hcm
        simp only [k3, and_self, if_true, show ¬ (1 : Int32) = 0 by decide, if_false]
        have es : (fun q : Int32 × mz_St => if q.1 < r1 then some ((0 : Int32), q.2) else some ((1 : Int32), q.2)) = fun q => some ((if q.1 < r1 then (0 : Int32) else 1), q.2) := by
          funext q
          by_cases hq : q.1 < r1
          · rw [if_pos hq, if_pos hq]
          · rw [if_neg hq, if_neg hq]
        rw [es]
        refine sec 2 (fun z => if z < r1 then (0 : Int32) else 1) (h1n 4 (by decide) hcm) (by rw [hcm]; decide) (by rw [hcm]; decide) (fun z => ?_)
        rw [hcm]
        show _ = sp_bi (decide (r1 ≤ z))
        by_cases hq : z < r1
        · have : ¬ r1 ≤ z := fun h => absurd hq (pz_nlt.mpr h)
          simp [hq, this, sp_bi]
        · have : r1 ≤ z := pz_nlt.mp hq
          simp [hq, this, sp_bi]
      · simp only [k3, if_false, if_true]
        by_cases k4 : sp_at L b (sp_nb L a2 b) = 60
        · have k5 : ¬ sp_at L b (sp_nb L a2 b + 1) = 61 := fun h => k3 ⟨k4, h⟩
          rw [if_pos k4, if_neg k5] at hcm
          have tk := cr_take1 (c := 60) hn hR3 (by decide) (by rw [hL3, hid]; exact k4)
          rw [hL3, hid, pI_pI] at tk
          rw [tk]
          simp only [Option.bind_some, show ¬ (1 : Int32) = 0 by decide, if_false]
          have es : (fun q : Int32 × mz_St => if q.1 ≤ r1 then some ((0 : Int32), q.2) else some ((1 : Int32), q.2)) = fun q => some ((if q.1 ≤ r1 then (0 : Int32) else 1), q.2) := by
            funext q
            by_cases hq : q.1 ≤ r1
            · rw [if_pos hq, if_pos hq]
            · rw [if_neg hq, if_neg hq]
          rw [es]
          refine sec 1 (fun z => if z ≤ r1 then (0 : Int32) else 1) (h1n 3 (by decide) hcm) (by rw [hcm]; decide) (by rw [hcm]; decide) (fun z => ?_)
          rw [hcm]
          show _ = sp_bi (decide (r1 < z))
          by_cases hq : z ≤ r1
          · have : ¬ r1 < z := fun h => absurd hq (pz_nle.mpr h)
            simp [hq, this, sp_bi]
          · have : r1 < z := pz_nle.mp hq
            simp [hq, this, sp_bi]
        · rw [if_neg k4] at hcm
          have tk := cr_take0 (c := 60) hn hR3 (by decide) (by rw [hL3, hid]; exact k4)
          rw [hL3, hid, pI_pI] at tk
          rw [tk]
          simp only [Option.bind_some, if_true]
          refine ⟨r1, _, sp_nb L a2 b, rfl, hR3, by omega, hF3 _, w2, s2, fun h0 => ?_⟩
          have m2' := m2 h0
          unfold sp_va
          cases hz : sp_su L b fac (mz_gI t 6 7) a with
          | none =>
            rw [hz] at m2'
            exact m2'
          | some z =>
            rw [hz] at m2'
            have ha2 : a2 = z.2.2 := m2'.2.2.2
            simp only [Option.bind_some]
            rw [← ha2, if_pos hcm]
            exact ⟨m2'.1, m2'.2.1, m2'.2.2.1, rfl⟩
