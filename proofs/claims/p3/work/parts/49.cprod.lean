/-! PURE: the class's product over a factor -/
theorem sp_bl_id (f : Nat → Int32) : ∀ m a, sp_bl f (a + m - sp_bl f m a) (sp_bl f m a) = sp_bl f m a := by
  intro m a
  have hle := sp_bl_le f m a
  by_cases h : sp_bl f m a < a + m
  · have hn := sp_nb_not f m a h
    obtain ⟨k, hk⟩ : ∃ k, a + m - sp_bl f m a = k + 1 := ⟨a + m - sp_bl f m a - 1, by omega⟩
    rw [hk]
    show (if f (sp_bl f m a) = 32 then sp_bl f k (sp_bl f m a + 1) else sp_bl f m a) = _
    rw [if_neg hn]
  · rw [show a + m - sp_bl f m a = 0 by omega]
    rfl
theorem sp_nb_id (f : Nat → Int32) {a b : Nat} (h : a ≤ b) : sp_nb f (sp_nb f a b) b = sp_nb f a b := by
  have := sp_bl_id f (b - a) a
  rw [show a + (b - a) = b by omega] at this
  exact this
/-- three takes at one place, none of them -/
theorem cr_take0 {n a b : Nat} {t : mz_St} {c : Int32} (hn : 10000 ≤ n) (h : cr_R t a b) (hc : c ≠ -1) (hno : sp_at (mz_gI t 2) b (sp_nb (mz_gI t 2) a b) ≠ c) : f_RE_take n c t = some ((0 : Int32), mz_pI t 6 2 (nI (sp_nb (mz_gI t 2) a b))) := by
  rw [cr_take hn h hc, if_neg hno]
theorem cr_take1 {n a b : Nat} {t : mz_St} {c : Int32} (hn : 10000 ≤ n) (h : cr_R t a b) (hc : c ≠ -1) (hy : sp_at (mz_gI t 2) b (sp_nb (mz_gI t 2) a b) = c) : f_RE_take n c t = some ((1 : Int32), mz_pI t 6 2 (nI (sp_nb (mz_gI t 2) a b + 1))) := by
  rw [cr_take hn h hc, if_pos hy]
/-- a divisor's own fault -/
theorem cv_div {n a b : Nat} {t : mz_St} (r : Int32) (hR : cr_R t a b) : ∃ t3, f_RE_divisor n r t = some (r, t3) ∧ cr_R t3 a b ∧ cv_F t t3 ∧ mz_gI t3 6 6 = mz_gI t 6 6 ∧ mz_gI t3 6 7 = if r = 0 then sp_meet (mz_gI t 6 7) 4 else mz_gI t 6 7 := by
  unfold f_RE_divisor f_RE_meet sp_meet mz_let
  by_cases hr : r = 0
  · by_cases hm : mz_gI t 6 7 = 0
    · refine ⟨mz_pI t 6 7 4, ?_, ⟨hR.1, hR.2.1, hR.2.2.1, hR.2.2.2⟩, (cv_F.rf t).put _ (by omega), rfl, ?_⟩
      · rw [if_pos hr, if_pos hm]
        rfl
      · rw [if_pos hr, if_pos hm]
        rfl
    · refine ⟨t, ?_, hR, cv_F.rf t, rfl, ?_⟩
      · rw [if_pos hr, if_neg hm]
        rfl
      · rw [if_pos hr, if_neg hm]
  · refine ⟨t, ?_, hR, cv_F.rf t, rfl, ?_⟩
    · rw [if_neg hr]
    · rw [if_neg hr]
theorem cv_prT {n b a0 : Nat} {L : Nat → Int32} {C : mz_St → Prop} {fa : Int32 → mz_St → Option (Int32 × mz_St)} {x1 : Int32} {fac : Int32 → Nat → sp_A} (hn : 10000 ≤ n) (hK : cv_K C) (hfa : cv_ok a0 b C (fa x1) fac) (hgo : sp_go b fac 1) (hlen : b ≤ a0 + 3000) :
    ∀ k K t a i (v : Int32), cr_R t a b → C t → mz_gI t 2 = L → (mz_gI t 6 6 = 0 ∨ mz_gI t 6 6 = 1) → b - a < k → b - a < K → (mz_gI t 6 6 = 0 → a0 + i + 1 ≤ a) →
      ∃ r t' a', f_RE_product_8 n fa k x1 v (nI i) t = some (r, t') ∧ cr_R t' a' b ∧ a ≤ a' ∧ cv_F t t' ∧ (mz_gI t' 6 6 = 0 ∨ mz_gI t' 6 6 = 1) ∧ (mz_gI t 6 6 = 1 → mz_gI t' 6 6 = 1) ∧
        (mz_gI t 6 6 = 0 → match sp_prT L b fac K v (mz_gI t 6 7) a with
          | some z => mz_gI t' 6 6 = 0 ∧ r = z.1 ∧ mz_gI t' 6 7 = z.2.1 ∧ a' = z.2.2
          | none => mz_gI t' 6 6 = 1) := by
  intro k
  induction k with
  | zero => intro K t a i v _ _ _ _ h; omega
  | succ k ih =>
    intro K t a i v hR hC hL hw hk hKK hi
    have hb := hR.2.2.2
    have hab := hR.2.2.1
    have hnb := sp_nb_le L hab
    rcases hw with hw0 | hw1
    · -- all is well so far
      have hi0 := hi hw0
      obtain ⟨K', rfl⟩ : ∃ K', K = K' + 1 := ⟨K - 1, by omega⟩
      have c3 : ¬ (3000 : Int32) ≤ nI i := nI_ge (b := 3000) (by omega) (by decide)
      have hR1 : cr_R (mz_pI t 6 2 (nI (sp_nb L a b))) (sp_nb L a b) b := hR.to hnb.2
      have hL1 : mz_gI (mz_pI t 6 2 (nI (sp_nb L a b))) 2 = L := hL
      have hid := sp_nb_id L hab
      -- a factor behind the sign at the place, then on
      have go : ∀ (nxt : Int32 → mz_St → Option (Int32 × mz_St)) (comb : Int32 → Int32) (mm : Int32 → Int32 → Int32), sp_nb L a b < b →
          (∀ (r : Int32) (t2 : mz_St) (a2 : Nat), cr_R t2 a2 b → mz_gI t2 2 = L → ∃ t3, nxt r t2 = f_RE_product_8 n fa k x1 (comb r) (nI (i + 1)) t3 ∧ cr_R t3 a2 b ∧ cv_F t2 t3 ∧ mz_gI t3 6 6 = mz_gI t2 6 6 ∧ mz_gI t3 6 7 = mm r (mz_gI t2 6 7)) →
          ∃ r t' a', ((fa x1 (mz_pI t 6 2 (nI (sp_nb L a b + 1)))).bind fun q => nxt q.1 q.2) = some (r, t') ∧ cr_R t' a' b ∧ a ≤ a' ∧ cv_F t t' ∧ (mz_gI t' 6 6 = 0 ∨ mz_gI t' 6 6 = 1) ∧ (mz_gI t 6 6 = 1 → mz_gI t' 6 6 = 1) ∧
            (mz_gI t 6 6 = 0 → match ((fac (mz_gI t 6 7) (sp_nb L a b + 1)).bind fun r => sp_prT L b fac K' (comb r.1) (mm r.1 r.2.1) r.2.2) with
              | some z => mz_gI t' 6 6 = 0 ∧ r = z.1 ∧ mz_gI t' 6 7 = z.2.1 ∧ a' = z.2.2
              | none => mz_gI t' 6 6 = 1) := by
        intro nxt comb mm hlt hnx
        have hR2 : cr_R (mz_pI t 6 2 (nI (sp_nb L a b + 1))) (sp_nb L a b + 1) b := hR.to (by omega)
        have hF2 : cv_F t (mz_pI t 6 2 (nI (sp_nb L a b + 1))) := (cv_F.rf t).put _ (Or.inl rfl)
        obtain ⟨r1, t2, a2, e1, R2, l2, F2, w2, s2, m2⟩   := hfa _ _ (by omega) hR2 (hK _ _ hF2 hC) (Or.inl hw0)
        have hL2 : mz_gI t2 2 = L := by rw [(hF2.tr F2).row (by decide), hL]
        obtain ⟨t3, e3, R3, F3, w3, k3⟩ := hnx r1 t2 a2 R2 hL2
        have m2' := m2 hw0
        have hC3 : C t3 := hK _ _ ((hF2.tr F2).tr F3) hC
        have hL3 : mz_gI t3 2 = L := by rw [F3.row (by decide), hL2]
        have w3' : mz_gI t3 6 6 = 0 ∨ mz_gI t3 6 6 = 1 := by rw [w3]; exact w2
        have hst : mz_gI t3 6 6 = 0 → a0 + (i + 1) + 1 ≤ a2 := by
          intro h0
          rw [w3] at h0
          cases hz : fac (mz_gI (mz_pI t 6 2 (nI (sp_nb L a b + 1))) 6 7) (sp_nb L a b + 1) with
          | none => rw [hz] at m2'; rw [m2'] at h0; exact absurd h0 (by decide)
          | some z =>
            rw [hz] at m2'
            have := hgo _ _ z (by omega) hz
            have e4 : a2 = z.2.2 := m2'.2.2.2
            omega
        obtain ⟨r4, t4, a4, e4, R4, l4, F4, w4, s4, m4⟩ := ih K' t3 a2 (i + 1) (comb r1) R3 hC3 hL3 w3' (by omega) (by omega) hst
        refine ⟨r4, t4, a4, ?_, R4, by omega, ((hF2.tr F2).tr F3).tr F4, w4, fun h1 => absurd (hw0.symm.trans h1) (by decide), fun _ => ?_⟩
        · rw [e1]
          show nxt r1 t2 = _
          rw [e3, e4]
        · have hm7 : mz_gI (mz_pI t 6 2 (nI (sp_nb L a b + 1))) 6 7 = mz_gI t 6 7 := rfl
          rw [hm7] at m2'
          cases hz : fac (mz_gI t 6 7) (sp_nb L a b + 1) with
          | none =>
            rw [hz] at m2'
            exact s4 (by rw [w3]; exact m2')
          | some z =>
            rw [hz] at m2'
            have h0 : mz_gI t3 6 6 = 0 := by rw [w3]; exact m2'.1
            have := m4 h0
            rw [k3, m2'.2.2.1, m2'.2.1, m2'.2.2.2] at this
            exact this
      unfold f_RE_product_8
      rw [if_neg c3, if_pos hw0]
      simp only [sp_prT]
      have e1 : nI i + (1 : Int32) = nI (i + 1) := nI_1 i
      by_cases h42 : sp_at L b (sp_nb L a b) = 42
      · have tk := cr_take1 (c := 42) hn hR (by decide) (by rw [hL]; exact h42)
        rw [hL] at tk
        rw [tk]
        simp only [Option.bind_some, show ¬ (1 : Int32) = 0 by decide, if_false, h42, if_true]
        exact go (fun r t2 => f_RE_product_118 n fa (f_RE_product_8 n fa k) x1 (v * r) (nI i) t2) (fun r => v * r) (fun _ m => m) (sp_at_lt h42 (by decide)) (fun r t2 a2 R2 _ => ⟨t2, by unfold f_RE_product_118; rw [e1], R2, cv_F.rf t2, rfl, rfl⟩)
      · have tk := cr_take0 (c := 42) hn hR (by decide) (by rw [hL]; exact h42)
        rw [hL] at tk
        rw [tk]
        simp only [Option.bind_some, if_true, h42, if_false]
        by_cases h47 : sp_at L b (sp_nb L a b) = 47
        · have tk2 := cr_take1 (c := 47) hn hR1 (by decide) (by rw [hL1, hid]; exact h47)
          rw [hL1, hid, pI_pI] at tk2
          rw [tk2]
          simp only [Option.bind_some, show ¬ (1 : Int32) = 0 by decide, if_false, h47, if_true]
          have key := go (fun r t2 => (f_RE_divisor n r t2).bind fun q22 => if q22.1 = 0 then (f_RE_product_75 n fa (f_RE_product_8 n fa k) x1 (nI i) (0 : Int32) q22.2) else (if ¬ q22.1 = 0 then (f_RE_product_75 n fa (f_RE_product_8 n fa k) x1 (nI i) (v / q22.1) q22.2) else none)) (fun r => if r = 0 then 0 else v / r) (fun r m => if r = 0 then sp_meet m 4 else m) (sp_at_lt h47 (by decide)) (fun r t2 a2 R2 _ => by
            obtain ⟨t3, g1, g2, g3, g4, g5⟩ := cv_div (n := n) r R2
            refine ⟨t3, ?_, g2, g3, g4, g5⟩
            rw [g1]
            unfold f_RE_product_75 f_RE_product_118
            simp only [Option.bind_some]
            rw [e1]
            by_cases hr : r = 0
            · rw [if_pos hr, if_pos hr]
            · rw [if_neg hr, if_pos hr, if_neg hr])
          have es : (fun r : Int32 × Int32 × Nat => if r.1 = 0 then sp_prT L b fac K' 0 (sp_meet r.2.1 4) r.2.2 else sp_prT L b fac K' (v / r.1) r.2.1 r.2.2) = fun r => sp_prT L b fac K' (if r.1 = 0 then 0 else v / r.1) (if r.1 = 0 then sp_meet r.2.1 4 else r.2.1) r.2.2 := by
            funext r
            by_cases hr : r.1 = 0
            · simp only [hr, if_true]
            · simp only [hr, if_false]
          rw [es]
          exact key
        · have tk2 := cr_take0 (c := 47) hn hR1 (by decide) (by rw [hL1, hid]; exact h47)
          rw [hL1, hid, pI_pI] at tk2
          rw [tk2]
          simp only [Option.bind_some, if_true, h47, if_false]
          by_cases h37 : sp_at L b (sp_nb L a b) = 37
          · have tk3 := cr_take1 (c := 37) hn hR1 (by decide) (by rw [hL1, hid]; exact h37)
            rw [hL1, hid, pI_pI] at tk3
            rw [tk3]
            simp only [Option.bind_some, show ¬ (1 : Int32) = 0 by decide, if_false, h37, if_true]
            have key := go (fun r t2 => (f_RE_divisor n r t2).bind fun q16 => if q16.1 = 0 then (f_RE_product_112 n fa (f_RE_product_8 n fa k) x1 (nI i) (0 : Int32) q16.2) else (if ¬ q16.1 = 0 then (f_RE_product_112 n fa (f_RE_product_8 n fa k) x1 (nI i) (v - v / q16.1 * q16.1) q16.2) else none)) (fun r => if r = 0 then 0 else v - v / r * r) (fun r m => if r = 0 then sp_meet m 4 else m) (sp_at_lt h37 (by decide)) (fun r t2 a2 R2 _ => by
              obtain ⟨t3, g1, g2, g3, g4, g5⟩ := cv_div (n := n) r R2
              refine ⟨t3, ?_, g2, g3, g4, g5⟩
              rw [g1]
              unfold f_RE_product_112 f_RE_product_118
              simp only [Option.bind_some]
              rw [e1]
              by_cases hr : r = 0
              · rw [if_pos hr, if_pos hr]
              · rw [if_neg hr, if_pos hr, if_neg hr])
            have es : (fun r : Int32 × Int32 × Nat => if r.1 = 0 then sp_prT L b fac K' 0 (sp_meet r.2.1 4) r.2.2 else sp_prT L b fac K' (v - v / r.1 * r.1) r.2.1 r.2.2) = fun r => sp_prT L b fac K' (if r.1 = 0 then 0 else v - v / r.1 * r.1) (if r.1 = 0 then sp_meet r.2.1 4 else r.2.1) r.2.2 := by
              funext r
              by_cases hr : r.1 = 0
              · simp only [hr, if_true]
              · simp only [hr, if_false]
            rw [es]
            exact key
          · have tk3 := cr_take0 (c := 37) hn hR1 (by decide) (by rw [hL1, hid]; exact h37)
            rw [hL1, hid, pI_pI] at tk3
            rw [tk3]
            simp only [Option.bind_some, if_true, h37, if_false]
            exact ⟨v, mz_pI t 6 2 (nI (sp_nb L a b)), sp_nb L a b, rfl, hR1, hnb.1, (cv_F.rf t).put _ (Or.inl rfl), Or.inl hw0, fun h1 => absurd (hw0.symm.trans h1) (by decide), fun _ => ⟨hw0, rfl, rfl, rfl⟩⟩
    · -- a fault of form stands already
      refine ⟨v, t, a, ?_, hR, Nat.le_refl _, cv_F.rf t, Or.inr hw1, fun _ => hw1, fun h0 => absurd (h0.symm.trans hw1) (by decide)⟩
      unfold f_RE_product_8
      rw [hw1]
      by_cases c : (3000 : Int32) ≤ nI i
      · rw [if_pos c]
      · rw [if_neg c, if_neg (by decide)]
