/-! PURE: the reference's value: a step with a whole factor in hand -/
theorem sp_nb_mid {L : Nat → Int32} {e q p : Nat} (hq : q ≤ e) (h1 : q ≤ p) (h2 : p ≤ sp_nb L q e) : sp_nb L p e = sp_nb L q e := by
  have key : ∀ j q, q + j ≤ e → q + j ≤ sp_nb L q e → sp_nb L (q + j) e = sp_nb L q e := by
    intro j
    induction j with
    | zero => intro q _ _; rfl
    | succ j ih =>
      intro q h1 h2
      obtain ⟨m, hm⟩ : ∃ m, e - q = m + 1 := ⟨e - q - 1, by omega⟩
      have e1 : sp_nb L q e = if L q = 32 then sp_bl L m (q + 1) else q := by
        unfold sp_nb
        rw [hm]
        rfl
      by_cases c : L q = 32
      · rw [if_pos c] at e1
        have e2 : sp_bl L m (q + 1) = sp_nb L (q + 1) e := by
          unfold sp_nb
          rw [show e - (q + 1) = m by omega]
        rw [e1, e2] 
        rw [e1, e2] at h2
        rw [show q + (j + 1) = q + 1 + j by omega]
        exact ih (q + 1) (by omega) (by omega)
      · rw [if_neg c] at e1
        omega
  have hle := sp_nb_le L hq
  have := key (p - q) q (by omega) (by omega)
  rw [show q + (p - q) = p by omega] at this
  exact this
/-- what changes while a value is read -/
def mv_F (t t' : mz_St) : Prop := (∀ k j, ¬ (k = 0 ∧ (j = 61 ∨ j = 62 ∨ j = 64 ∨ j = 67)) → ¬ (44 ≤ k ∧ k ≤ 50) → mz_gI t' k j = mz_gI t k j) ∧ (∀ k j, ¬ (k = 0 ∧ (j = 65 ∨ j = 66)) → mz_gL t' k j = mz_gL t k j)
theorem mv_F.rf (t : mz_St) : mv_F t t := ⟨fun _ _ _ _ => rfl, fun _ _ _ => rfl⟩
theorem mv_F.tr {a b c : mz_St} (h1 : mv_F a b) (h2 : mv_F b c) : mv_F a c := ⟨fun k j h g => (h2.1 k j h g).trans (h1.1 k j h g), fun k j h => (h2.2 k j h).trans (h1.2 k j h)⟩
theorem mv_F.put {t t' : mz_St} (h : mv_F t t') {j : Nat} (v : Int32) (hj : j = 61 ∨ j = 62 ∨ j = 64 ∨ j = 67) : mv_F t (mz_pI t' 0 j v) := by
  refine ⟨fun k i hk hg => ?_, h.2⟩
  rw [gI_pI, if_neg (fun q => hk ⟨q.1, by rw [q.2]; exact hj⟩)]
  exact h.1 k i hk hg
theorem mv_F.cell {t t' : mz_St} (h : mv_F t t') {k j : Nat} (v : Int32) (hk : 44 ≤ k ∧ k ≤ 50) : mv_F t (mz_pI t' k j v) := by
  refine ⟨fun k' i hk' hg => ?_, h.2⟩
  rw [gI_pI, if_neg (fun q => hg (by rw [q.1]; exact hk))]
  exact h.1 k' i hk' hg
theorem mv_F.lng {t t' : mz_St} (h : mv_F t t') {j : Nat} (v : Int64) (hj : j = 65 ∨ j = 66) : mv_F t (mz_pL t' 0 j v) := by
  refine ⟨h.1, fun k i hk => ?_⟩
  rw [gL_pL, if_neg (fun q => hk ⟨q.1, by rw [q.2]; exact hj⟩)]
  exact h.2 k i hk
theorem mv_F.row {t t' : mz_St} (h : mv_F t t') {k : Nat} (hk : k ≠ 0) (hg : ¬ (44 ≤ k ∧ k ≤ 50)) : mz_gI t' k = mz_gI t k := by
  funext j
  exact h.1 k j (fun q => hk q.1) hg
theorem mv_F.rowL {t t' : mz_St} (h : mv_F t t') {k : Nat} (hk : k ≠ 0) : mz_gL t' k = mz_gL t k := by
  funext j
  exact h.2 k j (fun q => hk q.1)
/-- what stands below c in the rows of what is open -/
def mv_S (c : Nat) (t t' : mz_St) : Prop := ∀ k j, 44 ≤ k → k ≤ 50 → j < c → mz_gI t' k j = mz_gI t k j
theorem mv_S.rf (c : Nat) (t : mz_St) : mv_S c t t := fun _ _ _ _ _ => rfl
theorem mv_S.tr {c : Nat} {a b d : mz_St} (h1 : mv_S c a b) (h2 : mv_S c b d) : mv_S c a d := fun k j x y z => (h2 k j x y z).trans (h1 k j x y z)
theorem mv_S.lo {c c' : Nat} {a b : mz_St} (h : mv_S c a b) (hc : c' ≤ c) : mv_S c' a b := fun k j x y z => h k j x y (by omega)
theorem mv_S.put {c : Nat} {t t' : mz_St} (h : mv_S c t t') {j : Nat} (v : Int32) : mv_S c t (mz_pI t' 0 j v) := by
  intro k i x y z
  rw [gI_pI, if_neg (fun q => by omega)]
  exact h k i x y z
theorem mv_S.cell {c : Nat} {t t' : mz_St} (h : mv_S c t t') {k j : Nat} (v : Int32) (hj : c ≤ j) : mv_S c t (mz_pI t' k j v) := by
  intro k' i x y z
  rw [gI_pI, if_neg (fun q => by omega)]
  exact h k' i x y z
theorem mv_S.lng {c : Nat} {t t' : mz_St} (h : mv_S c t t') {j : Nat} (v : Int64) : mv_S c t (mz_pL t' 0 j v) := h
/-- the reference stands at q (or behind blanks there), c things are open within the whole, m is the first fault met -/
def mv_at (L : Nat → Int32) (e : Nat) (C : mz_St → Prop) (t : mz_St) (c q : Nat) (m : Int32) : Prop :=
  (∃ p, mr_R t e p ∧ q ≤ p ∧ p ≤ sp_nb L q e) ∧ q ≤ e ∧ mz_gI t 43 = L ∧ mz_gI t 0 62 = 1 ∧ mz_gI t 0 64 = m ∧ mz_gI t 0 67 = nI (c + 1) ∧ c ≤ 10 ∧ C t
def mv_K (C : mz_St → Prop) : Prop := ∀ t t', mv_F t t' → C t → C t'
def mv_bad (e : Nat) (t : mz_St) (X : Option (Int32 × mz_St)) : Prop := ∃ t' p, X = some ((0 : Int32), t') ∧ mz_gI t' 0 62 = 0 ∧ mr_R t' e p ∧ p ≤ e + 1 ∧ mv_F t t'
theorem mv_blank {L : Nat → Int32} {e n : Nat} {C : mz_St → Prop} {t : mz_St} {c q : Nat} {m : Int32} (hn : 10000 ≤ n) (h : mv_at L e C t c q m) : f_MO_blanks n t = some (mz_pI t 0 61 (nI (sp_nb L q e))) ∧ mr_R (mz_pI t 0 61 (nI (sp_nb L q e))) e (sp_nb L q e) := by
  obtain ⟨⟨p, hR, h1, h2⟩, hq, hL, -⟩ := h
  have := mr_blanks hn hR
  have hle := sp_nb_le L hq
  have he := hR.2.2.1
  rw [hL, show sp_bl L (e - p) p = sp_nb L p e from rfl, sp_nb_mid hq h1 h2] at this
  exact ⟨this, hR.to (by omega)⟩
/-- the states of a step -/
def mv_t1 (t : mz_St) (c u : Nat) (m1 : Int32) : mz_St := mz_pI (mz_pI (mz_pI t 0 61 (nI u)) 0 64 m1) 47 c 0
def mv_t2 (t : mz_St) (c u : Nat) (m1 : Int32) : mz_St := mz_pI (mv_t1 t c u m1) 46 c 0
def mv_tm (t : mz_St) (c u : Nat) (m1 v1 d : Int32) : mz_St := mz_pI (mz_pI (mz_pI (mv_t1 t c u m1) 50 c v1) 47 c d) 0 61 (nI (u + 1))
def mv_tp (t : mz_St) (c u : Nat) (m1 v2 d : Int32) : mz_St := mz_pI (mz_pI (mz_pI (mv_t2 t c u m1) 49 c v2) 46 c d) 0 61 (nI (u + 1))
def mv_tc (t : mz_St) (c u g : Nat) (m1 v2 w : Int32) : mz_St := mz_pI (mz_pI (mz_pI (mv_t2 t c u m1) 0 61 (nI (u + g))) 48 c v2) 45 c w
set_option maxHeartbeats 1000000 in
theorem mv_step1 {L : Nat → Int32} {e n k : Nat} {C : mz_St → Prop} {t : mz_St} {c q cmp : Nat} {m v times prod plus sum first : Int32} (hn : 10000 ≤ n) (h : mv_at L e C t c q m) (h44 : mz_gI t 44 c ≠ 2) (h45 : mz_gI t 45 c = nI cmp) (hcmp : cmp ≤ 4) (h46 : mz_gI t 46 c = plus) (h47 : mz_gI t 47 c = times) (h48 : mz_gI t 48 c = first) (h49 : mz_gI t 49 c = sum) (h50 : mz_gI t 50 c = prod) {v1 m1 v2 d : Int32} {u cm : Nat} (hv1 : (mv_tv times prod v m).1 = v1) (hm1 : (mv_tv times prod v m).2 = m1) (hv2 : mv_sv plus sum v1 = v2) (hu : sp_nb L q e = u) (hd : sp_at L e u = d) (hcm : sp_cm L e u = cm) :
    f_MO_value_19 n (k + 1) 1 v t =
      if d = 42 ∨ d = 47 ∨ d = 37 then f_MO_value_19 n k 0 v1 (mv_tm t c u m1 v1 d)
      else if d = 43 ∨ d = 45 then f_MO_value_19 n k 0 v2 (mv_tp t c u m1 v2 d)
      else if cmp = 0 then (if cm = 0 then f_MO_value_496 n (f_MO_value_19 n k) 1 v2 (mv_t2 t c u m1) else f_MO_value_19 n k 0 v2 (mv_tc t c u (if cm = 3 then 1 else 2) m1 v2 (nI cm)))
      else f_MO_value_496 n (f_MO_value_19 n k) 1 (sp_bi (sp_is cmp first v2)) (mv_t2 t c u m1) := by
  obtain ⟨hb, hR⟩ := mv_blank hn h
  obtain ⟨-, hq, hL, h62, h64, h67, hc, -⟩ := h
  have hle := sp_nb_le L hq
  rw [hu] at hb hR hle
  have he := hR.2.2.1
  have gc : ¬ (nI c < 0 ∨ 12 ≤ (nI c).toNatClampNeg) := pz_in (by omega) (by decide)
  have cc : (nI c).toNatClampNeg = c := nI_clamp (by omega)
  rw [f_MO_value_19]
  rw [if_neg (by rw [h62]; decide), hb]
  simp only [Option.bind_some, show ¬ (1 : Int32) = 0 by decide, if_false]
  rw [show mz_gI (mz_pI t 0 61 (nI u)) 0 67 = nI (c + 1) from h67, nI_pred]
  have hp := mv_product (n := n) (c := c) (t := mz_pI t 0 61 (nI u)) (v := v) (m := m) (by omega) h64
  rw [show mz_gI (mz_pI t 0 61 (nI u)) 47 c = times from h47, show mz_gI (mz_pI t 0 61 (nI u)) 50 c = prod from h50, hv1, hm1] at hp
  rw [hp]
  have gc' : ¬ (nI c < 0 ∨ 12 ≤ c) := by have := gc; rw [cc] at this; exact this
  simp only [cc, gc', not_false_eq_true, if_true, Option.bind_some, mz_let]
  rw [if_neg (show ¬ mz_gI (mz_pI t 0 61 (nI u)) 44 c = 2 from h44)]
  have hR1 : mr_R (mv_t1 t c u m1) e u := ⟨hR.1, hR.2.1, hR.2.2.1, hR.2.2.2⟩
  have hL1 : mz_gI (mv_t1 t c u m1) 43 = L := hL
  have hh := mr_here (n := n) hR1
  rw [hL1, hd] at hh
  rw [show mz_pI (mz_pI (mz_pI t 0 61 (nI u)) 0 64 m1) 47 c 0 = mv_t1 t c u m1 from rfl, hh]
  simp only [Option.bind_some]
  have hs := mv_sum (n := n) (c := c) (t := mv_t1 t c u m1) (v := v1) (by omega)
  rw [show mz_gI (mv_t1 t c u m1) 46 c = plus from h46, show mz_gI (mv_t1 t c u m1) 49 c = sum from h49, hv2] at hs
  rw [hs]
  simp only [Option.bind_some]
  rw [show mz_pI (mv_t1 t c u m1) 46 c 0 = mv_t2 t c u m1 from rfl]
  have e327 : f_MO_value_327 n (f_MO_value_19 n k) v1 (nI c) d (mv_t1 t c u m1) = f_MO_value_19 n k 0 v1 (mv_tm t c u m1 v1 d) := by
    unfold f_MO_value_327
    simp only [cc, gc', not_false_eq_true, if_true, mz_let]
    rw [show mz_gI (mz_pI (mz_pI (mv_t1 t c u m1) 50 c v1) 47 c d) 0 61 + 1 = nI (u + 1) from nI_1 u]
    rfl
  have e385 : f_MO_value_385 n (f_MO_value_19 n k) v2 (nI c) d (mv_t2 t c u m1) = f_MO_value_19 n k 0 v2 (mv_tp t c u m1 v2 d) := by
    unfold f_MO_value_385
    simp only [cc, gc', not_false_eq_true, if_true, mz_let]
    rw [show mz_gI (mz_pI (mz_pI (mv_t2 t c u m1) 49 c v2) 46 c d) 0 61 + 1 = nI (u + 1) from nI_1 u]
    rfl
  rw [e327, e385]
  by_cases d1 : d = 42
  · rw [if_pos d1, if_pos (Or.inl d1)]
  · rw [if_neg d1]
    by_cases d2 : d = 47
    · rw [if_pos d2, if_pos (Or.inr (Or.inl d2))]
    · rw [if_neg d2]
      by_cases d3 : d = 37
      · rw [if_pos d3, if_pos (Or.inr (Or.inr d3))]
      · rw [if_neg d3, if_neg (show ¬ (d = 42 ∨ d = 47 ∨ d = 37) from fun z => z.elim d1 (fun z => z.elim d2 d3))]
        by_cases d4 : d = 43
        · rw [if_pos d4, if_pos (Or.inl d4)]
        · rw [if_neg d4]
          by_cases d5 : d = 45
          · rw [if_pos d5, if_pos (Or.inr d5)]
          · rw [if_neg d5, if_neg (show ¬ (d = 43 ∨ d = 45) from fun z => z.elim d4 d5)]
            have h45' : mz_gI (mv_t2 t c u m1) 45 c = nI cmp := h45
            have h48' : mz_gI (mv_t2 t c u m1) 48 c = first := h48
            rw [h45']
            have z0 : (nI cmp = (0 : Int32)) ↔ cmp = 0 := nI_eq (b := 0) (by omega) (by decide)
            by_cases hc0 : cmp = 0
            · rw [if_pos (z0.mpr hc0), if_pos hc0]
              have hR2 : mr_R (mv_t2 t c u m1) e u := ⟨hR.1, hR.2.1, hR.2.2.1, hR.2.2.2⟩
              have hL2 : mz_gI (mv_t2 t c u m1) 43 = L := hL
              have hid : sp_nb L u e = u := by rw [← hu]; exact sp_nb_id L hq
              have hcmp' := mv_comparison hn hR2 hle.2 (by rw [hL2]; exact hid)
              rw [hL2, hcm] at hcmp'
              rw [hcmp']
              simp only [Option.bind_some]
              have hcm4 : cm ≤ 4 := by rw [← hcm]; exact sp_cm_le _ _ _
              unfold f_MO_value_432
              simp only [cc, gc', not_false_eq_true, if_true, mz_let]
              by_cases hcm0 : cm = 0
              · simp only [hcm0, if_true]
                rw [if_pos (show nI 0 ≤ (0 : Int32) by decide), show mz_gI (mz_pI (mv_t2 t c u m1) 0 61 (nI (u + 0))) 45 c = nI cmp from h45', hc0, if_pos (show nI 0 ≤ (0 : Int32) by decide), show mz_pI (mv_t2 t c u m1) 0 61 (nI (u + 0)) = mv_t2 t c u m1 from pI_self rfl]
              · simp only [hcm0, if_false]
                rw [if_neg (show ¬ nI cm ≤ (0 : Int32) from nI_nle (by omega) (by omega))]
                rfl
            · rw [if_neg (fun z => hc0 (z0.mp z)), if_neg hc0]
              unfold f_MO_value_432
              rw [if_pos (by decide), if_pos gc, if_pos gc, if_pos gc, cc, h45', h48', if_neg (show ¬ nI cmp ≤ (0 : Int32) from nI_nle (by omega) (by omega)), mv_compared hc0 hcmp]
              simp only [Option.bind_some, sp_bi_0]
              cases sp_is cmp first v2
              · rw [if_pos rfl]
                rfl
              · rw [if_neg (by decide)]
                rfl
