/-! PURE: values on the reference's side: the pieces -/
theorem mv_div (a b : Int32) : (a.toInt64 / b.toInt64).toInt32 = a / b := by
  apply Int32.toInt_inj.mp
  rw [Int64.toInt_toInt32, Int64.toInt_div, Int32.toInt_toInt64, Int32.toInt_toInt64, Int32.toInt_div, Int.bmod_bmod_of_dvd]
  decide
theorem mv_rem (a b : Int32) : (a.toInt64 - a.toInt64 / b.toInt64 * b.toInt64).toInt32 = a - a / b * b := by
  rw [Int64.toInt32_sub, Int64.toInt32_mul, mv_div, Int32.toInt32_toInt64, Int32.toInt32_toInt64]
theorem mv_ne0 {b : Int32} (h : ¬ b = 0) : ¬ b.toInt64 = 0 := by
  intro q
  apply h
  have := congrArg Int64.toInt32 q
  rw [Int32.toInt32_toInt64] at this
  exact this
def mv_tv (times prod v m : Int32) : Int32 × Int32 :=
  if times = 42 then (prod * v, m) else if times = 47 then (if v = 0 then (0, sp_meet m 4) else (prod / v, m)) else if times = 37 then (if v = 0 then (0, sp_meet m 4) else (prod - prod / v * v, m)) else (v, m)
def mv_sv (plus sum v : Int32) : Int32 := if plus = 43 then sum + v else if plus = 45 then sum - v else v
theorem mv_met {n : Nat} {t : mz_St} {x : Int32} : f_MO_met n x t = some (mz_pI t 0 64 (sp_meet (mz_gI t 0 64) x)) := by
  unfold f_MO_met f_MO_met_16 sp_meet mz_let
  by_cases h : mz_gI t 0 64 = 0
  · rw [if_pos h, if_pos h]
  · rw [if_neg h, if_neg h]
theorem mv_product {n c : Nat} {t : mz_St} {v m : Int32} (hc : c < 12) (hm : mz_gI t 0 64 = m) : f_MO_product n (nI c) v t = some ((mv_tv (mz_gI t 47 c) (mz_gI t 50 c) v m).1, mz_pI t 0 64 (mv_tv (mz_gI t 47 c) (mz_gI t 50 c) v m).2) := by
  have gc : ¬ (nI c < 0 ∨ 12 ≤ (nI c).toNatClampNeg) := pz_in hc (by decide)
  have cc : (nI c).toNatClampNeg = c := nI_clamp (by omega)
  unfold f_MO_product mv_tv
  rw [if_pos gc, if_pos gc, if_pos gc, if_pos gc, cc]
  by_cases h1 : mz_gI t 47 c = 42
  · rw [if_pos h1, if_pos h1, pI_self hm]
  · rw [if_neg h1, if_neg h1]
    by_cases h2 : mz_gI t 47 c = 47
    · rw [if_pos h2, if_pos h2]
      unfold f_MO_divided
      by_cases h0 : v = 0
      · rw [if_pos h0, if_pos h0, mv_met, hm]
        rfl
      · rw [if_neg h0, if_neg h0, if_pos rfl, if_pos (mv_ne0 h0), mv_div, pI_self hm]
        rfl
    · rw [if_neg h2, if_neg h2]
      by_cases h3 : mz_gI t 47 c = 37
      · rw [if_pos h3, if_pos h3]
        unfold f_MO_divided
        by_cases h0 : v = 0
        · rw [if_pos h0, if_pos h0, mv_met, hm]
          rfl
        · rw [if_neg h0, if_neg h0, if_neg (by decide), if_pos (mv_ne0 h0), mv_rem, pI_self hm]
          rfl
      · rw [if_neg h3, if_neg h3, pI_self hm]
theorem mv_sum {n c : Nat} {t : mz_St} {v : Int32} (hc : c < 12) : f_MO_sum n (nI c) v t = some (mv_sv (mz_gI t 46 c) (mz_gI t 49 c) v, t) := by
  have gc : ¬ (nI c < 0 ∨ 12 ≤ (nI c).toNatClampNeg) := pz_in hc (by decide)
  have cc : (nI c).toNatClampNeg = c := nI_clamp (by omega)
  unfold f_MO_sum mv_sv
  rw [if_pos gc, if_pos gc, if_pos gc, if_pos gc, cc]
  by_cases h1 : mz_gI t 46 c = 43
  · rw [if_pos h1, if_pos h1]
  · rw [if_neg h1, if_neg h1]
    by_cases h2 : mz_gI t 46 c = 45
    · rw [if_pos h2, if_pos h2]
    · rw [if_neg h2, if_neg h2]
theorem mv_compared {n w : Nat} {t : mz_St} {a b : Int32} (h0 : w ≠ 0) (h4 : w ≤ 4) : f_MO_compared n (nI w) a b t = some (sp_bi (sp_is w a b), t) := by
  unfold f_MO_compared sp_is
  have e1 : (nI w = (1 : Int32)) ↔ w = 1 := nI_eq (b := 1) (by omega) (by decide)
  have e2 : (nI w = (2 : Int32)) ↔ w = 2 := nI_eq (b := 2) (by omega) (by decide)
  have e3 : (nI w = (3 : Int32)) ↔ w = 3 := nI_eq (b := 3) (by omega) (by decide)
  simp only [e1, e2, e3]
  by_cases h1 : w = 1
  · rw [if_pos h1, if_pos h1]
    by_cases h : a = b <;> simp [h, sp_bi]
  · rw [if_neg h1, if_neg h1]
    by_cases h2 : w = 2
    · rw [if_pos h2, if_pos h2]
      by_cases h : a = b <;> simp [h, sp_bi]
    · rw [if_neg h2, if_neg h2]
      by_cases h3 : w = 3
      · rw [if_pos h3, if_pos h3]
        by_cases h : b ≤ a
        · have : ¬ a < b := fun q => absurd h (pz_nle.mpr q)
          simp [h, this, sp_bi]
        · have : a < b := pz_nle.mp h
          simp [h, this, sp_bi]
      · rw [if_neg h3, if_neg h3]
        by_cases h : b < a
        · have : ¬ a ≤ b := fun q => absurd h (pz_nlt.mpr q)
          simp [h, this, sp_bi]
        · have : a ≤ b := pz_nlt.mp h
          simp [h, this, sp_bi]
theorem sp_cm_le (L : Nat → Int32) (e q : Nat) : sp_cm L e q ≤ 4 := by
  unfold sp_cm
  repeat' split
  all_goals omega
theorem mv_comparison {n e q : Nat} {t : mz_St} (hn : 10000 ≤ n) (h : mr_R t e q) (hq : q ≤ e) (hid : sp_nb (mz_gI t 43) q e = q) : f_MO_comparison n t = some (nI (sp_cm (mz_gI t 43) e q), mz_pI t 0 61 (nI (q + (if sp_cm (mz_gI t 43) e q = 0 then 0 else if sp_cm (mz_gI t 43) e q = 3 then 1 else 2)))) := by
  have he := h.2.2.1
  unfold f_MO_comparison
  rw [mr_blanks hn h]
  simp only [Option.bind_some]
  rw [show sp_bl (mz_gI t 43) (e - q) q = q from hid, pI_self h.2.1, mr_here h]
  simp only [Option.bind_some]
  rw [h.1, h.2.1, show nI q + (1 : Int32) = nI (q + 1) from nI_1 q]
  have fin : ∀ w : Nat, w ≤ 4 → f_MO_comparison_91 n (nI w) t = some (nI w, mz_pI t 0 61 (nI (q + (if w = 0 then 0 else if w = 3 then 1 else 2)))) := by
    intro w hw
    unfold f_MO_comparison_91 f_MO_comparison_124 mz_let
    have e0 : (nI w = (0 : Int32)) ↔ w = 0 := nI_eq (b := 0) (by omega) (by decide)
    have e3 : (nI w = (3 : Int32)) ↔ w = 3 := nI_eq (b := 3) (by omega) (by decide)
    simp only [e0, e3]
    rw [h.2.1]
    by_cases h0 : w = 0
    · rw [if_pos h0, if_pos h0]
      rfl
    · rw [if_neg h0, if_neg h0]
      by_cases h3 : w = 3
      · rw [if_pos h3, if_pos h3, show nI q + (1 : Int32) = nI (q + 1) from nI_1 q]
      · rw [if_neg h3, if_neg h3, show nI q + (2 : Int32) = nI (q + 2) from nI_add q 2]
  have mid : f_MO_comparison_37 n (sp_at (mz_gI t 43) e q) (sp_at (mz_gI t 43) e (q + 1)) t = some (nI (sp_cm (mz_gI t 43) e q), mz_pI t 0 61 (nI (q + (if sp_cm (mz_gI t 43) e q = 0 then 0 else if sp_cm (mz_gI t 43) e q = 3 then 1 else 2)))) := by
    rw [← fin _ (sp_cm_le _ _ _)]
    unfold f_MO_comparison_37 f_MO_comparison_54 f_MO_comparison_70 sp_cm
    generalize sp_at (mz_gI t 43) e q = x
    generalize sp_at (mz_gI t 43) e (q + 1) = y
    by_cases y1 : y = 61
    · subst y1
      by_cases x1 : x = 61
      · subst x1; rfl
      · by_cases x2 : x = 33
        · subst x2; rfl
        · by_cases x3 : x = 60
          · subst x3; rfl
          · simp only [x1, x2, x3, if_false, false_and]
            rfl
    · simp only [y1, if_false, and_false, ite_self]
      by_cases x3 : x = 60
      · subst x3; rfl
      · by_cases x1 : x = 61
        · subst x1; rfl
        · by_cases x2 : x = 33
          · subst x2; rfl
          · simp only [x1, x2, x3, if_false]
            rfl
  by_cases hl : e ≤ q + 1
  · rw [if_pos (nI_le hl (by omega))]
    rw [show sp_at (mz_gI t 43) e (q + 1) = -1 from if_neg (by omega)] at mid
    exact mid
  · rw [if_neg (nI_ge (by omega) (by omega)), if_pos (pz_in (by omega) (by decide)), nI_clamp (by omega)]
    rw [show sp_at (mz_gI t 43) e (q + 1) = mz_gI t 43 (q + 1) from if_pos (by omega)] at mid
    exact mid
def mv_op (t : mz_St) (o : Nat) (x : Int32) : mz_St := mz_pI (mz_pI (mz_pI (mz_pI (mz_pI t 44 o x) 45 o 0) 46 o 0) 47 o 0) 0 67 (nI (o + 1))
theorem mv_opens {n o : Nat} {t : mz_St} {x : Int32} (ho : o < 12) (h : mz_gI t 0 67 = nI o) : f_MO_opens n x t = some (mv_op t o x) := by
  have gc : ¬ (nI o < 0 ∨ 12 ≤ (nI o).toNatClampNeg) := pz_in ho (by decide)
  have cc : (nI o).toNatClampNeg = o := nI_clamp (by omega)
  unfold f_MO_opens mz_let
  have e2 : mz_gI (mz_pI t 44 (nI o).toNatClampNeg x) 0 67 = nI o := h
  have e3 : mz_gI (mz_pI (mz_pI t 44 (nI o).toNatClampNeg x) 45 (nI o).toNatClampNeg 0) 0 67 = nI o := h
  have e4 : mz_gI (mz_pI (mz_pI (mz_pI t 44 (nI o).toNatClampNeg x) 45 (nI o).toNatClampNeg 0) 46 (nI o).toNatClampNeg 0) 0 67 = nI o := h
  have e5 : mz_gI (mz_pI (mz_pI (mz_pI (mz_pI t 44 (nI o).toNatClampNeg x) 45 (nI o).toNatClampNeg 0) 46 (nI o).toNatClampNeg 0) 47 (nI o).toNatClampNeg 0) 0 67 = nI o := h
  simp only [h, e2, e3, e4, e5]
  rw [if_pos gc, if_pos gc, if_pos gc, if_pos gc, cc, show nI o + (1 : Int32) = nI (o + 1) from nI_1 o]
  rfl
/-- a number: its digits, at most nine of them, and no word behind it -/
theorem sp_dv_snoc (L : Nat → Int32) : ∀ m q v, sp_dv L (m + 1) q v = sp_dv L m q v * 10 + (L (q + m) - 48) := by
  intro m
  induction m with
  | zero => intro q v; rfl
  | succ m ih =>
    intro q v
    show sp_dv L (m + 1) (q + 1) (v * 10 + (L q - 48)) = sp_dv L m (q + 1) (v * 10 + (L q - 48)) * 10 + (L (q + (m + 1)) - 48)
    rw [ih, show q + 1 + m = q + (m + 1) by omega]
theorem mv_num_4 {n e q : Nat} {t : mz_St} (hR : mr_R t e q) (hok : mz_gI t 0 62 = 1) : ∀ k i, q + i ≤ e → e - (q + i) < k →
    f_MO_numberHere_4 n k (sp_dv (mz_gI t 43) (min i 9) q 0) (nI i) (mz_pI t 0 61 (nI (q + i))) =
      (if sp_dr (mz_gI t 43) (e - (q + i)) (q + i) - q ≤ 9 ∧ sp_b (sp_at (mz_gI t 43) e (sp_dr (mz_gI t 43) (e - (q + i)) (q + i))) = false then some (sp_dv (mz_gI t 43) (sp_dr (mz_gI t 43) (e - (q + i)) (q + i) - q) q 0, mz_pI t 0 61 (nI (sp_dr (mz_gI t 43) (e - (q + i)) (q + i))))
       else some (sp_dv (mz_gI t 43) (min (sp_dr (mz_gI t 43) (e - (q + i)) (q + i) - q) 9) q 0, mz_pI (mz_pI t 0 61 (nI (sp_dr (mz_gI t 43) (e - (q + i)) (q + i)))) 0 62 0)) := by
  intro k
  induction k with
  | zero => intro i _ h; omega
  | succ k ih =>
    intro i hi hk
    have he := hR.2.2.1
    have hR1 : mr_R (mz_pI t 0 61 (nI (q + i))) e (q + i) := hR.to (by omega)
    have hL : mz_gI (mz_pI t 0 61 (nI (q + i))) 43 = mz_gI t 43 := rfl
    unfold f_MO_numberHere_4
    rw [mr_here hR1, hL]
    simp only [Option.bind_some, mr_dig, sp_bi_0]
    cases hd : sp_d (sp_at (mz_gI t 43) e (q + i)) with
    | false =>
      have hdr : sp_dr (mz_gI t 43) (e - (q + i)) (q + i) = q + i := by
        by_cases hl : q + i < e
        · obtain ⟨m, hm⟩ : ∃ m, e - (q + i) = m + 1 := ⟨e - (q + i) - 1, by omega⟩
          rw [hm]
          rw [sp_at, if_pos hl] at hd
          simp only [sp_dr, hd, Bool.false_eq_true, if_false]
        · rw [show e - (q + i) = 0 by omega]
          rfl
      rw [hdr, show q + i - q = i by omega]
      simp only [if_true]
      have hok1 : mz_gI (mz_pI t 0 61 (nI (q + i))) 0 62 = 1 := hok
      rw [hok1, if_neg (show ¬ (1 : Int32) = 0 by decide)]
      unfold f_MO_numberHere_81 f_MO_numberHere_82 mz_let
      by_cases h9 : i ≤ 9
      · rw [if_neg (show ¬ (10 : Int32) ≤ nI i from nI_ge (b := 10) (by omega) (by decide)), mr_here hR1, hL]
        simp only [Option.bind_some, mr_ws, sp_bi_0]
        unfold sp_w
        rw [hd, Bool.or_false, show min i 9 = i by omega]
        cases hb : sp_b (sp_at (mz_gI t 43) e (q + i)) with
        | false =>
          simp only [if_true]
          rw [if_pos (Or.inr trivial), if_pos ⟨h9, trivial⟩, pI_self hok1]
        | true =>
          simp only [Bool.true_eq_false, if_false, and_false]
          rw [if_pos (Or.inl trivial)]
      · rw [if_pos (show (10 : Int32) ≤ nI i from nI_le (a := 10) (by omega) (by omega)), if_pos (Or.inl rfl), if_neg (fun z => h9 z.1)]
    | true =>
      have hl : q + i < e := by
        by_cases hl : q + i < e
        · exact hl
        · rw [sp_at, if_neg hl] at hd
          exact absurd hd (by decide)
      obtain ⟨m, hm⟩ : ∃ m, e - (q + i) = m + 1 := ⟨e - (q + i) - 1, by omega⟩
      have hd' := hd
      rw [sp_at, if_pos hl] at hd'
      have hdr : sp_dr (mz_gI t 43) (e - (q + i)) (q + i) = sp_dr (mz_gI t 43) (e - (q + (i + 1))) (q + (i + 1)) := by
        rw [hm, show e - (q + (i + 1)) = m by omega]
        simp only [sp_dr, hd', if_true]
        rfl
      rw [hdr]
      simp only [Bool.true_eq_false, if_false]
      have ih' := ih (i + 1) (by omega) (by omega)
      unfold f_MO_numberHere_36 mz_let
      have g61 : mz_gI (mz_pI t 0 61 (nI (q + i))) 0 61 + (1 : Int32) = nI (q + (i + 1)) := nI_1 (q + i)
      rw [g61, pI_pI, show nI i + (1 : Int32) = nI (i + 1) from nI_1 i]
      by_cases h9 : 9 ≤ i
      · rw [if_pos (show (9 : Int32) ≤ nI i from nI_le (a := 9) h9 (by omega))]
        rw [show min (i + 1) 9 = min i 9 by omega] at ih'
        exact ih'
      · rw [if_neg (show ¬ (9 : Int32) ≤ nI i from nI_ge (b := 9) (by omega) (by decide)), mr_here hR1, hL]
        simp only [Option.bind_some]
        rw [g61, pI_pI]
        rw [show min (i + 1) 9 = i + 1 by omega, sp_dv_snoc] at ih'
        rw [show min i 9 = i by omega, sp_at, if_pos hl, show (10 : Int32) * sp_dv (mz_gI t 43) i q 0 + mz_gI t 43 (q + i) - 48 = sp_dv (mz_gI t 43) i q 0 * 10 + (mz_gI t 43 (q + i) - 48) by
          rw [Int32.mul_comm, Int32.sub_eq_add_neg, Int32.sub_eq_add_neg, Int32.add_assoc]]
        exact ih'
theorem mv_num {n e q : Nat} {t : mz_St} {m : Int32} (hn : 10000 ≤ n) (hR : mr_R t e q) (hok : mz_gI t 0 62 = 1) (hq : q ≤ e) :
    match sp_num (mz_gI t 43) e m q with
    | some z => f_MO_numberHere n t = some (z.1, mz_pI t 0 61 (nI z.2.2)) ∧ z.2.1 = m
    | none => ∃ v, f_MO_numberHere n t = some (v, mz_pI (mz_pI t 0 61 (nI (sp_dr (mz_gI t 43) (e - q) q))) 0 62 0) := by
  have he := hR.2.2.1
  have h := mv_num_4 (n := n) hR hok n 0 (by omega) (by omega)
  rw [Nat.add_zero, pI_self hR.2.1] at h
  unfold f_MO_numberHere
  have h' : f_MO_numberHere_4 n n 0 0 t = _ := h
  rw [h']
  unfold sp_num
  generalize hr : sp_dr (mz_gI t 43) (e - q) q = r
  by_cases hb : sp_b (sp_at (mz_gI t 43) e r) = true
  · rw [if_pos hb]
    simp only [hb, Bool.true_eq_false, and_false, if_false]
    exact ⟨_, rfl⟩
  · rw [if_neg hb]
    by_cases h9 : r - q ≤ 9
    · rw [if_pos h9, if_pos ⟨h9, by cases hh : sp_b (sp_at (mz_gI t 43) e r); rfl; exact absurd hh hb⟩]
      exact ⟨rfl, rfl⟩
    · rw [if_neg h9, if_neg (fun z => h9 z.1)]
      exact ⟨_, rfl⟩
