/-! PURE: the reference's value: a factor -/
def mv_CM (cnt : Nat) (ga gb : Nat → Int64) (nu : Nat → Int32) (t : mz_St) : Prop := mz_gI t 0 24 = nI cnt ∧ cnt ≤ 64 ∧ mz_gL t 15 = ga ∧ mz_gL t 16 = gb ∧ mz_gI t 17 = nu
theorem mv_CMK {cnt : Nat} {ga gb : Nat → Int64} {nu : Nat → Int32} : mv_K (mv_CM cnt ga gb nu) := by
  intro t t' F h
  refine ⟨?_, h.2.1, ?_, ?_, ?_⟩
  · rw [F.1 0 24 (by omega) (by omega)]; exact h.1
  · rw [F.rowL (by decide)]; exact h.2.2.1
  · rw [F.rowL (by decide)]; exact h.2.2.2.1
  · rw [F.row (by decide) (by omega)]; exact h.2.2.2.2
def mv_lv (cnt : Nat) (ga gb : Nat → Int64) (nu : Nat → Int32) (L : Nat → Int32) (u w : Nat) : Option Int32 :=
  if sp_pm ga gb (sp_pkA L u (w - u)) (sp_pkB L u (w - u)) cnt 0 (-1) < 0 then none else some (nu (sp_pm ga gb (sp_pkA L u (w - u)) (sp_pkB L u (w - u)) cnt 0 (-1)).toNatClampNeg)
theorem sp_pm_in (ga gb : Nat → Int64) (A B : Int64) (N : Nat) (hN : N < 2 ^ 30) : ∀ m i x, i + m ≤ N → (x < 0 ∨ ∃ j, x = nI j ∧ j < N) → (sp_pm ga gb A B m i x < 0 ∨ ∃ j, sp_pm ga gb A B m i x = nI j ∧ j < N) := by
  intro m
  induction m with
  | zero => intro i x _ h; exact h
  | succ m ih =>
    intro i x hi h
    unfold sp_pm
    split
    · exact ih (i + 1) (nI i) (by omega) (Or.inr ⟨i, rfl, by omega⟩)
    · exact ih (i + 1) x (by omega) h
theorem mv_out {n e k p : Nat} {t t' : mz_St} {x y : Int32} (hk : 1 ≤ k) (h62 : mz_gI t' 0 62 = 0) (hR : mr_R t' e p) (hp : p ≤ e + 1) (F : mv_F t t') : mv_bad e t (f_MO_value_19 n k x y t') := by
  obtain ⟨k0, rfl⟩ : ∃ k0, k = k0 + 1 := ⟨k - 1, by omega⟩
  rw [f_MO_value_19, if_pos h62]
  exact ⟨t', p, rfl, h62, hR, hp, F⟩
theorem sp_va_rest (L : Nat → Int32) (e : Nat) (fac : Int32 → Nat → sp_A) (first sum prod m : Int32) (q : Nat) : sp_va L e fac m q = (fac m q).bind fun r => mv_rest L e fac (e + 1) (e + 1) 0 first 0 sum 0 prod r.1 r.2.1 r.2.2 := by
  have e1 : ∀ m q, sp_pr L e fac m q = (fac m q).bind fun r => sp_prT L e fac (e + 1) r.1 r.2.1 r.2.2 := fun _ _ => rfl
  have e2 : sp_su L e fac m q = (sp_pr L e fac m q).bind fun r => sp_suT L e (sp_pr L e fac) (e + 1) r.1 r.2.1 r.2.2 := rfl
  unfold sp_va mv_rest mv_rs mv_rc
  rw [e2, e1]
  simp only [mv_tv0, mv_sv0, mv_bb, if_true]
theorem mv_op_F {t0 t : mz_St} (F : mv_F t0 t) (o : Nat) (x : Int32) : mv_F t0 (mv_op t o x) := ((((F.cell _ (by omega)).cell _ (by omega)).cell _ (by omega)).cell _ (by omega)).put _ (by omega)
theorem mv_op_S {t0 t : mz_St} {c : Nat} (S : mv_S c t0 t) {o : Nat} (h : c ≤ o) (x : Int32) : mv_S c t0 (mv_op t o x) := ((((S.cell _ h).cell _ h).cell _ h).cell _ h).put _
/-- nothing more may be opened -/
theorem mv_61no {n e u k : Nat} {t t0 : mz_St} {x2 x4 : Int32} (hk : 1 ≤ k) (hR : mr_R t0 e u) (hu : u ≤ e) (h67 : mz_gI t0 0 67 = nI 11) (F : mv_F t t0) : mv_bad e t (f_MO_value_61 n (f_MO_value_19 n k) 0 x2 x4 t0) := by
  have he := hR.2.2.1
  unfold f_MO_value_61
  rw [h67, if_pos (show (10 : Int32) < nI 11 by decide)]
  unfold f_MO_value_76
  simp only [mz_let, true_or, if_true]
  rw [if_pos (show mz_gI (mz_pI (mz_pI t0 0 62 0) 0 61 (mz_gI (mz_pI t0 0 62 0) 0 61 + 1)) 0 62 = 0 from rfl)]
  refine mv_out (p := u + 1) hk rfl ⟨hR.1, ?_, he, by omega⟩ (by omega) ((F.put _ (by omega)).put _ (by omega))
  show mz_gI t0 0 61 + 1 = _
  rw [hR.2.1, nI_1]
/-- something is opened -/
theorem mv_61go {n e u k c : Nat} {t0 : mz_St} {x2 x4 : Int32} (hR : mr_R t0 e u) (h67 : mz_gI t0 0 67 = nI (c + 1)) (hc : c ≤ 9) : f_MO_value_61 n (f_MO_value_19 n k) 0 x2 x4 t0 = f_MO_value_19 n k 0 x2 (mv_op (mz_pI (mz_pI t0 0 62 1) 0 61 (nI (u + 1))) (c + 1) (if x4 = 40 then 1 else 2)) := by
  unfold f_MO_value_61
  rw [h67, if_neg (show ¬ (10 : Int32) < nI (c + 1) from nI_nlt (a := 10) (by omega) (by decide))]
  unfold f_MO_value_76
  simp only [mz_let, or_true, if_true]
  rw [if_neg (show ¬ mz_gI (mz_pI (mz_pI t0 0 62 1) 0 61 (mz_gI (mz_pI t0 0 62 1) 0 61 + 1)) 0 62 = 0 from (by decide : ¬ (1 : Int32) = 0))]
  rw [show mz_gI (mz_pI t0 0 62 1) 0 61 + 1 = nI (u + 1) from by show mz_gI t0 0 61 + 1 = _; rw [hR.2.1, nI_1]]
  unfold f_MO_value_109
  have ho : mz_gI (mz_pI (mz_pI t0 0 62 1) 0 61 (nI (u + 1))) 0 67 = nI (c + 1) := h67
  by_cases h4 : x4 = 40
  · rw [if_pos h4, if_pos h4, mv_opens (by omega) ho]
    rfl
  · rw [if_neg h4, if_neg h4, mv_opens (by omega) ho]
    rfl
set_option maxHeartbeats 1000000 in
theorem mv_word {n : Nat} {L : Nat → Int32} {e cnt : Nat} {ga gb : Nat → Int64} {nu : Nat → Int32} {c k q u : Nat} {ask : Bool} {t t0 : mz_St} {m : Int32} (hn : 10000 ≤ n) (hat : mv_at L e (mv_CM cnt ga gb nu) t c q m) (F : mv_F t t0) (S : mv_S (c + 1) t t0) (hR : mr_R t0 e u) (hqu : q ≤ u) (hue : u ≤ e) (hask : ask = true → u + 1 ≤ e) (hL : mz_gI t0 43 = L) (h62 : mz_gI t0 0 62 = 1) (h64 : mz_gI t0 0 64 = m) (h67 : mz_gI t0 0 67 = nI (c + 1)) (hk : 2 * (e - u) + c + 1 ≤ k) :
    match sp_wo L e (mv_lv cnt ga gb nu L) ask m (if ask = true then u + 1 else u) with
    | none => mv_bad e t (f_MO_value_145 n (f_MO_value_19 n k) (sp_bi ask) t0)
    | some z => ∃ k' t', f_MO_value_145 n (f_MO_value_19 n k) (sp_bi ask) t0 = f_MO_value_19 n k' 1 z.1 t' ∧ mv_at L e (mv_CM cnt ga gb nu) t' c z.2.2 z.2.1 ∧ 2 * (e - z.2.2) + c + 2 ≤ k' ∧ mv_F t t' ∧ mv_S (c + 1) t t' := by
  have he := hR.2.2.1
  have e1 : f_MO_value_145 n (f_MO_value_19 n k) (sp_bi ask) t0 = f_MO_value_166 n (f_MO_value_19 n k) (sp_bi ask) (nI (if ask = true then u + 1 else u)) t0 := by
    unfold f_MO_value_145
    rw [hR.2.1, nI_1]
    cases ask <;> rfl
  rw [e1]
  have hq1 : u ≤ (if ask = true then u + 1 else u) ∧ (if ask = true then u + 1 else u) ≤ e := by
    cases ha : ask
    · simp only [Bool.false_eq_true, if_false]; omega
    · simp only [if_true]; have := hask ha; omega
  generalize (if ask = true then u + 1 else u) = q1 at *
  unfold f_MO_value_166
  simp only [mz_let]
  have hR1 : mr_R (mz_pI t0 0 61 (nI q1)) e q1 := hR.to (by omega)
  have hw := mr_word (o := true) hn hR1 ((show mz_gI (mz_pI t0 0 61 (nI q1)) 0 62 = 1 from h62)) hq1.2
  rw [show mz_gI (mz_pI t0 0 61 (nI q1)) 43 = L from hL] at hw
  rw [hw]
  have hb := sp_nb_le L hq1.2
  have hwe := sp_we_le L (e - sp_nb L q1 e) (sp_nb L q1 e)
  unfold sp_wo
  generalize sp_nb L q1 e = p at *
  generalize hw' : sp_we L (e - p) p = w at *
  simp only [Option.bind_some, Bool.true_and]
  generalize hA : sp_pkA L p (w - p) = A at *
  generalize hB : sp_pkB L p (w - p) = B at *
  have F1 : mv_F t (mr_st (mz_pI t0 0 61 (nI q1)) w A B) := (((F.put _ (by omega)).lng _ (by omega)).lng _ (by omega)).put _ (by omega)
  have S1 : mv_S (c + 1) t (mr_st (mz_pI t0 0 61 (nI q1)) w A B) := (((S.put _).lng _).lng _).put _
  by_cases hgood : p < w ∧ w - p ≤ 12
  · rw [if_pos hgood]
    rw [show (decide (p < w) && decide (w - p ≤ 12)) = true by simp [hgood]]
    have F2 : mv_F t (mz_pI (mr_st (mz_pI t0 0 61 (nI q1)) w A B) 0 62 (sp_bi true)) := F1.put _ (by omega)
    have S2 : mv_S (c + 1) t (mz_pI (mr_st (mz_pI t0 0 61 (nI q1)) w A B) 0 62 (sp_bi true)) := S1.put _
    have g62 : mz_gI (mz_pI (mr_st (mz_pI t0 0 61 (nI q1)) w A B) 0 62 (sp_bi true)) 0 62 = 1 := rfl
    have g61 : mz_gI (mz_pI (mr_st (mz_pI t0 0 61 (nI q1)) w A B) 0 62 (sp_bi true)) 0 61 = nI w := rfl
    have g64 : mz_gI (mz_pI (mr_st (mz_pI t0 0 61 (nI q1)) w A B) 0 62 (sp_bi true)) 0 64 = m := h64
    have g67 : mz_gI (mz_pI (mr_st (mz_pI t0 0 61 (nI q1)) w A B) 0 62 (sp_bi true)) 0 67 = nI (c + 1) := h67
    have gA : mz_gL (mz_pI (mr_st (mz_pI t0 0 61 (nI q1)) w A B) 0 62 (sp_bi true)) 0 65 = A := rfl
    have gB : mz_gL (mz_pI (mr_st (mz_pI t0 0 61 (nI q1)) w A B) 0 62 (sp_bi true)) 0 66 = B := rfl
    generalize mz_pI (mr_st (mz_pI t0 0 61 (nI q1)) w A B) 0 62 (sp_bi true) = t2 at *
    have hC2 := mv_CMK _ _ F2 hat.2.2.2.2.2.2.2
    rw [g62, gA, gB, nm_constantOf hn hC2.1 hC2.2.1, hC2.2.2.1, hC2.2.2.2.1]
    simp only [Option.bind_some, show ¬ (1 : Int32) = 0 by decide, if_false]
    have hin := sp_pm_in ga gb A B cnt (by have := hC2.2.1; omega) cnt 0 (-1) (by omega) (Or.inl (by decide))
    have hat2 : mv_at L e (mv_CM cnt ga gb nu) t2 c w m := mv_at_mk mv_CMK hat F2 (by omega) g61 g62 g64 g67
    unfold mv_lv
    rw [hA, hB]
    generalize sp_pm ga gb A B cnt 0 (-1) = x at *
    rcases hin with hx | ⟨j, hx, hj⟩
    · rw [if_pos hx]
      have hx' : ¬ (0 : Int32) ≤ x := pz_nle.mpr hx
      cases ask with
      | true =>
        simp only [if_true]
        refine ⟨k, t2, ?_, hat2, ?_, F2, S2⟩
        · unfold f_MO_value_196 f_MO_value_220 f_MO_value_254
          rw [if_neg (show ¬ sp_bi true = 0 by decide), if_neg (show ¬ sp_bi true = 0 by decide), if_neg hx']
        · show 2 * (e - w) + c + 2 ≤ k
          omega
      | false =>
        simp only [Bool.false_eq_true, if_false]
        refine ⟨k, mz_pI t2 0 64 (sp_meet m 3), ?_, ?_, ?_, F2.put _ (by omega), S2.put _⟩
        · unfold f_MO_value_196
          rw [if_pos (show sp_bi false = 0 by decide), g62, if_neg (show ¬ (1 : Int32) = 0 by decide), if_neg hx', mv_met, g64]
          simp only [Option.bind_some]
          unfold f_MO_value_220 f_MO_value_254
          rw [if_pos (show sp_bi false = 0 by decide), if_neg hx']
        · exact mv_at_mk mv_CMK hat2 ((mv_F.rf t2).put _ (by omega)) (by show w ≤ e; omega) g61 g62 rfl g67
        · show 2 * (e - w) + c + 2 ≤ k
          omega
    · have hc64 := hC2.2.1
      have hx0 : ¬ x < 0 := by rw [hx]; exact nI_pos (by omega)
      have hx1 : (0 : Int32) ≤ x := pz_nlt.mp hx0
      rw [if_neg hx0]
      cases ask with
      | true =>
        simp only [if_true]
        refine ⟨k, t2, ?_, hat2, ?_, F2, S2⟩
        · unfold f_MO_value_196 f_MO_value_220 f_MO_value_254
          rw [if_neg (show ¬ sp_bi true = 0 by decide), if_neg (show ¬ sp_bi true = 0 by decide), if_pos hx1]
        · show 2 * (e - w) + c + 2 ≤ k
          omega
      | false =>
        simp only [Bool.false_eq_true, if_false]
        refine ⟨k, t2, ?_, hat2, ?_, F2, S2⟩
        · unfold f_MO_value_196 f_MO_value_220 f_MO_value_254
          rw [if_pos (show sp_bi false = 0 by decide), g62, if_neg (show ¬ (1 : Int32) = 0 by decide), if_pos hx1, if_pos (show sp_bi false = 0 by decide), if_pos hx1, if_pos (by rw [hx]; exact pz_in (by omega) (by decide)), hC2.2.2.2.2]
        · show 2 * (e - w) + c + 2 ≤ k
          omega
  · rw [if_neg hgood]
    rw [show (decide (p < w) && decide (w - p ≤ 12)) = false by
      cases h1 : decide (p < w)
      · rfl
      · cases h2 : decide (w - p ≤ 12)
        · rfl
        · exact absurd ⟨of_decide_eq_true h1, of_decide_eq_true h2⟩ hgood]
    have F2 : mv_F t (mz_pI (mr_st (mz_pI t0 0 61 (nI q1)) w A B) 0 62 (sp_bi false)) := F1.put _ (by omega)
    have R2 : mr_R (mz_pI (mr_st (mz_pI t0 0 61 (nI q1)) w A B) 0 62 (sp_bi false)) e w := ⟨hR.1, rfl, he, by omega⟩
    have g62 : mz_gI (mz_pI (mr_st (mz_pI t0 0 61 (nI q1)) w A B) 0 62 (sp_bi false)) 0 62 = 0 := rfl
    generalize mz_pI (mr_st (mz_pI t0 0 61 (nI q1)) w A B) 0 62 (sp_bi false) = t2 at *
    rw [g62, if_pos rfl]
    have fin : f_MO_value_196 n (f_MO_value_19 n k) (sp_bi ask) (-1) t2 = f_MO_value_19 n k 1 0 t2 := by
      unfold f_MO_value_196 f_MO_value_220 f_MO_value_254
      cases ask with
      | true => rw [if_neg (by decide), if_neg (by decide), if_neg (by decide)]
      | false => rw [if_pos (by decide), if_pos g62, if_pos (by decide), if_neg (by decide)]
    rw [fin]
    exact mv_out (by omega) g62 R2 (by omega) F2
set_option maxHeartbeats 2000000 in
theorem mv_fac {n : Nat} {L : Nat → Int32} {e cnt : Nat} {ga gb : Nat → Int64} {nu : Nat → Int32} (hn : 10000 ≤ n) : ∀ d c, c + d = 10 → mv_fok n L e (mv_CM cnt ga gb nu) c (sp_fa L e (mv_lv cnt ga gb nu L) d) := by
  intro d
  induction d with
  | zero => ?_
  | succ d ih => ?_
  all_goals
    intro c hcd k x2 t q m hat hk
    obtain ⟨k0, rfl⟩ : ∃ k0, k = k0 + 1 := ⟨k - 1, by omega⟩
    obtain ⟨hbl, hR⟩ := mv_blank hn hat
    have hq := hat.2.1
    have hle := sp_nb_le L hq
    have hid := sp_nb_id L hq
    have hL := hat.2.2.1
    have h62 := hat.2.2.2.1
    have h64 := hat.2.2.2.2.1
    have h67 := hat.2.2.2.2.2.1
    have he := hR.2.2.1
    have e0 : f_MO_value_19 n (k0 + 1) 0 x2 t = (if sp_at L e (sp_nb L q e) = 40 then (f_MO_value_61 n (f_MO_value_19 n k0) 0 x2 (sp_at L e (sp_nb L q e)) (mz_pI t 0 61 (nI (sp_nb L q e)))) else (if sp_at L e (sp_nb L q e) = 45 then (f_MO_value_61 n (f_MO_value_19 n k0) 0 x2 (sp_at L e (sp_nb L q e)) (mz_pI t 0 61 (nI (sp_nb L q e)))) else (if sp_d (sp_at L e (sp_nb L q e)) = true then ((f_MO_numberHere n (mz_pI t 0 61 (nI (sp_nb L q e)))).bind fun q89 => (f_MO_value_19 n k0) (1 : Int32) q89.1 q89.2) else (f_MO_value_145 n (f_MO_value_19 n k0) (sp_bi (decide (sp_at L e (sp_nb L q e) = 63))) (mz_pI t 0 61 (nI (sp_nb L q e))))))) := by
      rw [f_MO_value_19, if_neg (by rw [h62]; decide), hbl]
      simp only [Option.bind_some, if_true]
      rw [mr_here hR, show mz_gI (mz_pI t 0 61 (nI (sp_nb L q e))) 43 = L from hL]
      simp only [Option.bind_some, mr_dig, sp_bi_0]
      cases sp_d (sp_at L e (sp_nb L q e)) with
      | true => simp
      | false =>
        simp only [Bool.false_eq_true, if_false, if_true]
        by_cases h : sp_at L e (sp_nb L q e) = 63
        · simp [h, sp_bi]
        · simp [h, sp_bi]
    rw [e0]
    have F0 : mv_F t (mz_pI t 0 61 (nI (sp_nb L q e))) := (mv_F.rf t).put _ (by omega)
    have S0 : mv_S (c + 1) t (mz_pI t 0 61 (nI (sp_nb L q e))) := (mv_S.rf (c + 1) t).put _
    have h67' : mz_gI (mz_pI t 0 61 (nI (sp_nb L q e))) 0 67 = nI (c + 1) := h67
    have h62' : mz_gI (mz_pI t 0 61 (nI (sp_nb L q e))) 0 62 = 1 := h62
    have h64' : mz_gI (mz_pI t 0 61 (nI (sp_nb L q e))) 0 64 = m := h64
    have hL' : mz_gI (mz_pI t 0 61 (nI (sp_nb L q e))) 43 = L := hL
    unfold sp_fa sp_faG
    have num : ¬ sp_at L e (sp_nb L q e) = 40 → ¬ sp_at L e (sp_nb L q e) = 45 → sp_d (sp_at L e (sp_nb L q e)) = true → match sp_num L e m (sp_nb L q e) with
        | none => mv_bad e t ((f_MO_numberHere n (mz_pI t 0 61 (nI (sp_nb L q e)))).bind fun q89 => (f_MO_value_19 n k0) (1 : Int32) q89.1 q89.2)
        | some z => ∃ k' t', ((f_MO_numberHere n (mz_pI t 0 61 (nI (sp_nb L q e)))).bind fun q89 => (f_MO_value_19 n k0) (1 : Int32) q89.1 q89.2) = f_MO_value_19 n k' 1 z.1 t' ∧ mv_at L e (mv_CM cnt ga gb nu) t' c z.2.2 z.2.1 ∧ 2 * (e - z.2.2) + c + 2 ≤ k' ∧ mv_F t t' ∧ mv_S (c + 1) t t' := by
      intro _ _ hd
      have hlt : sp_nb L q e < e := by
        by_cases h : sp_nb L q e < e
        · exact h
        · rw [sp_at, if_neg h] at hd
          exact absurd hd (by decide)
      have hnum := mv_num (m := m) hn hR h62' hle.2
      rw [hL'] at hnum
      cases hz : sp_num L e m (sp_nb L q e) with
      | none =>
        rw [hz] at hnum
        obtain ⟨v, hv⟩ := hnum
        rw [hv]
        have hdr := sp_dr_le L (e - sp_nb L q e) (sp_nb L q e)
        exact mv_out (p := sp_dr L (e - sp_nb L q e) (sp_nb L q e)) (by omega) rfl ⟨hR.1, rfl, he, by omega⟩ (by omega) ((F0.put _ (by omega)).put _ (by omega))
      | some z =>
        rw [hz] at hnum
        have hd' := hd
        rw [sp_at, if_pos hlt] at hd'
        have hg := sp_num_go hlt hd' hz
        rw [hnum.1]
        refine ⟨k0, _, rfl, mv_at_mk mv_CMK hat (F0.put _ (by omega)) (by omega) rfl h62 (hnum.2 ▸ h64) h67, by omega, F0.put _ (by omega), S0.put _⟩
    have wrd : ¬ sp_at L e (sp_nb L q e) = 40 → match (if sp_at L e (sp_nb L q e) = 63 then sp_wo L e (mv_lv cnt ga gb nu L) true m (sp_nb L q e + 1) else sp_wo L e (mv_lv cnt ga gb nu L) false m (sp_nb L q e)) with
        | none => mv_bad e t (f_MO_value_145 n (f_MO_value_19 n k0) (sp_bi (decide (sp_at L e (sp_nb L q e) = 63))) (mz_pI t 0 61 (nI (sp_nb L q e))))
        | some z => ∃ k' t', (f_MO_value_145 n (f_MO_value_19 n k0) (sp_bi (decide (sp_at L e (sp_nb L q e) = 63))) (mz_pI t 0 61 (nI (sp_nb L q e)))) = f_MO_value_19 n k' 1 z.1 t' ∧ mv_at L e (mv_CM cnt ga gb nu) t' c z.2.2 z.2.1 ∧ 2 * (e - z.2.2) + c + 2 ≤ k' ∧ mv_F t t' ∧ mv_S (c + 1) t t' := by
      intro _
      by_cases h63 : sp_at L e (sp_nb L q e) = 63
      · have := mv_word (ask := true) (k := k0) hn hat F0 S0 hR hle.1 hle.2 (fun _ => sp_at_lt h63 (by decide)) hL' h62' h64' h67' (by omega)
        rw [if_pos h63, show decide (sp_at L e (sp_nb L q e) = 63) = true by simp [h63]]
        exact this
      · have := mv_word (ask := false) (k := k0) hn hat F0 S0 hR hle.1 hle.2 (fun h => nomatch h) hL' h62' h64' h67' (by omega)
        rw [if_neg h63, show decide (sp_at L e (sp_nb L q e) = 63) = false by simp [h63]]
        exact this
  · by_cases h45 : sp_at L e (sp_nb L q e) = 45
    · have n40 : ¬ sp_at L e (sp_nb L q e) = 40 := by rw [h45]; decide
      simp only [if_pos h45, if_neg n40]
      exact mv_61no (k := k0) (by omega) hR hle.2 (by rw [h67', show c + 1 = 11 by omega]) F0
    · rw [if_neg h45, if_neg h45]
      by_cases h40 : sp_at L e (sp_nb L q e) = 40
      · rw [if_pos h40, if_pos h40]
        exact mv_61no (k := k0) (by omega) hR hle.2 (by rw [h67', show c + 1 = 11 by omega]) F0
      · rw [if_neg h40, if_neg h40]
        by_cases hd : sp_d (sp_at L e (sp_nb L q e)) = true
        · rw [if_pos hd, if_pos hd]
          exact num h40 h45 hd
        · rw [if_neg hd, if_neg hd]
          exact wrd h40
  · have sub := ih (c + 1) (by omega)
    have opn : ∀ kind, sp_nb L q e < e → mv_at L e (mv_CM cnt ga gb nu) (mv_op (mz_pI (mz_pI (mz_pI t 0 61 (nI (sp_nb L q e))) 0 62 1) 0 61 (nI (sp_nb L q e + 1))) (c + 1) kind) (c + 1) (sp_nb L q e + 1) m ∧ mv_F t (mv_op (mz_pI (mz_pI (mz_pI t 0 61 (nI (sp_nb L q e))) 0 62 1) 0 61 (nI (sp_nb L q e + 1))) (c + 1) kind) ∧ mv_S (c + 1) t (mv_op (mz_pI (mz_pI (mz_pI t 0 61 (nI (sp_nb L q e))) 0 62 1) 0 61 (nI (sp_nb L q e + 1))) (c + 1) kind) := by
      intro kind hlt
      have F1 := mv_op_F ((F0.put (1 : Int32) (j := 62) (by omega)).put (nI (sp_nb L q e + 1)) (j := 61) (by omega)) (c + 1) kind
      refine ⟨?_, F1, mv_op_S ((S0.put _).put _) (by omega) kind⟩
      refine ⟨⟨sp_nb L q e + 1, ⟨hR.1, rfl, he, by omega⟩, by omega, (sp_nb_le L (by omega)).1⟩, by omega, hL, rfl, h64, rfl, by omega, mv_CMK _ _ F1 hat.2.2.2.2.2.2.2⟩
    by_cases h45 : sp_at L e (sp_nb L q e) = 45
    · have hlt := sp_at_lt h45 (by decide)
      have n40 : ¬ sp_at L e (sp_nb L q e) = 40 := by rw [h45]; decide
      simp only [if_pos h45, if_neg n40]
      rw [mv_61go hR h67' (by omega)]
      simp only [if_neg n40]
      obtain ⟨at1, F1, S1⟩ := opn 2 hlt
      have g44 : mz_gI (mv_op (mz_pI (mz_pI (mz_pI t 0 61 (nI (sp_nb L q e))) 0 62 1) 0 61 (nI (sp_nb L q e + 1))) (c + 1) 2) 44 (c + 1) = 2 := by simp [mv_op, gI_pI]
      generalize mv_op (mz_pI (mz_pI (mz_pI t 0 61 (nI (sp_nb L q e))) 0 62 1) 0 61 (nI (sp_nb L q e + 1))) (c + 1) 2 = t1 at *
      have hs := sub k0 x2 t1 (sp_nb L q e + 1) m at1 (by omega)
      cases hz : sp_fa L e (mv_lv cnt ga gb nu L) d m (sp_nb L q e + 1) with
      | none =>
        rw [hz] at hs
        exact mv_bad.mono F1 hs
      | some z =>
        rw [hz] at hs
        obtain ⟨k', t', e1, at', f', F', S'⟩ := hs
        obtain ⟨k1, rfl⟩ : ∃ k1, k' = k1 + 1 := ⟨k' - 1, by omega⟩
        obtain ⟨hb', hR'⟩ := mv_blank hn at'
        have hq' := at'.2.1
        have hle' := sp_nb_le L hq'
        have g67 : mz_gI (mz_pI t' 0 61 (nI (sp_nb L z.2.2 e))) 0 67 = nI (c + 1 + 1) := at'.2.2.2.2.2.1
        have FF : mv_F t (mz_pI (mz_pI t' 0 61 (nI (sp_nb L z.2.2 e))) 0 67 (nI (c + 1))) := ((F1.tr F').put _ (by omega)).put _ (by omega)
        refine ⟨k1, mz_pI (mz_pI t' 0 61 (nI (sp_nb L z.2.2 e))) 0 67 (nI (c + 1)), ?_, ?_, ?_, FF, ((S1.tr (S'.lo (by omega))).put _).put _⟩
        · rw [e1, f_MO_value_19, if_neg (by rw [at'.2.2.2.1]; decide), hb']
          simp only [Option.bind_some, show ¬ (1 : Int32) = 0 by decide, if_false]
          rw [g67, nI_pred, if_pos (pz_in (by omega) (by decide)), nI_clamp (by omega)]
          rw [show mz_gI (mz_pI t' 0 61 (nI (sp_nb L z.2.2 e))) 44 (c + 1) = 2 from (S' 44 (c + 1) (by omega) (by omega) (by omega)).trans g44, if_pos rfl]
          rfl
        · exact ⟨⟨sp_nb L z.2.2 e, ⟨hR'.1, rfl, hR'.2.2.1, by omega⟩, hle'.1, Nat.le_refl _⟩, hq', at'.2.2.1, at'.2.2.2.1, at'.2.2.2.2.1, rfl, by omega, mv_CMK _ _ FF hat.2.2.2.2.2.2.2⟩
        · show 2 * (e - z.2.2) + c + 2 ≤ k1
          omega
    · rw [if_neg h45, if_neg h45]
      by_cases h40 : sp_at L e (sp_nb L q e) = 40
      · have hlt := sp_at_lt h40 (by decide)
        rw [if_pos h40, if_pos h40, mv_61go hR h67' (by omega), if_pos h40]
        obtain ⟨at1, F1, S1⟩ := opn 1 hlt
        have g44 : mz_gI (mv_op (mz_pI (mz_pI (mz_pI t 0 61 (nI (sp_nb L q e))) 0 62 1) 0 61 (nI (sp_nb L q e + 1))) (c + 1) 1) 44 (c + 1) = 1 := by simp [mv_op, gI_pI]
        have g45 : mz_gI (mv_op (mz_pI (mz_pI (mz_pI t 0 61 (nI (sp_nb L q e))) 0 62 1) 0 61 (nI (sp_nb L q e + 1))) (c + 1) 1) 45 (c + 1) = nI 0 := by simp [mv_op, gI_pI]; rfl
        have g46 : mz_gI (mv_op (mz_pI (mz_pI (mz_pI t 0 61 (nI (sp_nb L q e))) 0 62 1) 0 61 (nI (sp_nb L q e + 1))) (c + 1) 1) 46 (c + 1) = 0 := by simp [mv_op, gI_pI]
        have g47 : mz_gI (mv_op (mz_pI (mz_pI (mz_pI t 0 61 (nI (sp_nb L q e))) 0 62 1) 0 61 (nI (sp_nb L q e + 1))) (c + 1) 1) 47 (c + 1) = 0 := by simp [mv_op, gI_pI]
        generalize mv_op (mz_pI (mz_pI (mz_pI t 0 61 (nI (sp_nb L q e))) 0 62 1) 0 61 (nI (sp_nb L q e + 1))) (c + 1) 1 = t1 at *
        have hs := sub k0 x2 t1 (sp_nb L q e + 1) m at1 (by omega)
        simp only
        rw [sp_va_rest L e _ (mz_gI t1 48 (c + 1)) (mz_gI t1 49 (c + 1)) (mz_gI t1 50 (c + 1))]
        cases hz : sp_fa L e (mv_lv cnt ga gb nu L) d m (sp_nb L q e + 1) with
        | none =>
          rw [hz] at hs
          exact mv_bad.mono F1 hs
        | some z =>
          rw [hz] at hs
          obtain ⟨k', t', e1, at', f', F', S'⟩ := hs
          have hgz := sp_fa_go (L := L) (e := e) (lv := mv_lv cnt ga gb nu L) d m _ z (by omega) hz
          rw [e1, Option.bind_some]
          have sc : ∀ a, 44 ≤ a → a ≤ 50 → mz_gI t' a (c + 1) = mz_gI t1 a (c + 1) := fun a h1 h2 => S' a (c + 1) h1 h2 (by omega)
          have fr := mv_frame hn mv_CMK sub (sp_fa_go d) (e - z.2.2) (e + 1) (e + 1) k' t' z.2.2 0 z.2.1 z.1 0 (mz_gI t1 50 (c + 1)) 0 (mz_gI t1 49 (c + 1)) (mz_gI t1 48 (c + 1)) rfl at' (by rw [sc 44 (by omega) (by omega), g44]; decide) (by rw [sc 45 (by omega) (by omega)]; exact g45) (by omega) (by rw [sc 46 (by omega) (by omega)]; exact g46) (by rw [sc 47 (by omega) (by omega)]; exact g47) (sc 48 (by omega) (by omega)) (sc 49 (by omega) (by omega)) (sc 50 (by omega) (by omega)) (by omega) (by omega) (by omega)
          have hgo2 : ∀ r, mv_rest L e (sp_fa L e (mv_lv cnt ga gb nu L) d) (e + 1) (e + 1) 0 (mz_gI t1 48 (c + 1)) 0 (mz_gI t1 49 (c + 1)) 0 (mz_gI t1 50 (c + 1)) z.1 z.2.1 z.2.2 = some r → sp_nb L q e + 1 + 1 ≤ r.2.2 ∧ r.2.2 ≤ e := by
            intro r hr
            refine sp_va_go (L := L) (fac := sp_fa L e (mv_lv cnt ga gb nu L) d) (sp_fa_go d) m (sp_nb L q e + 1) r (by omega) ?_
            rw [sp_va_rest L e _ (mz_gI t1 48 (c + 1)) (mz_gI t1 49 (c + 1)) (mz_gI t1 50 (c + 1)), hz]
            exact hr
          generalize mv_rest L e (sp_fa L e (mv_lv cnt ga gb nu L) d) (e + 1) (e + 1) 0 (mz_gI t1 48 (c + 1)) 0 (mz_gI t1 49 (c + 1)) 0 (mz_gI t1 50 (c + 1)) z.1 z.2.1 z.2.2 = A at *
          cases A with
          | none => exact mv_bad.mono (F1.tr F') fr
          | some r =>
            obtain ⟨k2, t2, e2, at2, f2, F2, S2⟩ := fr
            have hr := hgo2 r rfl
            rw [e2, Option.bind_some]
            obtain ⟨⟨p, hRp, hp1, hp2⟩, hq2, hL2, h622, h642, h672, hc2, hC2⟩ := at2
            have hle2 := sp_nb_le L hq2
            unfold f_MO_value_496
            simp only [mz_let]
            rw [h672, nI_pred, if_neg (show ¬ mz_gI (mz_pI t2 0 67 (nI (c + 1))) 0 67 = 0 from fun h => by
              have : nI (c + 1) = nI 0 := h
              have := (nI_eq (a := c + 1) (b := 0) (by omega) (by omega)).mp this
              omega)]
            have hsg := mr_sign (n := n) (t := mz_pI t2 0 67 (nI (c + 1))) (e := e) (q := p) (o := true) (c := 41) hn ⟨hRp.1, hRp.2.1, hRp.2.2.1, hRp.2.2.2⟩ h622 (by have := hRp.2.2.1; omega)
            rw [show mz_gI (mz_pI t2 0 67 (nI (c + 1))) 43 = L from hL2, show sp_bl L (e - p) p = sp_nb L p e from rfl, sp_nb_mid hq2 hp1 hp2] at hsg
            rw [hsg]
            simp only [Option.bind_some, Bool.true_and]
            by_cases h41 : sp_at L e (sp_nb L r.2.2 e) = 41
            · have hlt2 := sp_at_lt h41 (by decide)
              rw [if_pos h41]
              simp only [h41, decide_true]
              have FF : mv_F t (mz_pI (mz_pI (mz_pI t2 0 67 (nI (c + 1))) 0 61 (nI (sp_nb L r.2.2 e + 1))) 0 62 (sp_bi true)) := (((F1.tr (F'.tr F2)).put _ (by omega)).put _ (by omega)).put _ (by omega)
              refine ⟨k2, _, rfl, ?_, ?_, FF, (((S1.tr ((S'.lo (by omega)).tr S2)).put _).put _).put _⟩
              · exact ⟨⟨sp_nb L r.2.2 e + 1, ⟨hRp.1, rfl, hRp.2.2.1, by omega⟩, Nat.le_refl _, (sp_nb_le L (by omega)).1⟩, by omega, hL2, rfl, h642, rfl, by omega, mv_CMK _ _ FF hat.2.2.2.2.2.2.2⟩
              · show 2 * (e - (sp_nb L r.2.2 e + 1)) + c + 2 ≤ k2
                omega
            · rw [if_neg h41]
              simp only [h41, decide_false]
              refine mv_out (p := sp_nb L r.2.2 e + 1) (by omega) rfl ⟨hRp.1, rfl, hRp.2.2.1, by omega⟩ (by omega) ((((F1.tr (F'.tr F2)).put _ (by omega)).put _ (by omega)).put _ (by omega))
      · rw [if_neg h40, if_neg h40]
        by_cases hd : sp_d (sp_at L e (sp_nb L q e)) = true
        · rw [if_pos hd, if_pos hd]
          exact num h40 h45 hd
        · rw [if_neg hd, if_neg hd]
          exact wrd h40
