/-! PURE: the class's factor -/
/-- what the class's values rely on: the names of the constants, their numbers, the row -/
def cv_C (cnt : Nat) (L ln g nu : Nat → Int32) (t : mz_St) : Prop := nz_Rc t cnt ∧ mz_gI t 2 = L ∧ mz_gI t 17 = ln ∧ mz_gI t 16 = g ∧ mz_gI t 14 = nu
theorem cv_CK {cnt : Nat} {L ln g nu : Nat → Int32} : cv_K (cv_C cnt L ln g nu) := by
  intro t t' h hC
  refine ⟨⟨?_, hC.1.2.1, ?_⟩, ?_, ?_, ?_, ?_⟩
  · rw [h.row (by decide)]; exact hC.1.1
  · rw [h.row (by decide)]; exact hC.1.2.2
  · rw [h.row (by decide)]; exact hC.2.1
  · rw [h.row (by decide)]; exact hC.2.2.1
  · rw [h.row (by decide)]; exact hC.2.2.2.1
  · rw [h.row (by decide)]; exact hC.2.2.2.2
def cv_lv (cnt : Nat) (L ln g nu : Nat → Int32) (u w : Nat) : Option Int32 := (sp_nm ln g L u w cnt 0).map nu
theorem sp_num_m {L : Nat → Int32} {e q : Nat} {m : Int32} {r : Int32 × Int32 × Nat} (h : sp_num L e m q = some r) : r.2.1 = m := by
  unfold sp_num at h
  split at h
  · exact nomatch h
  · split at h
    · rw [← Option.some.inj h]
    · exact nomatch h
theorem sp_num_p {L : Nat → Int32} {e q : Nat} {m : Int32} {r : Int32 × Int32 × Nat} (h : sp_num L e m q = some r) : r.2.2 = sp_dr L (e - q) q := by
  unfold sp_num at h
  split at h
  · exact nomatch h
  · split at h
    · rw [← Option.some.inj h]
    · exact nomatch h
theorem cv_nof {n cnt i : Nat} {t : mz_St} (h : nz_Rc t cnt) (hi : i < cnt) : f_CN_numberOf n (nI i) t = some (mz_gI t 14 i, t) := by
  have hc := h.2.1
  unfold f_CN_numberOf
  rw [h.1, if_neg (nI_pos (by omega)), if_neg (nI_ge (by omega) (by omega)), if_neg (show ¬ (64 : Int32) ≤ nI i from nI_ge (b := 64) (by omega) (by decide)), if_pos (pz_in (by omega) (by decide)), nI_clamp (by omega)]
theorem cv_nof0 {n : Nat} {t : mz_St} : f_CN_numberOf n (-1) t = some ((0 : Int32), t) := by
  unfold f_CN_numberOf
  rw [if_pos (by decide)]
/-- a word from place a on -/
theorem cv_wo {n cnt b : Nat} {L ln g nu : Nat → Int32} {fa : Int32 → mz_St → Option (Int32 × mz_St)} {t : mz_St} {a : Nat} (ask : Bool) (hn : 10000 ≤ n) (hC : cv_C cnt L ln g nu t) (hR : cr_R t a b) (hw : mz_gI t 6 6 = 0 ∨ mz_gI t 6 6 = 1) :
    ∃ r t' a', ((f_RE_takeWord n t).bind fun q19 => if q19.1 = 0 then ((f_RE_refuse n q19.2).bind fun q31 => some (q31.1, q31.2)) else ((f_NA_find_c n (mz_gI q19.2 6 4) (mz_gI q19.2 6 5) q19.2).bind fun q22 => if sp_bi ask = 0 then (if q22.1 = (-1 : Int32) then ((f_RE_meet n (3 : Int32) q22.2).bind fun q28 => f_RE_factorB_141 n fa q22.1 q28) else (f_RE_factorB_141 n fa q22.1 q22.2)) else (if q22.1 = (-1 : Int32) then (some ((0 : Int32), q22.2)) else (some ((1 : Int32), q22.2))))) = some (r, t') ∧ cr_R t' a' b ∧ a ≤ a' ∧ cv_F t t' ∧ (mz_gI t' 6 6 = 0 ∨ mz_gI t' 6 6 = 1) ∧ (mz_gI t 6 6 = 1 → mz_gI t' 6 6 = 1) ∧
      (mz_gI t 6 6 = 0 → match sp_wo L b (cv_lv cnt L ln g nu) ask (mz_gI t 6 7) a with
        | some z => mz_gI t' 6 6 = 0 ∧ r = z.1 ∧ mz_gI t' 6 7 = z.2.1 ∧ a' = z.2.2
        | none => mz_gI t' 6 6 = 1) := by
  have hb := hR.2.2.2
  have hab := hR.2.2.1
  have hnb := sp_nb_le L hab
  have hwe := sp_we_le L (b - sp_nb L a b) (sp_nb L a b)
  have tw := cr_takeWord hn hR
  rw [hC.2.1] at tw
  rw [tw]
  simp only [Option.bind_some]
  unfold sp_wo
  generalize sp_nb L a b = u at *
  generalize sp_we L (b - u) u = w at *
  have F1 : cv_F t (cr_st t u w) := (((cv_F.rf t).put _ (by omega)).put _ (by omega)).put _ (by omega)
  have R1 : cr_R (cr_st t u w) w b := ⟨rfl, hR.2.1, by omega, hb⟩
  have w1 : mz_gI (cr_st t u w) 6 6 = mz_gI t 6 6 := rfl
  have m1 : mz_gI (cr_st t u w) 6 7 = mz_gI t 6 7 := rfl
  have C1 := cv_CK _ _ F1 hC
  by_cases hW : u < w ∧ w - u ≤ 12
  · rw [if_pos hW]
    have hW2 : (decide (u < w) && decide (w - u ≤ 12)) = true := by
      rw [Bool.and_eq_true, decide_eq_true_eq, decide_eq_true_eq]; exact hW
    rw [hW2]
    simp only [show ¬ sp_bi true = 0 by decide, if_false]
    have g4 : mz_gI (cr_st t u w) 6 4 = nI u := rfl
    have g5 : mz_gI (cr_st t u w) 6 5 = nI w := rfl
    rw [g4, g5, nz_findc hn C1.1 (by omega) (by omega), C1.2.1, C1.2.2.1, C1.2.2.2.1]
    simp only [Option.bind_some]
    unfold cv_lv
    cases hs : sp_nm ln g L u w cnt 0 with
    | none =>
      simp only [sp_ix, if_true, Option.map_none]
      cases ask with
      | true =>
        simp only [show ¬ sp_bi true = 0 by decide, if_false, if_true]
        exact ⟨0, _, w, rfl, R1, by omega, F1, hw, fun h => h, fun h => ⟨h, rfl, rfl, rfl⟩⟩
      | false =>
        simp only [show sp_bi false = 0 from rfl, if_true, Bool.false_eq_true, if_false]
        unfold f_RE_meet f_RE_factorB_141 sp_meet mz_let
        by_cases h7 : mz_gI t 6 7 = 0
        · rw [if_pos (show mz_gI (cr_st t u w) 6 7 = 0 from h7), if_pos h7]
          simp only [Option.bind_some, cv_nof0]
          exact ⟨0, _, w, rfl, ⟨rfl, hR.2.1, by omega, hb⟩, by omega, F1.put _ (by omega), hw, fun h => h, fun h => ⟨h, rfl, rfl, rfl⟩⟩
        · rw [if_neg (show ¬ mz_gI (cr_st t u w) 6 7 = 0 from h7), if_neg h7]
          simp only [Option.bind_some, cv_nof0]
          exact ⟨0, _, w, rfl, R1, by omega, F1, hw, fun h => h, fun h => ⟨h, rfl, rfl, rfl⟩⟩
    | some i =>
      have hi := (sp_nm_lt cnt 0 i hs).2
      have hc := C1.1.2.1
      have hne : ¬ nI i = (-1 : Int32) := by
        intro q
        have : ¬ nI i < 0 := nI_pos (by omega)
        rw [q] at this
        exact this (by decide)
      simp only [sp_ix, hne, if_false, Option.map_some]
      cases ask with
      | true =>
        simp only [show ¬ sp_bi true = 0 by decide, if_false, if_true]
        exact ⟨1, _, w, rfl, R1, by omega, F1, hw, fun h => h, fun h => ⟨h, rfl, rfl, rfl⟩⟩
      | false =>
        simp only [show sp_bi false = 0 from rfl, if_true, Bool.false_eq_true, if_false]
        unfold f_RE_factorB_141
        rw [cv_nof C1.1 (by omega), C1.2.2.2.2]
        exact ⟨nu i, _, w, rfl, R1, by omega, F1, hw, fun h => h, fun h => ⟨h, rfl, rfl, rfl⟩⟩
  · rw [if_neg hW]
    have hW2 : (decide (u < w) && decide (w - u ≤ 12)) = false := by
      rw [← Bool.not_eq_true, Bool.and_eq_true, decide_eq_true_eq, decide_eq_true_eq]; exact hW
    rw [hW2]
    simp only [show sp_bi false = 0 from rfl, if_true]
    unfold f_RE_refuse mz_let
    exact ⟨0, _, w, rfl, ⟨rfl, hR.2.1, by omega, hb⟩, by omega, F1.put _ (by omega), Or.inr rfl, fun _ => rfl, fun _ => rfl⟩
theorem cv_br {n b s0 : Nat} {L : Nat → Int32} {C : mz_St → Prop} {fa : Int32 → mz_St → Option (Int32 × mz_St)} {x1 : Int32} {fac : Int32 → Nat → sp_A} (hn : 10000 ≤ n) (hK : cv_K C) (hCL : ∀ t, C t → mz_gI t 2 = L) (hfa : cv_ok s0 b C (fa x1) fac) (hgo : sp_go b fac 1) (hlen : b ≤ s0 + 3000) :
    cv_ok s0 b C (f_RE_bracketed n fa x1) (fun m q => (sp_va L b fac m q).bind fun r => if sp_at L b (sp_nb L r.2.2 b) = 41 then some (r.1, r.2.1, sp_nb L r.2.2 b + 1) else none) := by
  have hva := cv_va hn hK hCL hfa hgo hlen
  intro t a ha hR hC hw
  obtain ⟨r1, t2, a2, e1, R2, l2, F2, w2, s2, m2⟩ := hva t a ha hR hC hw
  have hL2 := hCL _ (hK _ _ F2 hC)
  have hb := R2.2.2.2
  have hab := R2.2.2.1
  have hnb := sp_nb_le L hab
  unfold f_RE_bracketed
  rw [e1]
  simp only [Option.bind_some]
  by_cases h41 : sp_at L b (sp_nb L a2 b) = 41
  · have tk := cr_take1 (c := 41) hn R2 (by decide) (by rw [hL2]; exact h41)
    rw [hL2] at tk
    rw [tk]
    simp only [Option.bind_some, show ¬ (1 : Int32) = 0 by decide, if_false]
    have hlt := sp_at_lt h41 (by decide)
    refine ⟨r1, _, sp_nb L a2 b + 1, rfl, R2.to (by omega), by omega, F2.put _ (by omega), w2, s2, fun h0 => ?_⟩
    have m2' := m2 h0
    cases hz : sp_va L b fac (mz_gI t 6 7) a with
    | none => rw [hz] at m2'; exact m2'
    | some z =>
      rw [hz] at m2'
      have ha2 : a2 = z.2.2 := m2'.2.2.2
      simp only [Option.bind_some]
      rw [← ha2, if_pos h41]
      exact ⟨m2'.1, m2'.2.1, m2'.2.2.1, rfl⟩
  · have tk := cr_take0 (c := 41) hn R2 (by decide) (by rw [hL2]; exact h41)
    rw [hL2] at tk
    rw [tk]
    simp only [Option.bind_some, if_true]
    unfold f_RE_refuse mz_let
    have R3 : cr_R (mz_pI t2 6 2 (nI (sp_nb L a2 b))) (sp_nb L a2 b) b := R2.to hnb.2
    refine ⟨0, _, sp_nb L a2 b, rfl, ⟨R3.1, R3.2.1, R3.2.2.1, R3.2.2.2⟩, by omega, (F2.put _ (by omega)).put _ (by omega), Or.inr rfl, fun _ => rfl, fun h0 => ?_⟩
    have m2' := m2 h0
    cases hz : sp_va L b fac (mz_gI t 6 7) a with
    | none => exact rfl
    | some z =>
      rw [hz] at m2'
      have ha2 : a2 = z.2.2 := m2'.2.2.2
      simp only [Option.bind_some]
      rw [← ha2, if_neg h41]
      rfl
theorem cv_faB {n cnt b s0 o : Nat} {L ln g nu : Nat → Int32} {fa : Int32 → mz_St → Option (Int32 × mz_St)} {sub : Option (Int32 → Nat → sp_A)} (hn : 10000 ≤ n) (ho : o ≤ 10) (hno : sub = none → o = 10) (hyes : ∀ fac, sub = some fac → o < 10 ∧ cv_ok s0 b (cv_C cnt L ln g nu) (fa (nI (o + 1))) fac ∧ sp_go b fac 1) (hlen : b ≤ s0 + 3000) :
    cv_ok s0 b (cv_C cnt L ln g nu) (f_RE_factorB n fa (nI o)) (sp_faG L b (cv_lv cnt L ln g nu) sub) := by
  intro t a ha hR hC hw
  have hb := hR.2.2.2
  have hab := hR.2.2.1
  have hnb := sp_nb_le L hab
  have hid := sp_nb_id L hab
  have hL := hC.2.1
  unfold f_RE_factorB
  rw [cr_next hn hR, hL]
  simp only [Option.bind_some]
  unfold sp_faG
  have hR1 : cr_R (mz_pI t 6 2 (nI (sp_nb L a b))) (sp_nb L a b) b := hR.to hnb.2
  have F1 : ∀ x, cv_F t (mz_pI t 6 2 x) := fun x => (cv_F.rf t).put x (Or.inl rfl)
  have hL1 : mz_gI (mz_pI t 6 2 (nI (sp_nb L a b))) 2 = L := hL
  have refu : ∃ r t' a', ((f_RE_refuse n (mz_pI t 6 2 (nI (sp_nb L a b)))).bind fun q11 => some (q11.1, q11.2)) = some (r, t') ∧ cr_R t' a' b ∧ a ≤ a' ∧ cv_F t t' ∧ mz_gI t' 6 6 = 1 := by
    unfold f_RE_refuse mz_let
    exact ⟨0, _, sp_nb L a b, rfl, ⟨hR1.1, hR1.2.1, hR1.2.2.1, hR1.2.2.2⟩, hnb.1, (F1 _).put _ (by omega), rfl⟩
  have e1 : nI (sp_nb L a b) + (1 : Int32) = nI (sp_nb L a b + 1) := nI_1 _
  have c10 : sub = none → ¬ nI o < (10 : Int32) := fun h => by rw [hno h]; decide
  have d10 : ∀ fac, sub = some fac → nI o < (10 : Int32) := fun fac h => by
    have := (hyes fac h).1
    exact (pz_lt (b := 10) (by omega) (by decide)).mpr this
  by_cases h45 : sp_at L b (sp_nb L a b) = 45
  · have hlt := sp_at_lt h45 (by decide)
    simp only [h45, if_true]
    unfold f_RE_factorB_17 mz_let
    cases hsub : sub with
    | none =>
      rw [if_neg (c10 hsub)]
      obtain ⟨r, t', a', g1, g2, g3, g4, g5⟩ := refu
      exact ⟨r, t', a', g1, g2, g3, g4, Or.inr g5, fun _ => g5, fun _ => g5⟩
    | some fac =>
      rw [if_pos (d10 fac hsub)]
      obtain ⟨-, hf, -⟩ := hyes fac hsub
      have hR2 : cr_R (mz_pI t 6 2 (nI (sp_nb L a b + 1))) (sp_nb L a b + 1) b := hR.to (by omega)
      obtain ⟨r1, t2, a2, g1, R2, l2, F2, w2, s2, m2⟩ := hf _ _ (by omega) hR2 (cv_CK _ _ (F1 _) hC) hw
      have gg : mz_pI (mz_pI t 6 2 (nI (sp_nb L a b))) 6 2 (mz_gI (mz_pI t 6 2 (nI (sp_nb L a b))) 6 2 + (1 : Int32)) = mz_pI t 6 2 (nI (sp_nb L a b + 1)) := by
        rw [pI_pI]; show mz_pI t 6 2 (nI (sp_nb L a b) + 1) = _; rw [e1]
      simp only [if_true]
      rw [gg, show nI o + (1 : Int32) = nI (o + 1) from nI_1 o, g1]
      refine ⟨-r1, t2, a2, rfl, R2, by omega, (F1 _).tr F2, w2, s2, fun h0 => ?_⟩
      have m2' := m2 h0
      have hm7 : mz_gI (mz_pI t 6 2 (nI (sp_nb L a b + 1))) 6 7 = mz_gI t 6 7 := rfl
      rw [hm7] at m2'
      show match (fac (mz_gI t 6 7) (sp_nb L a b + 1)).bind fun r => some (-r.1, r.2.1, r.2.2) with
        | some z => _
        | none => _
      cases hz : fac (mz_gI t 6 7) (sp_nb L a b + 1) with
      | none => rw [hz] at m2'; exact m2'
      | some z =>
        rw [hz] at m2'
        exact ⟨m2'.1, by rw [m2'.2.1], m2'.2.2.1, m2'.2.2.2⟩
  · simp only [h45, if_false]
    by_cases h40 : sp_at L b (sp_nb L a b) = 40
    · have hlt := sp_at_lt h40 (by decide)
      simp only [h40, if_true]
      unfold f_RE_factorB_17 mz_let
      cases hsub : sub with
      | none =>
        rw [if_neg (c10 hsub)]
        obtain ⟨r, t', a', g1, g2, g3, g4, g5⟩ := refu
        exact ⟨r, t', a', g1, g2, g3, g4, Or.inr g5, fun _ => g5, fun _ => g5⟩
      | some fac =>
        rw [if_pos (d10 fac hsub)]
        simp only [show ¬ (40 : Int32) = 45 by decide, if_false]
        obtain ⟨-, hf, hgo⟩ := hyes fac hsub
        have hbr := cv_br hn cv_CK (fun t h => h.2.1) hf hgo hlen
        have hR2 : cr_R (mz_pI t 6 2 (nI (sp_nb L a b + 1))) (sp_nb L a b + 1) b := hR.to (by omega)
        obtain ⟨r1, t2, a2, g1, R2, l2, F2, w2, s2, m2⟩ := hbr _ _ (by omega) hR2 (cv_CK _ _ (F1 _) hC) hw
        have gg : mz_pI (mz_pI t 6 2 (nI (sp_nb L a b))) 6 2 (mz_gI (mz_pI t 6 2 (nI (sp_nb L a b))) 6 2 + (1 : Int32)) = mz_pI t 6 2 (nI (sp_nb L a b + 1)) := by
          rw [pI_pI]; show mz_pI t 6 2 (nI (sp_nb L a b) + 1) = _; rw [e1]
        rw [gg, show nI o + (1 : Int32) = nI (o + 1) from nI_1 o, g1]
        exact ⟨r1, t2, a2, rfl, R2, by omega, (F1 _).tr F2, w2, s2, m2⟩
    · simp only [h40, if_false, ev_dig, Option.bind_some, sp_bi_0]
      cases hd : sp_d (sp_at L b (sp_nb L a b))
      · simp only [if_true, Bool.false_eq_true, if_false]
        by_cases h63 : sp_at L b (sp_nb L a b) = 63
        · have hlt := sp_at_lt h63 (by decide)
          have tk := cr_take1 (c := 63) hn hR1 (by decide) (by rw [hL1, hid]; exact h63)
          rw [hL1, hid, pI_pI] at tk
          rw [tk]
          simp only [Option.bind_some, h63, if_true]
          have hR2 : cr_R (mz_pI t 6 2 (nI (sp_nb L a b + 1))) (sp_nb L a b + 1) b := hR.to (by omega)
          obtain ⟨r, t', a', g1, g2, g3, g4, g5, g6, g7⟩ := cv_wo (fa := fa) true hn (cv_CK _ _ (F1 _) hC) hR2 hw
          exact ⟨r, t', a', g1, g2, by omega, (F1 _).tr g4, g5, g6, g7⟩
        · have tk := cr_take0 (c := 63) hn hR1 (by decide) (by rw [hL1, hid]; exact h63)
          rw [hL1, hid, pI_pI] at tk
          rw [tk]
          simp only [Option.bind_some, h63, if_false]
          obtain ⟨r, t', a', g1, g2, g3, g4, g5, g6, g7⟩ := cv_wo (fa := fa) false hn (cv_CK _ _ (F1 _) hC) hR1 hw
          exact ⟨r, t', a', g1, g2, by omega, (F1 _).tr g4, g5, g6, g7⟩
      · simp only [if_true, Bool.true_eq_false, if_false]
        have nu' := cv_num hn hR1 (mz_gI t 6 7)
        rw [hL1] at nu'
        rw [nu']
        simp only [Option.bind_some]
        have hdr := sp_dr_le L (b - sp_nb L a b) (sp_nb L a b)
        cases hz : sp_num L b (mz_gI t 6 7) (sp_nb L a b) with
        | none =>
          simp only
          exact ⟨0, _, sp_dr L (b - sp_nb L a b) (sp_nb L a b), rfl, ⟨rfl, hR.2.1, by omega, hb⟩, by omega, (((F1 _).put _ (by omega)).put _ (by omega)), Or.inr rfl, fun _ => rfl, fun _ => rfl⟩
        | some z =>
          simp only
          have p1 := sp_num_p hz
          have p2 := sp_num_m hz
          rw [pI_pI]
          exact ⟨z.1, _, z.2.2, rfl, ⟨rfl, hR.2.1, by omega, hb⟩, by omega, F1 _, hw, fun h => h, fun h => ⟨h, rfl, p2.symm, rfl⟩⟩
theorem cv_fa {n cnt b s0 : Nat} {L ln g nu : Nat → Int32} (hn : 10000 ≤ n) (hlen : b ≤ s0 + 3000) : ∀ d dd, d ≤ 10 → d < dd → cv_ok s0 b (cv_C cnt L ln g nu) (f_RE_factor n dd (nI (10 - d))) (sp_fa L b (cv_lv cnt L ln g nu) d) := by
  intro d
  induction d with
  | zero =>
    intro dd _ hdd
    obtain ⟨d', rfl⟩ : ∃ d', dd = d' + 1 := ⟨dd - 1, by omega⟩
    exact cv_faB hn (by omega) (fun _ => rfl) (fun fac h => nomatch h) hlen
  | succ d ih =>
    intro dd h1 hdd
    obtain ⟨d', rfl⟩ : ∃ d', dd = d' + 1 := ⟨dd - 1, by omega⟩
    refine cv_faB hn (by omega) (fun h => nomatch h) (fun fac h => ?_) hlen
    rw [← Option.some.inj h]
    have := ih d' (by omega) (by omega)
    rw [show 10 - d = 10 - (d + 1) + 1 by omega] at this
    exact ⟨by omega, this, sp_fa_go d⟩
/-- the class reads a value, nothing open around it -/
theorem cv_value {n cnt b s0 : Nat} {L ln g nu : Nat → Int32} (hn : 10000 ≤ n) (hlen : b ≤ s0 + 3000) : cv_ok s0 b (cv_C cnt L ln g nu) (f_RE_readValue n (f_RE_factor n 12) 0) (sp_va L b (sp_fa L b (cv_lv cnt L ln g nu) 10)) :=
  cv_va hn cv_CK (fun t h => h.2.1) (cv_fa hn hlen 10 12 (by omega) (by omega)) (sp_fa_go 10) hlen
