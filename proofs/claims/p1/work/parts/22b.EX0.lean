/-! MacroHouse$Expander.startAnew()V -/
abbrev r_EX_startAnew : Room := { frames := 4, cells := 0, slots := 0, locals := 91 }
def f_EX_startAnew (n : Nat) (t : mz_St) : Option mz_St := (f_SI_partIntoLines n t).bind fun q1 => (f_SK_startAnew n q1).bind fun q3 => (f_OU_clear n q3).bind fun q5 => mz_let (mz_pI q5 15 4 (0 : Int32)) fun t7 => mz_let (mz_pI t7 27 4 (0 : Int32)) fun t8 => mz_let (mz_pI t8 7 5 (0 : Int32)) fun t9 => mz_let (mz_pI t9 5 7 (0 : Int32)) fun t10 => mz_let (mz_pI t10 5 8 (-1 : Int32)) fun t11 => mz_let (mz_pI t11 5 9 (0 : Int32)) fun t12 => mz_let (mz_pI t12 5 10 (0 : Int32)) fun t13 => some t13
set_option maxRecDepth 100000 in
set_option maxHeartbeats 4000000 in
theorem c_EX_startAnew {dC : Nat → ClassId} {dI : Nat → Nat → Nat} {ad en adK adV : Nat → Nat} {tA tS : Nat} {oF : Option Nat} {ca : Nat → ClassId} (hSK : mz_SK (mz_SC ad en adK adV tA tS oF) ad 80) (l : Launch) (n : Nat) (t : mz_St) (res : mz_St) (hf : f_EX_startAnew n t = some res) : mz_C (mz_SC ad en adK adV tA tS oF) mz_tC 80 mz_cl dC dI ad en ca l y_EX_startAnew prog_6_method_3_code 1 none (r_EX_startAnew) [.ref (ad 5)] t none res := by
  unfold f_EX_startAnew at hf
  refine mz_met hSK (by decide) (Nat.le_of_ble_eq_true rfl) ?_
  intro p e s m args below meth c ls E w hl
  obtain ⟨hx, hb, hml, hown, hcx, -, -, hSX, -, -, -⟩ := id E
  have hl : lv_has ls 1 [(0, .ref (ad 5))] := hl
  refine lv_aload_n hx hb d_EX_startAnew_0 rfl (lv_at hl 0 rfl) ?_
  refine mz_get E w 5 0 (v := .ref (ad 1)) (by decide) rfl rfl ii_2 (by decide) (Nat.le_of_ble_eq_true rfl) k_370 rfl d_EX_startAnew_1 ?_
  obtain ⟨q1, hq2, hf⟩ := mz_bd hf
  refine mz_callV E w (k := 1) (As := []) (rest := []) (c_SI_partIntoLines hSK l n t q1 hq2) (by decide) rfl rfl k_446 k_2 k_443 k_444 k_445 hm_SI_partIntoLines ⟨⟨rfl, rfl⟩, Nat.le_of_ble_eq_true rfl, Nat.le_of_ble_eq_true rfl⟩ rfl hl.1 rfl (Nat.le_of_ble_eq_true rfl) d_EX_startAnew_4 ⟨Nat.zero_le _, Nat.zero_le _⟩ (st1 := []) rfl (fun H locs w => ?_)
  refine lv_aload_n hx hb d_EX_startAnew_7 rfl (lv_at hl 0 rfl) ?_
  refine mz_get E w 5 5 (v := .ref (ad 30)) (by decide) rfl rfl ii_2 (by decide) (Nat.le_of_ble_eq_true rfl) k_377 rfl d_EX_startAnew_8 ?_
  obtain ⟨q3, hq4, hf⟩ := mz_bd hf
  refine mz_callV E w (k := 30) (As := []) (rest := []) (c_SK_startAnew hSK l n q1 q3 hq4) (by decide) rfl rfl k_470 k_13 k_467 k_468 k_469 hm_SK_startAnew ⟨⟨rfl, rfl⟩, Nat.le_of_ble_eq_true rfl, Nat.le_of_ble_eq_true rfl⟩ rfl hl.1 rfl (Nat.le_of_ble_eq_true rfl) d_EX_startAnew_11 ⟨Nat.zero_le _, Nat.zero_le _⟩ (st1 := []) rfl (fun H locs w => ?_)
  refine lv_aload_n hx hb d_EX_startAnew_14 rfl (lv_at hl 0 rfl) ?_
  refine mz_get E w 5 6 (v := .ref (ad 32)) (by decide) rfl rfl ii_2 (by decide) (Nat.le_of_ble_eq_true rfl) k_379 rfl d_EX_startAnew_15 ?_
  obtain ⟨q5, hq6, hf⟩ := mz_bd hf
  refine mz_callV E w (k := 32) (As := []) (rest := []) (c_OU_clear hSK l n q3 q5 hq6) (by decide) rfl rfl k_479 k_5 k_476 k_477 k_478 hm_OU_clear ⟨⟨rfl, rfl⟩, Nat.le_of_ble_eq_true rfl, Nat.le_of_ble_eq_true rfl⟩ rfl hl.1 rfl (Nat.le_of_ble_eq_true rfl) d_EX_startAnew_18 ⟨Nat.zero_le _, Nat.zero_le _⟩ (st1 := []) rfl (fun H locs w => ?_)
  refine lv_aload_n hx hb d_EX_startAnew_21 rfl (lv_at hl 0 rfl) ?_
  refine mz_get E w 5 3 (v := .ref (ad 13)) (by decide) rfl rfl ii_2 (by decide) (Nat.le_of_ble_eq_true rfl) k_373 rfl d_EX_startAnew_22 ?_
  refine mz_get E w 13 0 (v := .ref (ad 15)) (by decide) rfl rfl ii_5 (by decide) (Nat.le_of_ble_eq_true rfl) k_162 rfl d_EX_startAnew_25 ?_
  refine lv_iconst (v := (0 : Int32)) hx hb d_EX_startAnew_28 (by decide) ?_
  refine mz_put E w 15 4 (v := (0 : Int32)) (by decide) rfl rfl ii_6 tk_6 nm_6 (by decide) (Nat.le_of_ble_eq_true rfl) k_148 rfl (tk_6 4 (by decide)) rfl rfl rfl d_EX_startAnew_29 (fun H locs w => ?_)
  obtain ⟨t7, e_t7, hf⟩ := mz_lt hf
  rw [← e_t7] at w
  refine lv_aload_n hx hb d_EX_startAnew_32 rfl (lv_at hl 0 rfl) ?_
  refine mz_get E w 5 4 (v := .ref (ad 18)) (by decide) rfl rfl ii_2 (by decide) (Nat.le_of_ble_eq_true rfl) k_375 rfl d_EX_startAnew_33 ?_
  refine mz_get E w 18 1 (v := .ref (ad 27)) (by decide) rfl rfl ii_7 (by decide) (Nat.le_of_ble_eq_true rfl) k_221 rfl d_EX_startAnew_36 ?_
  refine lv_iconst (v := (0 : Int32)) hx hb d_EX_startAnew_39 (by decide) ?_
  refine mz_put E w 27 4 (v := (0 : Int32)) (by decide) rfl rfl ii_6 tk_6 nm_6 (by decide) (Nat.le_of_ble_eq_true rfl) k_148 rfl (tk_6 4 (by decide)) rfl rfl rfl d_EX_startAnew_40 (fun H locs w => ?_)
  obtain ⟨t8, e_t8, hf⟩ := mz_lt hf
  rw [← e_t8] at w
  refine lv_aload_n hx hb d_EX_startAnew_43 rfl (lv_at hl 0 rfl) ?_
  refine mz_get E w 5 2 (v := .ref (ad 7)) (by decide) rfl rfl ii_2 (by decide) (Nat.le_of_ble_eq_true rfl) k_372 rfl d_EX_startAnew_44 ?_
  refine lv_iconst (v := (0 : Int32)) hx hb d_EX_startAnew_47 (by decide) ?_
  refine mz_put E w 7 5 (v := (0 : Int32)) (by decide) rfl rfl ii_4 tk_4 nm_4 (by decide) (Nat.le_of_ble_eq_true rfl) k_79 rfl (tk_4 5 (by decide)) rfl rfl rfl d_EX_startAnew_48 (fun H locs w => ?_)
  obtain ⟨t9, e_t9, hf⟩ := mz_lt hf
  rw [← e_t9] at w
  refine lv_aload_n hx hb d_EX_startAnew_51 rfl (lv_at hl 0 rfl) ?_
  refine lv_iconst (v := (0 : Int32)) hx hb d_EX_startAnew_52 (by decide) ?_
  refine mz_put E w 5 7 (v := (0 : Int32)) (by decide) rfl rfl ii_2 tk_2 nm_2 (by decide) (Nat.le_of_ble_eq_true rfl) k_381 rfl (tk_2 7 (by decide)) rfl rfl rfl d_EX_startAnew_53 (fun H locs w => ?_)
  obtain ⟨t10, e_t10, hf⟩ := mz_lt hf
  rw [← e_t10] at w
  refine lv_aload_n hx hb d_EX_startAnew_56 rfl (lv_at hl 0 rfl) ?_
  refine lv_iconst (v := (-1 : Int32)) hx hb d_EX_startAnew_57 (by decide) ?_
  refine mz_put E w 5 8 (v := (-1 : Int32)) (by decide) rfl rfl ii_2 tk_2 nm_2 (by decide) (Nat.le_of_ble_eq_true rfl) k_383 rfl (tk_2 8 (by decide)) rfl rfl rfl d_EX_startAnew_58 (fun H locs w => ?_)
  obtain ⟨t11, e_t11, hf⟩ := mz_lt hf
  rw [← e_t11] at w
  refine lv_aload_n hx hb d_EX_startAnew_61 rfl (lv_at hl 0 rfl) ?_
  refine lv_iconst (v := (0 : Int32)) hx hb d_EX_startAnew_62 (by decide) ?_
  refine mz_put E w 5 9 (v := (0 : Int32)) (by decide) rfl rfl ii_2 tk_2 nm_2 (by decide) (Nat.le_of_ble_eq_true rfl) k_385 rfl (tk_2 9 (by decide)) rfl rfl rfl d_EX_startAnew_63 (fun H locs w => ?_)
  obtain ⟨t12, e_t12, hf⟩ := mz_lt hf
  rw [← e_t12] at w
  refine lv_aload_n hx hb d_EX_startAnew_66 rfl (lv_at hl 0 rfl) ?_
  refine lv_iconst (v := (0 : Int32)) hx hb d_EX_startAnew_67 (by decide) ?_
  refine mz_put E w 5 10 (v := (0 : Int32)) (by decide) rfl rfl ii_2 tk_2 nm_2 (by decide) (Nat.le_of_ble_eq_true rfl) k_387 rfl (tk_2 10 (by decide)) rfl rfl rfl d_EX_startAnew_68 (fun H locs w => ?_)
  obtain ⟨t13, e_t13, hf⟩ := mz_lt hf
  rw [← e_t13] at w
  obtain rfl := Option.some.inj hf
  exact mz_vret E w rfl d_EX_startAnew_71

/-! MacroHouse$Expander.endRange(LMacroHouse$Frame;)Z -/
abbrev r_EX_endRange : Room := { frames := 4, cells := 0, slots := 0, locals := 91 }
def f_EX_endRange (n : Nat) (x1 : Nat) (t : mz_St) : Option (Int32 × mz_St) := if mz_fr x1 then (if (mz_gI t 7 5) ≤ (mz_gI t x1 6) then (if (mz_gI t 30 4) = 0 then (some ((0 : Int32), t)) else ((f_SK_turn n t).bind fun q3 => some ((1 : Int32), q3))) else (mz_let (mz_pI t 5 7 (5 : Int32)) fun t5 => (f_CO_lineOfInnermost n t5).bind fun q6 => mz_let (mz_pI q6.2 5 8 q6.1) fun t8 => some ((0 : Int32), t8))) else none
set_option maxRecDepth 100000 in
set_option maxHeartbeats 4000000 in
theorem c_EX_endRange {dC : Nat → ClassId} {dI : Nat → Nat → Nat} {ad en adK adV : Nat → Nat} {tA tS : Nat} {oF : Option Nat} {ca : Nat → ClassId} (hSK : mz_SK (mz_SC ad en adK adV tA tS oF) ad 80) (l : Launch) (n : Nat) (x1 : Nat) (t : mz_St) (res : (Int32 × mz_St)) (hf : f_EX_endRange n x1 t = some res) : mz_C (mz_SC ad en adK adV tA tS oF) mz_tC 80 mz_cl dC dI ad en ca l y_EX_endRange prog_6_method_7_code 2 (some (.boolean)) (r_EX_endRange) [.ref (ad 5), .ref (ad x1)] t (some (.int res.1)) res.2 := by
  unfold f_EX_endRange at hf
  obtain ⟨h_x1, hf⟩ := mz_gd hf
  refine mz_met hSK (by decide) (Nat.le_of_ble_eq_true rfl) ?_
  intro p e s m args below meth c ls E w hl
  obtain ⟨hx, hb, hml, hown, hcx, -, -, hSX, -, -, -⟩ := id E
  have hl : lv_has ls 2 [(0, .ref (ad 5)), (1, .ref (ad x1))] := hl
  refine lv_aload_n hx hb d_EX_endRange_0 rfl (lv_at hl 0 rfl) ?_
  refine mz_get E w 5 2 (v := .ref (ad 7)) (by decide) rfl rfl ii_2 (by decide) (Nat.le_of_ble_eq_true rfl) k_372 rfl d_EX_endRange_1 ?_
  refine mz_get E w 7 5 (v := .int (mz_gI t 7 5)) (by decide) rfl rfl ii_4 (by decide) (Nat.le_of_ble_eq_true rfl) k_79 rfl d_EX_endRange_4 ?_
  refine lv_aload_n hx hb d_EX_endRange_7 rfl (lv_at hl 1 rfl) ?_
  refine mz_get E w x1 6 (v := .int (mz_gI t x1 6)) (mz_fN h_x1) (mz_tC_f h_x1) rfl ii_10 (by decide) (Nat.le_of_ble_eq_true rfl) k_286 rfl d_EX_endRange_8 ?_
  refine lv_icmp_le (tgt := 32) hx hb d_EX_endRange_11 (by decide) (fun hc1 => ?_) (fun hc1 => ?_)
  · have hf := mz_t hc1 hf
    refine lv_aload_n hx hb d_EX_endRange_32 rfl (lv_at hl 0 rfl) ?_
    refine mz_get E w 5 5 (v := .ref (ad 30)) (by decide) rfl rfl ii_2 (by decide) (Nat.le_of_ble_eq_true rfl) k_377 rfl d_EX_endRange_33 ?_
    refine mz_get E w 30 4 (v := .int (mz_gI t 30 4)) (by decide) rfl rfl ii_8 (by decide) (Nat.le_of_ble_eq_true rfl) k_336 rfl d_EX_endRange_36 ?_
    refine lv_if_ne (tgt := 44) hx hb d_EX_endRange_39 (by decide) (fun hc2 => ?_) (fun hc2 => ?_)
    · have hf := mz_f hc2 hf
      refine lv_aload_n hx hb d_EX_endRange_44 rfl (lv_at hl 0 rfl) ?_
      refine mz_get E w 5 5 (v := .ref (ad 30)) (by decide) rfl rfl ii_2 (by decide) (Nat.le_of_ble_eq_true rfl) k_377 rfl d_EX_endRange_45 ?_
      obtain ⟨q3, hq4, hf⟩ := mz_bd hf
      refine mz_callV E w (k := 30) (As := []) (rest := []) (c_SK_turn hSK l n t q3 hq4) (by decide) rfl rfl k_504 k_13 k_501 k_502 k_503 hm_SK_turn ⟨⟨rfl, rfl⟩, Nat.le_of_ble_eq_true rfl, Nat.le_of_ble_eq_true rfl⟩ rfl hl.1 rfl (Nat.le_of_ble_eq_true rfl) d_EX_endRange_48 ⟨Nat.zero_le _, Nat.zero_le _⟩ (st1 := []) rfl (fun H locs w => ?_)
      refine lv_iconst (v := (1 : Int32)) hx hb d_EX_endRange_51 (by decide) ?_
      obtain rfl := Option.some.inj hf
      exact mz_zret E w (by decide) rfl d_EX_endRange_52
    · have hf := mz_t hc2 hf
      refine lv_iconst (v := (0 : Int32)) hx hb d_EX_endRange_42 (by decide) ?_
      obtain rfl := Option.some.inj hf
      exact mz_zret E w (by decide) rfl d_EX_endRange_43
  · have hf := mz_f hc1 hf
    refine lv_aload_n hx hb d_EX_endRange_14 rfl (lv_at hl 0 rfl) ?_
    refine lv_iconst (v := (5 : Int32)) hx hb d_EX_endRange_15 (by decide) ?_
    refine mz_put E w 5 7 (v := (5 : Int32)) (by decide) rfl rfl ii_2 tk_2 nm_2 (by decide) (Nat.le_of_ble_eq_true rfl) k_381 rfl (tk_2 7 (by decide)) rfl rfl rfl d_EX_endRange_16 (fun H locs w => ?_)
    obtain ⟨t5, e_t5, hf⟩ := mz_lt hf
    rw [← e_t5] at w
    refine lv_aload_n hx hb d_EX_endRange_19 rfl (lv_at hl 0 rfl) ?_
    refine lv_aload_n hx hb d_EX_endRange_20 rfl (lv_at hl 0 rfl) ?_
    refine mz_get E w 5 2 (v := .ref (ad 7)) (by decide) rfl rfl ii_2 (by decide) (Nat.le_of_ble_eq_true rfl) k_372 rfl d_EX_endRange_21 ?_
    obtain ⟨q6, hq7, hf⟩ := mz_bd hf
    refine mz_callV E w (k := 7) (As := []) (rest := [.ref (ad 5)]) (c_CO_lineOfInnermost hSK l n t5 q6 hq7) (by decide) rfl rfl k_496 k_4 k_493 k_494 k_495 hm_CO_lineOfInnermost ⟨⟨rfl, rfl⟩, Nat.le_of_ble_eq_true rfl, Nat.le_of_ble_eq_true rfl⟩ rfl hl.1 rfl (Nat.le_of_ble_eq_true rfl) d_EX_endRange_24 ⟨Nat.zero_le _, Nat.zero_le _⟩ (st1 := [.int q6.1, .ref (ad 5)]) rfl (fun H locs w => ?_)
    refine mz_put E w 5 8 (v := q6.1) (by decide) rfl rfl ii_2 tk_2 nm_2 (by decide) (Nat.le_of_ble_eq_true rfl) k_383 rfl (tk_2 8 (by decide)) rfl rfl rfl d_EX_endRange_27 (fun H locs w => ?_)
    obtain ⟨t8, e_t8, hf⟩ := mz_lt hf
    rw [← e_t8] at w
    refine lv_iconst (v := (0 : Int32)) hx hb d_EX_endRange_30 (by decide) ?_
    obtain rfl := Option.some.inj hf
    exact mz_zret E w (by decide) rfl d_EX_endRange_31

/-! MacroHouse$Expander.toldLine()I -/
abbrev r_EX_toldLine : Room := { frames := 0, cells := 0, slots := 0, locals := 0 }
def f_EX_toldLine (n : Nat) (t : mz_St) : Option (Int32 × mz_St) := if (mz_gI t 30 4) = 0 then (some ((mz_gI t 5 11), t)) else (some ((mz_gI t 30 6), t))
set_option maxRecDepth 100000 in
set_option maxHeartbeats 4000000 in
theorem c_EX_toldLine {SX : State → Heap → Prop} {dC : Nat → ClassId} {dI : Nat → Nat → Nat} {ad en : Nat → Nat} {ca : Nat → ClassId} (hSK : mz_SK SX ad 80) (l : Launch) (n : Nat) (t : mz_St) (res : (Int32 × mz_St)) (hf : f_EX_toldLine n t = some res) : mz_C SX mz_tC 80 mz_cl dC dI ad en ca l y_EX_toldLine prog_6_method_4_code 1 (some (.int)) (r_EX_toldLine) [.ref (ad 5)] t (some (.int res.1)) res.2 := by
  unfold f_EX_toldLine at hf
  refine mz_met hSK (by decide) (Nat.le_of_ble_eq_true rfl) ?_
  intro p e s m args below meth c ls E w hl
  obtain ⟨hx, hb, hml, hown, hcx, -, -, hSX, -, -, -⟩ := id E
  have hl : lv_has ls 1 [(0, .ref (ad 5))] := hl
  refine lv_aload_n hx hb d_EX_toldLine_0 rfl (lv_at hl 0 rfl) ?_
  refine mz_get E w 5 5 (v := .ref (ad 30)) (by decide) rfl rfl ii_2 (by decide) (Nat.le_of_ble_eq_true rfl) k_377 rfl d_EX_toldLine_1 ?_
  refine mz_get E w 30 4 (v := .int (mz_gI t 30 4)) (by decide) rfl rfl ii_8 (by decide) (Nat.le_of_ble_eq_true rfl) k_336 rfl d_EX_toldLine_4 ?_
  refine lv_if_ne (tgt := 17) hx hb d_EX_toldLine_7 (by decide) (fun hc1 => ?_) (fun hc1 => ?_)
  · have hf := mz_f hc1 hf
    refine lv_aload_n hx hb d_EX_toldLine_17 rfl (lv_at hl 0 rfl) ?_
    refine mz_get E w 5 5 (v := .ref (ad 30)) (by decide) rfl rfl ii_2 (by decide) (Nat.le_of_ble_eq_true rfl) k_377 rfl d_EX_toldLine_18 ?_
    refine mz_get E w 30 6 (v := .int (mz_gI t 30 6)) (by decide) rfl rfl ii_8 (by decide) (Nat.le_of_ble_eq_true rfl) k_339 rfl d_EX_toldLine_21 ?_
    obtain rfl := Option.some.inj hf
    exact mz_iret E w rfl d_EX_toldLine_24
  · have hf := mz_t hc1 hf
    refine lv_aload_n hx hb d_EX_toldLine_10 rfl (lv_at hl 0 rfl) ?_
    refine mz_get E w 5 11 (v := .int (mz_gI t 5 11)) (by decide) rfl rfl ii_2 (by decide) (Nat.le_of_ble_eq_true rfl) k_389 rfl d_EX_toldLine_11 ?_
    refine lv_goto (tgt := 24) hx hb d_EX_toldLine_14 (by decide) ?_
    obtain rfl := Option.some.inj hf
    exact mz_iret E w rfl d_EX_toldLine_24

/-! MacroHouse$Expander.fail(I)Z -/
abbrev r_EX_fail : Room := { frames := 1, cells := 0, slots := 0, locals := 20 }
def f_EX_fail (n : Nat) (x1 : Int32) (t : mz_St) : Option (Int32 × mz_St) := mz_let (mz_pI t 5 7 x1) fun t1 => (f_EX_toldLine n t1).bind fun q2 => mz_let (mz_pI q2.2 5 8 q2.1) fun t4 => some ((0 : Int32), t4)
set_option maxRecDepth 100000 in
set_option maxHeartbeats 4000000 in
theorem c_EX_fail {SX : State → Heap → Prop} {dC : Nat → ClassId} {dI : Nat → Nat → Nat} {ad en : Nat → Nat} {ca : Nat → ClassId} (hSK : mz_SK SX ad 80) (l : Launch) (n : Nat) (x1 : Int32) (t : mz_St) (res : (Int32 × mz_St)) (hf : f_EX_fail n x1 t = some res) : mz_C SX mz_tC 80 mz_cl dC dI ad en ca l y_EX_fail prog_6_method_5_code 2 (some (.boolean)) (r_EX_fail) [.ref (ad 5), .int x1] t (some (.int res.1)) res.2 := by
  unfold f_EX_fail at hf
  refine mz_met hSK (by decide) (Nat.le_of_ble_eq_true rfl) ?_
  intro p e s m args below meth c ls E w hl
  obtain ⟨hx, hb, hml, hown, hcx, -, -, hSX, -, -, -⟩ := id E
  have hl : lv_has ls 2 [(0, .ref (ad 5)), (1, .int x1)] := hl
  refine lv_aload_n hx hb d_EX_fail_0 rfl (lv_at hl 0 rfl) ?_
  refine lv_iload_n hx hb d_EX_fail_1 rfl (lv_at hl 1 rfl) ?_
  refine mz_put E w 5 7 (v := x1) (by decide) rfl rfl ii_2 tk_2 nm_2 (by decide) (Nat.le_of_ble_eq_true rfl) k_381 rfl (tk_2 7 (by decide)) rfl rfl rfl d_EX_fail_2 (fun H locs w => ?_)
  obtain ⟨t1, e_t1, hf⟩ := mz_lt hf
  rw [← e_t1] at w
  refine lv_aload_n hx hb d_EX_fail_5 rfl (lv_at hl 0 rfl) ?_
  refine lv_aload_n hx hb d_EX_fail_6 rfl (lv_at hl 0 rfl) ?_
  obtain ⟨q2, hq3, hf⟩ := mz_bd hf
  refine mz_callV E w (k := 5) (As := []) (rest := [.ref (ad 5)]) (c_EX_toldLine hSK l n t1 q2 hq3) (by decide) rfl rfl k_541 k_3 k_538 k_540 ks_8 hm_EX_toldLine ⟨⟨rfl, rfl⟩, Nat.le_of_ble_eq_true rfl, Nat.le_of_ble_eq_true rfl⟩ rfl hl.1 rfl (Nat.le_of_ble_eq_true rfl) d_EX_fail_7 ⟨Nat.zero_le _, Nat.zero_le _⟩ (st1 := [.int q2.1, .ref (ad 5)]) rfl (fun H locs w => ?_)
  refine mz_put E w 5 8 (v := q2.1) (by decide) rfl rfl ii_2 tk_2 nm_2 (by decide) (Nat.le_of_ble_eq_true rfl) k_383 rfl (tk_2 8 (by decide)) rfl rfl rfl d_EX_fail_10 (fun H locs w => ?_)
  obtain ⟨t4, e_t4, hf⟩ := mz_lt hf
  rw [← e_t4] at w
  refine lv_iconst (v := (0 : Int32)) hx hb d_EX_fail_13 (by decide) ?_
  obtain rfl := Option.some.inj hf
  exact mz_zret E w (by decide) rfl d_EX_fail_14

/-! MacroHouse$Expander.look(LMacroHouse$Frame;)Z -/
abbrev r_EX_look : Room := { frames := 2, cells := 0, slots := 0, locals := 41 }
def f_EX_look (n : Nat) (x1 : Nat) (t : mz_St) : Option (Int32 × mz_St) := if mz_fr x1 then (mz_let (mz_pI t 5 11 (mz_gI t x1 3)) fun t1 => if (mz_gI t1 5 9) < (4000 : Int32) then (mz_let (mz_pI t1 5 9 ((mz_gI t1 5 9) + (1 : Int32))) fun t3 => mz_let (mz_pI t3 x1 3 ((mz_gI t3 x1 3) + (1 : Int32))) fun t4 => some ((1 : Int32), t4)) else ((f_EX_fail n (6 : Int32) t1).bind fun q5 => if q5.1 = 0 ∨ q5.1 = 1 then (some (q5.1, q5.2)) else none)) else none
set_option maxRecDepth 100000 in
set_option maxHeartbeats 4000000 in
theorem c_EX_look {SX : State → Heap → Prop} {dC : Nat → ClassId} {dI : Nat → Nat → Nat} {ad en : Nat → Nat} {ca : Nat → ClassId} (hSK : mz_SK SX ad 80) (l : Launch) (n : Nat) (x1 : Nat) (t : mz_St) (res : (Int32 × mz_St)) (hf : f_EX_look n x1 t = some res) : mz_C SX mz_tC 80 mz_cl dC dI ad en ca l y_EX_look prog_6_method_6_code 2 (some (.boolean)) (r_EX_look) [.ref (ad 5), .ref (ad x1)] t (some (.int res.1)) res.2 := by
  unfold f_EX_look at hf
  obtain ⟨h_x1, hf⟩ := mz_gd hf
  refine mz_met hSK (by decide) (Nat.le_of_ble_eq_true rfl) ?_
  intro p e s m args below meth c ls E w hl
  obtain ⟨hx, hb, hml, hown, hcx, -, -, hSX, -, -, -⟩ := id E
  have hl : lv_has ls 2 [(0, .ref (ad 5)), (1, .ref (ad x1))] := hl
  refine lv_aload_n hx hb d_EX_look_0 rfl (lv_at hl 0 rfl) ?_
  refine lv_aload_n hx hb d_EX_look_1 rfl (lv_at hl 1 rfl) ?_
  refine mz_get E w x1 3 (v := .int (mz_gI t x1 3)) (mz_fN h_x1) (mz_tC_f h_x1) rfl ii_10 (by decide) (Nat.le_of_ble_eq_true rfl) k_279 rfl d_EX_look_2 ?_
  refine mz_put E w 5 11 (v := (mz_gI t x1 3)) (by decide) rfl rfl ii_2 tk_2 nm_2 (by decide) (Nat.le_of_ble_eq_true rfl) k_389 rfl (tk_2 11 (by decide)) rfl rfl rfl d_EX_look_5 (fun H locs w => ?_)
  obtain ⟨t1, e_t1, hf⟩ := mz_lt hf
  rw [← e_t1] at w
  refine lv_aload_n hx hb d_EX_look_8 rfl (lv_at hl 0 rfl) ?_
  refine mz_get E w 5 9 (v := .int (mz_gI t1 5 9)) (by decide) rfl rfl ii_2 (by decide) (Nat.le_of_ble_eq_true rfl) k_385 rfl d_EX_look_9 ?_
  refine lv_sipush (v := (4000 : Int32)) hx hb d_EX_look_12 (by decide) ?_
  refine lv_icmp_lt (tgt := 25) hx hb d_EX_look_15 (by decide) (fun hc2 => ?_) (fun hc2 => ?_)
  · have hf := mz_t hc2 hf
    refine lv_aload_n hx hb d_EX_look_25 rfl (lv_at hl 0 rfl) ?_
    refine lv_dup hx hb d_EX_look_26 rfl ?_
    refine mz_get E w 5 9 (v := .int (mz_gI t1 5 9)) (by decide) rfl rfl ii_2 (by decide) (Nat.le_of_ble_eq_true rfl) k_385 rfl d_EX_look_27 ?_
    refine lv_iconst (v := (1 : Int32)) hx hb d_EX_look_30 (by decide) ?_
    refine lv_iadd hx hb d_EX_look_31 ?_
    refine mz_put E w 5 9 (v := ((mz_gI t1 5 9) + (1 : Int32))) (by decide) rfl rfl ii_2 tk_2 nm_2 (by decide) (Nat.le_of_ble_eq_true rfl) k_385 rfl (tk_2 9 (by decide)) rfl rfl rfl d_EX_look_32 (fun H locs w => ?_)
    obtain ⟨t3, e_t3, hf⟩ := mz_lt hf
    rw [← e_t3] at w
    refine lv_aload_n hx hb d_EX_look_35 rfl (lv_at hl 1 rfl) ?_
    refine lv_dup hx hb d_EX_look_36 rfl ?_
    refine mz_get E w x1 3 (v := .int (mz_gI t3 x1 3)) (mz_fN h_x1) (mz_tC_f h_x1) rfl ii_10 (by decide) (Nat.le_of_ble_eq_true rfl) k_279 rfl d_EX_look_37 ?_
    refine lv_iconst (v := (1 : Int32)) hx hb d_EX_look_40 (by decide) ?_
    refine lv_iadd hx hb d_EX_look_41 ?_
    refine mz_put E w x1 3 (v := ((mz_gI t3 x1 3) + (1 : Int32))) (mz_fN h_x1) (mz_tC_f h_x1) rfl ii_10 tk_10 nm_10 (by decide) (Nat.le_of_ble_eq_true rfl) k_279 rfl (tk_10 3 (by decide)) rfl rfl rfl d_EX_look_42 (fun H locs w => ?_)
    obtain ⟨t4, e_t4, hf⟩ := mz_lt hf
    rw [← e_t4] at w
    refine lv_iconst (v := (1 : Int32)) hx hb d_EX_look_45 (by decide) ?_
    obtain rfl := Option.some.inj hf
    exact mz_zret E w (by decide) rfl d_EX_look_46
  · have hf := mz_f hc2 hf
    refine lv_aload_n hx hb d_EX_look_18 rfl (lv_at hl 0 rfl) ?_
    refine lv_bipush (v := (6 : Int32)) hx hb d_EX_look_19 (by decide) ?_
    obtain ⟨q5, hq6, hf⟩ := mz_bd hf
    refine mz_callV E w (k := 5) (As := [.int (6 : Int32)]) (rest := []) (c_EX_fail hSK l n (6 : Int32) t1 q5 hq6) (by decide) rfl rfl k_537 k_3 k_534 k_536 ks_7 hm_EX_fail ⟨⟨rfl, rfl⟩, Nat.le_of_ble_eq_true rfl, Nat.le_of_ble_eq_true rfl⟩ rfl hl.1 rfl (Nat.le_of_ble_eq_true rfl) d_EX_look_21 ⟨Nat.zero_le _, Nat.zero_le _⟩ (st1 := [.int q5.1]) rfl (fun H locs w => ?_)
    obtain ⟨hz7, hf⟩ := mz_gd hf
    obtain rfl := Option.some.inj hf
    exact mz_zret E w (mz_b01 hz7) rfl d_EX_look_24

/-! MacroHouse$Expander.takeLine()Z -/
abbrev r_EX_takeLine : Room := { frames := 6, cells := 0, slots := 0, locals := 133 }
def f_EX_takeLine_86 (n : Nat) (x1 : Int32) (s0 : Int32) (t : mz_St) : Option (Int32 × mz_St) := if (mz_gI t 30 4) = 0 then (some ((1 : Int32), t)) else (if s0 = 0 then (some ((1 : Int32), t)) else ((f_SK_replace n (mz_gI t 5 12) (mz_gI t 5 13) t).bind fun q15 => if q15.1 = 0 then ((f_SI_behindBlanks n (mz_gI q15.2 30 7) (mz_gI q15.2 30 8) q15.2).bind fun q18 => mz_let (mz_pI q18.2 5 12 q18.1) fun t20 => (f_SI_aheadOfBlanks n (mz_gI t20 5 12) (mz_gI t20 30 8) t20).bind fun q21 => mz_let (mz_pI q21.2 5 13 q21.1) fun t23 => if x1 = 0 then (some ((1 : Int32), t23)) else ((f_DI_of n (mz_gI t23 5 12) (mz_gI t23 5 13) t23).bind fun q25 => mz_let (mz_pI q25.2 5 14 q25.1) fun t27 => some ((1 : Int32), t27))) else ((f_EX_fail n q15.1 q15.2).bind fun q28 => if q28.1 = 0 ∨ q28.1 = 1 then (some (q28.1, q28.2)) else none)))
def f_EX_takeLine_81 (n : Nat) (x1 : Int32) (t : mz_St) : Option (Int32 × mz_St) := f_EX_takeLine_86 n x1 (1 : Int32) t
def f_EX_takeLine_85 (n : Nat) (x1 : Int32) (t : mz_St) : Option (Int32 × mz_St) := f_EX_takeLine_86 n x1 (0 : Int32) t
def f_EX_takeLine (n : Nat) (t : mz_St) : Option (Int32 × mz_St) := (f_CO_live n t).bind fun q1 => (f_SI_startOf n (mz_gI q1.2 5 11) q1.2).bind fun q3 => mz_let (mz_pI q3.2 5 12 q3.1) fun t5 => (f_SI_stopOf n (mz_gI t5 5 11) t5).bind fun q6 => mz_let (mz_pI q6.2 5 13 q6.1) fun t8 => (f_DI_of n (mz_gI t8 5 12) (mz_gI t8 5 13) t8).bind fun q9 => mz_let (mz_pI q9.2 5 14 q9.1) fun t11 => if q1.1 = 0 then (if (mz_gI t11 5 14).toNatClampNeg < 16 ∧ (6 : Int32).toNatClampNeg < 16 then (if (mz_gI t11 5 14).toNatClampNeg = (6 : Int32).toNatClampNeg then ((f_CO_waits n t11).bind fun q33 => if q33.1 = 0 then (f_EX_takeLine_85 n q1.1 q33.2) else (f_EX_takeLine_81 n q1.1 q33.2)) else (f_EX_takeLine_85 n q1.1 t11)) else none) else (f_EX_takeLine_81 n q1.1 t11)
set_option maxRecDepth 100000 in
set_option maxHeartbeats 4000000 in
theorem b_EX_takeLine_86 {dC : Nat → ClassId} {dI : Nat → Nat → Nat} {ad en adK adV : Nat → Nat} {tA tS : Nat} {oF : Option Nat} {ca : Nat → ClassId} {p : Program} {l : Launch} {e : Env} {s : State} {m : MethodId} {args : Array Value} {below : List Frame} {meth : Method} {c : Code} {res : (Int32 × mz_St)} (E : mz_En (mz_SC ad en adK adV tA tS oF) 80 mz_cl dC dI ad ca p s m meth c prog_6_method_8_code 4 "MacroHouse$Expander" (some (.boolean))) (n : Nat) : ∀ (x1 : Int32) (s0 : Int32) (t : mz_St), f_EX_takeLine_86 n x1 s0 t = some res → ∀ (H : Heap) (locs : List Loc) (ls : Array Slot), mz_Wd mz_tC 80 mz_cl dC dI ad en ca s t H locs → lv_has ls 4 [(0, .ref (ad 5)), (1, .int x1)] → W p l e (r_EX_takeLine) s m args below meth c H locs 0 0 (MQ below (mz_Q (mz_SC ad en adK adV tA tS oF) mz_tC 80 mz_cl dC dI ad en ca (some (.int res.1)) res.2) args s 0 0 (mz_A ad 80)) (F0 m 86 ls [.int s0]) := by
  obtain ⟨hx, hb, hml, hown, hcx, -, -, hSX, -, -, hSK⟩ := id E
  intro x1 s0 t hf H locs ls w hl
  unfold f_EX_takeLine_86 at hf
  refine lv_istore_n (lv' := [(2, .int s0), (0, .ref (ad 5)), (1, .int x1)]) hx hb d_EX_takeLine_86 rfl hl (by decide) rfl (fun ls hl => ?_)
  refine lv_aload_n hx hb d_EX_takeLine_87 rfl (lv_at hl 1 rfl) ?_
  refine mz_get E w 5 5 (v := .ref (ad 30)) (by decide) rfl rfl ii_2 (by decide) (Nat.le_of_ble_eq_true rfl) k_377 rfl d_EX_takeLine_88 ?_
  refine mz_get E w 30 4 (v := .int (mz_gI t 30 4)) (by decide) rfl rfl ii_8 (by decide) (Nat.le_of_ble_eq_true rfl) k_336 rfl d_EX_takeLine_91 ?_
  refine lv_if_eq (tgt := 101) hx hb d_EX_takeLine_94 (by decide) (fun hc13 => ?_) (fun hc13 => ?_)
  · have hf := mz_t hc13 hf
    refine lv_iconst (v := (1 : Int32)) hx hb d_EX_takeLine_101 (by decide) ?_
    obtain rfl := Option.some.inj hf
    exact mz_zret E w (by decide) rfl d_EX_takeLine_102
  · have hf := mz_f hc13 hf
    refine lv_iload_n hx hb d_EX_takeLine_97 rfl (lv_at hl 0 rfl) ?_
    refine lv_if_ne (tgt := 103) hx hb d_EX_takeLine_98 (by decide) (fun hc14 => ?_) (fun hc14 => ?_)
    · have hf := mz_f hc14 hf
      refine lv_aload_n hx hb d_EX_takeLine_103 rfl (lv_at hl 1 rfl) ?_
      refine mz_get E w 5 5 (v := .ref (ad 30)) (by decide) rfl rfl ii_2 (by decide) (Nat.le_of_ble_eq_true rfl) k_377 rfl d_EX_takeLine_104 ?_
      refine lv_aload_n hx hb d_EX_takeLine_107 rfl (lv_at hl 1 rfl) ?_
      refine mz_get E w 5 12 (v := .int (mz_gI t 5 12)) (by decide) rfl rfl ii_2 (by decide) (Nat.le_of_ble_eq_true rfl) k_390 rfl d_EX_takeLine_108 ?_
      refine lv_aload_n hx hb d_EX_takeLine_111 rfl (lv_at hl 1 rfl) ?_
      refine mz_get E w 5 13 (v := .int (mz_gI t 5 13)) (by decide) rfl rfl ii_2 (by decide) (Nat.le_of_ble_eq_true rfl) k_391 rfl d_EX_takeLine_112 ?_
      obtain ⟨q15, hq16, hf⟩ := mz_bd hf
      refine mz_callV E w (k := 30) (As := [.int (mz_gI t 5 12), .int (mz_gI t 5 13)]) (rest := []) (c_SK_replace hSK l n (mz_gI t 5 12) (mz_gI t 5 13) t q15 hq16) (by decide) rfl rfl k_638 k_13 k_635 k_636 k_637 hm_SK_replace ⟨⟨rfl, rfl⟩, Nat.le_of_ble_eq_true rfl, Nat.le_of_ble_eq_true rfl⟩ rfl hl.1 rfl (Nat.le_of_ble_eq_true rfl) d_EX_takeLine_115 ⟨Nat.zero_le _, Nat.zero_le _⟩ (st1 := [.int q15.1]) rfl (fun H locs w => ?_)
      refine lv_istore_n (lv' := [(3, .int q15.1), (2, .int s0), (0, .ref (ad 5)), (1, .int x1)]) hx hb d_EX_takeLine_118 rfl hl (by decide) rfl (fun ls hl => ?_)
      refine lv_iload_n hx hb d_EX_takeLine_119 rfl (lv_at hl 0 rfl) ?_
      refine lv_if_eq (tgt := 129) hx hb d_EX_takeLine_120 (by decide) (fun hc17 => ?_) (fun hc17 => ?_)
      · have hf := mz_t hc17 hf
        refine lv_aload_n hx hb d_EX_takeLine_129 rfl (lv_at hl 2 rfl) ?_
        refine lv_aload_n hx hb d_EX_takeLine_130 rfl (lv_at hl 2 rfl) ?_
        refine mz_get E w 5 0 (v := .ref (ad 1)) (by decide) rfl rfl ii_2 (by decide) (Nat.le_of_ble_eq_true rfl) k_370 rfl d_EX_takeLine_131 ?_
        refine lv_aload_n hx hb d_EX_takeLine_134 rfl (lv_at hl 2 rfl) ?_
        refine mz_get E w 5 5 (v := .ref (ad 30)) (by decide) rfl rfl ii_2 (by decide) (Nat.le_of_ble_eq_true rfl) k_377 rfl d_EX_takeLine_135 ?_
        refine mz_get E w 30 7 (v := .int (mz_gI q15.2 30 7)) (by decide) rfl rfl ii_8 (by decide) (Nat.le_of_ble_eq_true rfl) k_341 rfl d_EX_takeLine_138 ?_
        refine lv_aload_n hx hb d_EX_takeLine_141 rfl (lv_at hl 2 rfl) ?_
        refine mz_get E w 5 5 (v := .ref (ad 30)) (by decide) rfl rfl ii_2 (by decide) (Nat.le_of_ble_eq_true rfl) k_377 rfl d_EX_takeLine_142 ?_
        refine mz_get E w 30 8 (v := .int (mz_gI q15.2 30 8)) (by decide) rfl rfl ii_8 (by decide) (Nat.le_of_ble_eq_true rfl) k_343 rfl d_EX_takeLine_145 ?_
        obtain ⟨q18, hq19, hf⟩ := mz_bd hf
        refine mz_callV E w (k := 1) (As := [.int (mz_gI q15.2 30 7), .int (mz_gI q15.2 30 8)]) (rest := [.ref (ad 5)]) (c_SI_behindBlanks hSK l n (mz_gI q15.2 30 7) (mz_gI q15.2 30 8) q15.2 q18 hq19) (by decide) rfl rfl k_462 k_2 k_700 k_460 k_461 hm_SI_behindBlanks ⟨⟨rfl, rfl⟩, Nat.le_of_ble_eq_true rfl, Nat.le_of_ble_eq_true rfl⟩ rfl hl.1 rfl (Nat.le_of_ble_eq_true rfl) d_EX_takeLine_148 ⟨Nat.zero_le _, Nat.zero_le _⟩ (st1 := [.int q18.1, .ref (ad 5)]) rfl (fun H locs w => ?_)
        refine mz_put E w 5 12 (v := q18.1) (by decide) rfl rfl ii_2 tk_2 nm_2 (by decide) (Nat.le_of_ble_eq_true rfl) k_390 rfl (tk_2 12 (by decide)) rfl rfl rfl d_EX_takeLine_151 (fun H locs w => ?_)
        obtain ⟨t20, e_t20, hf⟩ := mz_lt hf
        rw [← e_t20] at w
        refine lv_aload_n hx hb d_EX_takeLine_154 rfl (lv_at hl 2 rfl) ?_
        refine lv_aload_n hx hb d_EX_takeLine_155 rfl (lv_at hl 2 rfl) ?_
        refine mz_get E w 5 0 (v := .ref (ad 1)) (by decide) rfl rfl ii_2 (by decide) (Nat.le_of_ble_eq_true rfl) k_370 rfl d_EX_takeLine_156 ?_
        refine lv_aload_n hx hb d_EX_takeLine_159 rfl (lv_at hl 2 rfl) ?_
        refine mz_get E w 5 12 (v := .int (mz_gI t20 5 12)) (by decide) rfl rfl ii_2 (by decide) (Nat.le_of_ble_eq_true rfl) k_390 rfl d_EX_takeLine_160 ?_
        refine lv_aload_n hx hb d_EX_takeLine_163 rfl (lv_at hl 2 rfl) ?_
        refine mz_get E w 5 5 (v := .ref (ad 30)) (by decide) rfl rfl ii_2 (by decide) (Nat.le_of_ble_eq_true rfl) k_377 rfl d_EX_takeLine_164 ?_
        refine mz_get E w 30 8 (v := .int (mz_gI t20 30 8)) (by decide) rfl rfl ii_8 (by decide) (Nat.le_of_ble_eq_true rfl) k_343 rfl d_EX_takeLine_167 ?_
        obtain ⟨q21, hq22, hf⟩ := mz_bd hf
        refine mz_callV E w (k := 1) (As := [.int (mz_gI t20 5 12), .int (mz_gI t20 30 8)]) (rest := [.ref (ad 5)]) (c_SI_aheadOfBlanks hSK l n (mz_gI t20 5 12) (mz_gI t20 30 8) t20 q21 hq22) (by decide) rfl rfl k_466 k_2 k_701 k_464 k_465 hm_SI_aheadOfBlanks ⟨⟨rfl, rfl⟩, Nat.le_of_ble_eq_true rfl, Nat.le_of_ble_eq_true rfl⟩ rfl hl.1 rfl (Nat.le_of_ble_eq_true rfl) d_EX_takeLine_170 ⟨Nat.zero_le _, Nat.zero_le _⟩ (st1 := [.int q21.1, .ref (ad 5)]) rfl (fun H locs w => ?_)
        refine mz_put E w 5 13 (v := q21.1) (by decide) rfl rfl ii_2 tk_2 nm_2 (by decide) (Nat.le_of_ble_eq_true rfl) k_391 rfl (tk_2 13 (by decide)) rfl rfl rfl d_EX_takeLine_173 (fun H locs w => ?_)
        obtain ⟨t23, e_t23, hf⟩ := mz_lt hf
        rw [← e_t23] at w
        refine lv_iload_n hx hb d_EX_takeLine_176 rfl (lv_at hl 3 rfl) ?_
        refine lv_if_eq (tgt := 199) hx hb d_EX_takeLine_177 (by decide) (fun hc24 => ?_) (fun hc24 => ?_)
        · have hf := mz_t hc24 hf
          refine lv_iconst (v := (1 : Int32)) hx hb d_EX_takeLine_199 (by decide) ?_
          obtain rfl := Option.some.inj hf
          exact mz_zret E w (by decide) rfl d_EX_takeLine_200
        · have hf := mz_f hc24 hf
          refine lv_aload_n hx hb d_EX_takeLine_180 rfl (lv_at hl 2 rfl) ?_
          refine lv_aload_n hx hb d_EX_takeLine_181 rfl (lv_at hl 2 rfl) ?_
          refine mz_get E w 5 0 (v := .ref (ad 1)) (by decide) rfl rfl ii_2 (by decide) (Nat.le_of_ble_eq_true rfl) k_370 rfl d_EX_takeLine_182 ?_
          refine lv_aload_n hx hb d_EX_takeLine_185 rfl (lv_at hl 2 rfl) ?_
          refine mz_get E w 5 12 (v := .int (mz_gI t23 5 12)) (by decide) rfl rfl ii_2 (by decide) (Nat.le_of_ble_eq_true rfl) k_390 rfl d_EX_takeLine_186 ?_
          refine lv_aload_n hx hb d_EX_takeLine_189 rfl (lv_at hl 2 rfl) ?_
          refine mz_get E w 5 13 (v := .int (mz_gI t23 5 13)) (by decide) rfl rfl ii_2 (by decide) (Nat.le_of_ble_eq_true rfl) k_391 rfl d_EX_takeLine_190 ?_
          obtain ⟨q25, hq26, hf⟩ := mz_bd hf
          refine mz_callS E w (As := [.ref (ad 1), .int (mz_gI t23 5 12), .int (mz_gI t23 5 13)]) (rest := [.ref (ad 5)]) (c_DI_of hSK l n (mz_gI t23 5 12) (mz_gI t23 5 13) t23 q25 hq26) k_560 k_7 k_558 k_559 hm_DI_of ⟨⟨rfl, rfl⟩, Nat.le_of_ble_eq_true rfl, Nat.le_of_ble_eq_true rfl⟩ rfl hl.1 rfl (Nat.le_of_ble_eq_true rfl) d_EX_takeLine_193 ⟨Nat.zero_le _, Nat.zero_le _⟩ (st1 := [.ref (en q25.1.toNatClampNeg), .ref (ad 5)]) rfl (fun H locs w => ?_)
          refine mz_put E w 5 14 (v := q25.1) (by decide) rfl rfl ii_2 tk_2 nm_2 (by decide) (Nat.le_of_ble_eq_true rfl) k_392 rfl (tk_2 14 (by decide)) rfl rfl rfl d_EX_takeLine_196 (fun H locs w => ?_)
          obtain ⟨t27, e_t27, hf⟩ := mz_lt hf
          rw [← e_t27] at w
          refine lv_iconst (v := (1 : Int32)) hx hb d_EX_takeLine_199 (by decide) ?_
          obtain rfl := Option.some.inj hf
          exact mz_zret E w (by decide) rfl d_EX_takeLine_200
      · have hf := mz_f hc17 hf
        refine lv_aload_n hx hb d_EX_takeLine_123 rfl (lv_at hl 2 rfl) ?_
        refine lv_iload_n hx hb d_EX_takeLine_124 rfl (lv_at hl 0 rfl) ?_
        obtain ⟨q28, hq29, hf⟩ := mz_bd hf
        refine mz_callV E w (k := 5) (As := [.int q15.1]) (rest := []) (c_EX_fail hSK l n q15.1 q15.2 q28 hq29) (by decide) rfl rfl k_537 k_3 k_534 k_536 ks_7 hm_EX_fail ⟨⟨rfl, rfl⟩, Nat.le_of_ble_eq_true rfl, Nat.le_of_ble_eq_true rfl⟩ rfl hl.1 rfl (Nat.le_of_ble_eq_true rfl) d_EX_takeLine_125 ⟨Nat.zero_le _, Nat.zero_le _⟩ (st1 := [.int q28.1]) rfl (fun H locs w => ?_)
        obtain ⟨hz30, hf⟩ := mz_gd hf
        obtain rfl := Option.some.inj hf
        exact mz_zret E w (mz_b01 hz30) rfl d_EX_takeLine_128
    · have hf := mz_t hc14 hf
      refine lv_iconst (v := (1 : Int32)) hx hb d_EX_takeLine_101 (by decide) ?_
      obtain rfl := Option.some.inj hf
      exact mz_zret E w (by decide) rfl d_EX_takeLine_102
set_option maxRecDepth 100000 in
set_option maxHeartbeats 4000000 in
theorem b_EX_takeLine_81 {dC : Nat → ClassId} {dI : Nat → Nat → Nat} {ad en adK adV : Nat → Nat} {tA tS : Nat} {oF : Option Nat} {ca : Nat → ClassId} {p : Program} {l : Launch} {e : Env} {s : State} {m : MethodId} {args : Array Value} {below : List Frame} {meth : Method} {c : Code} {res : (Int32 × mz_St)} (E : mz_En (mz_SC ad en adK adV tA tS oF) 80 mz_cl dC dI ad ca p s m meth c prog_6_method_8_code 4 "MacroHouse$Expander" (some (.boolean))) (n : Nat) : ∀ (x1 : Int32) (t : mz_St), f_EX_takeLine_81 n x1 t = some res → ∀ (H : Heap) (locs : List Loc) (ls : Array Slot), mz_Wd mz_tC 80 mz_cl dC dI ad en ca s t H locs → lv_has ls 4 [(0, .ref (ad 5)), (1, .int x1)] → W p l e (r_EX_takeLine) s m args below meth c H locs 0 0 (MQ below (mz_Q (mz_SC ad en adK adV tA tS oF) mz_tC 80 mz_cl dC dI ad en ca (some (.int res.1)) res.2) args s 0 0 (mz_A ad 80)) (F0 m 81 ls []) := by
  obtain ⟨hx, hb, hml, hown, hcx, -, -, hSX, -, -, hSK⟩ := id E
  intro x1 t hf H locs ls w hl
  unfold f_EX_takeLine_81 at hf
  refine lv_iconst (v := (1 : Int32)) hx hb d_EX_takeLine_81 (by decide) ?_
  refine lv_goto (tgt := 86) hx hb d_EX_takeLine_82 (by decide) ?_
  exact b_EX_takeLine_86 E n x1 (1 : Int32) t hf _ _ _ w (lv_sub hl [0, 1] rfl)
set_option maxRecDepth 100000 in
set_option maxHeartbeats 4000000 in
theorem b_EX_takeLine_85 {dC : Nat → ClassId} {dI : Nat → Nat → Nat} {ad en adK adV : Nat → Nat} {tA tS : Nat} {oF : Option Nat} {ca : Nat → ClassId} {p : Program} {l : Launch} {e : Env} {s : State} {m : MethodId} {args : Array Value} {below : List Frame} {meth : Method} {c : Code} {res : (Int32 × mz_St)} (E : mz_En (mz_SC ad en adK adV tA tS oF) 80 mz_cl dC dI ad ca p s m meth c prog_6_method_8_code 4 "MacroHouse$Expander" (some (.boolean))) (n : Nat) : ∀ (x1 : Int32) (t : mz_St), f_EX_takeLine_85 n x1 t = some res → ∀ (H : Heap) (locs : List Loc) (ls : Array Slot), mz_Wd mz_tC 80 mz_cl dC dI ad en ca s t H locs → lv_has ls 4 [(0, .ref (ad 5)), (1, .int x1)] → W p l e (r_EX_takeLine) s m args below meth c H locs 0 0 (MQ below (mz_Q (mz_SC ad en adK adV tA tS oF) mz_tC 80 mz_cl dC dI ad en ca (some (.int res.1)) res.2) args s 0 0 (mz_A ad 80)) (F0 m 85 ls []) := by
  obtain ⟨hx, hb, hml, hown, hcx, -, -, hSX, -, -, hSK⟩ := id E
  intro x1 t hf H locs ls w hl
  unfold f_EX_takeLine_85 at hf
  refine lv_iconst (v := (0 : Int32)) hx hb d_EX_takeLine_85 (by decide) ?_
  exact b_EX_takeLine_86 E n x1 (0 : Int32) t hf _ _ _ w (lv_sub hl [0, 1] rfl)
set_option maxRecDepth 100000 in
set_option maxHeartbeats 4000000 in
theorem c_EX_takeLine {dC : Nat → ClassId} {dI : Nat → Nat → Nat} {ad en adK adV : Nat → Nat} {tA tS : Nat} {oF : Option Nat} {ca : Nat → ClassId} (hSK : mz_SK (mz_SC ad en adK adV tA tS oF) ad 80) (l : Launch) (n : Nat) (t : mz_St) (res : (Int32 × mz_St)) (hf : f_EX_takeLine n t = some res) : mz_C (mz_SC ad en adK adV tA tS oF) mz_tC 80 mz_cl dC dI ad en ca l y_EX_takeLine prog_6_method_8_code 4 (some (.boolean)) (r_EX_takeLine) [.ref (ad 5)] t (some (.int res.1)) res.2 := by
  unfold f_EX_takeLine at hf
  refine mz_met hSK (by decide) (Nat.le_of_ble_eq_true rfl) ?_
  intro p e s m args below meth c ls E w hl
  obtain ⟨hx, hb, hml, hown, hcx, -, -, hSX, -, -, -⟩ := id E
  have hl : lv_has ls 4 [(0, .ref (ad 5))] := hl
  refine lv_aload_n hx hb d_EX_takeLine_0 rfl (lv_at hl 0 rfl) ?_
  refine mz_get E w 5 2 (v := .ref (ad 7)) (by decide) rfl rfl ii_2 (by decide) (Nat.le_of_ble_eq_true rfl) k_372 rfl d_EX_takeLine_1 ?_
  obtain ⟨q1, hq2, hf⟩ := mz_bd hf
  refine mz_callV E w (k := 7) (As := []) (rest := []) (c_CO_live hSK l n t q1 hq2) (by decide) rfl rfl k_549 k_4 k_546 k_547 k_548 hm_CO_live ⟨⟨rfl, rfl⟩, Nat.le_of_ble_eq_true rfl, Nat.le_of_ble_eq_true rfl⟩ rfl hl.1 rfl (Nat.le_of_ble_eq_true rfl) d_EX_takeLine_4 ⟨Nat.zero_le _, Nat.zero_le _⟩ (st1 := [.int q1.1]) rfl (fun H locs w => ?_)
  refine lv_istore_n (lv' := [(1, .int q1.1), (0, .ref (ad 5))]) hx hb d_EX_takeLine_7 rfl hl (by decide) rfl (fun ls hl => ?_)
  refine lv_aload_n hx hb d_EX_takeLine_8 rfl (lv_at hl 1 rfl) ?_
  refine lv_aload_n hx hb d_EX_takeLine_9 rfl (lv_at hl 1 rfl) ?_
  refine mz_get E w 5 0 (v := .ref (ad 1)) (by decide) rfl rfl ii_2 (by decide) (Nat.le_of_ble_eq_true rfl) k_370 rfl d_EX_takeLine_10 ?_
  refine lv_aload_n hx hb d_EX_takeLine_13 rfl (lv_at hl 1 rfl) ?_
  refine mz_get E w 5 11 (v := .int (mz_gI q1.2 5 11)) (by decide) rfl rfl ii_2 (by decide) (Nat.le_of_ble_eq_true rfl) k_389 rfl d_EX_takeLine_14 ?_
  obtain ⟨q3, hq4, hf⟩ := mz_bd hf
  refine mz_callV E w (k := 1) (As := [.int (mz_gI q1.2 5 11)]) (rest := [.ref (ad 5)]) (c_SI_startOf hSK l n (mz_gI q1.2 5 11) q1.2 q3 hq4) (by decide) rfl rfl k_553 k_2 k_550 k_551 k_552 hm_SI_startOf ⟨⟨rfl, rfl⟩, Nat.le_of_ble_eq_true rfl, Nat.le_of_ble_eq_true rfl⟩ rfl hl.1 rfl (Nat.le_of_ble_eq_true rfl) d_EX_takeLine_17 ⟨Nat.zero_le _, Nat.zero_le _⟩ (st1 := [.int q3.1, .ref (ad 5)]) rfl (fun H locs w => ?_)
  refine mz_put E w 5 12 (v := q3.1) (by decide) rfl rfl ii_2 tk_2 nm_2 (by decide) (Nat.le_of_ble_eq_true rfl) k_390 rfl (tk_2 12 (by decide)) rfl rfl rfl d_EX_takeLine_20 (fun H locs w => ?_)
  obtain ⟨t5, e_t5, hf⟩ := mz_lt hf
  rw [← e_t5] at w
  refine lv_aload_n hx hb d_EX_takeLine_23 rfl (lv_at hl 1 rfl) ?_
  refine lv_aload_n hx hb d_EX_takeLine_24 rfl (lv_at hl 1 rfl) ?_
  refine mz_get E w 5 0 (v := .ref (ad 1)) (by decide) rfl rfl ii_2 (by decide) (Nat.le_of_ble_eq_true rfl) k_370 rfl d_EX_takeLine_25 ?_
  refine lv_aload_n hx hb d_EX_takeLine_28 rfl (lv_at hl 1 rfl) ?_
  refine mz_get E w 5 11 (v := .int (mz_gI t5 5 11)) (by decide) rfl rfl ii_2 (by decide) (Nat.le_of_ble_eq_true rfl) k_389 rfl d_EX_takeLine_29 ?_
  obtain ⟨q6, hq7, hf⟩ := mz_bd hf
  refine mz_callV E w (k := 1) (As := [.int (mz_gI t5 5 11)]) (rest := [.ref (ad 5)]) (c_SI_stopOf hSK l n (mz_gI t5 5 11) t5 q6 hq7) (by decide) rfl rfl k_557 k_2 k_554 k_555 k_556 hm_SI_stopOf ⟨⟨rfl, rfl⟩, Nat.le_of_ble_eq_true rfl, Nat.le_of_ble_eq_true rfl⟩ rfl hl.1 rfl (Nat.le_of_ble_eq_true rfl) d_EX_takeLine_32 ⟨Nat.zero_le _, Nat.zero_le _⟩ (st1 := [.int q6.1, .ref (ad 5)]) rfl (fun H locs w => ?_)
  refine mz_put E w 5 13 (v := q6.1) (by decide) rfl rfl ii_2 tk_2 nm_2 (by decide) (Nat.le_of_ble_eq_true rfl) k_391 rfl (tk_2 13 (by decide)) rfl rfl rfl d_EX_takeLine_35 (fun H locs w => ?_)
  obtain ⟨t8, e_t8, hf⟩ := mz_lt hf
  rw [← e_t8] at w
  refine lv_aload_n hx hb d_EX_takeLine_38 rfl (lv_at hl 1 rfl) ?_
  refine lv_aload_n hx hb d_EX_takeLine_39 rfl (lv_at hl 1 rfl) ?_
  refine mz_get E w 5 0 (v := .ref (ad 1)) (by decide) rfl rfl ii_2 (by decide) (Nat.le_of_ble_eq_true rfl) k_370 rfl d_EX_takeLine_40 ?_
  refine lv_aload_n hx hb d_EX_takeLine_43 rfl (lv_at hl 1 rfl) ?_
  refine mz_get E w 5 12 (v := .int (mz_gI t8 5 12)) (by decide) rfl rfl ii_2 (by decide) (Nat.le_of_ble_eq_true rfl) k_390 rfl d_EX_takeLine_44 ?_
  refine lv_aload_n hx hb d_EX_takeLine_47 rfl (lv_at hl 1 rfl) ?_
  refine mz_get E w 5 13 (v := .int (mz_gI t8 5 13)) (by decide) rfl rfl ii_2 (by decide) (Nat.le_of_ble_eq_true rfl) k_391 rfl d_EX_takeLine_48 ?_
  obtain ⟨q9, hq10, hf⟩ := mz_bd hf
  refine mz_callS E w (As := [.ref (ad 1), .int (mz_gI t8 5 12), .int (mz_gI t8 5 13)]) (rest := [.ref (ad 5)]) (c_DI_of hSK l n (mz_gI t8 5 12) (mz_gI t8 5 13) t8 q9 hq10) k_560 k_7 k_558 k_559 hm_DI_of ⟨⟨rfl, rfl⟩, Nat.le_of_ble_eq_true rfl, Nat.le_of_ble_eq_true rfl⟩ rfl hl.1 rfl (Nat.le_of_ble_eq_true rfl) d_EX_takeLine_51 ⟨Nat.zero_le _, Nat.zero_le _⟩ (st1 := [.ref (en q9.1.toNatClampNeg), .ref (ad 5)]) rfl (fun H locs w => ?_)
  refine mz_put E w 5 14 (v := q9.1) (by decide) rfl rfl ii_2 tk_2 nm_2 (by decide) (Nat.le_of_ble_eq_true rfl) k_392 rfl (tk_2 14 (by decide)) rfl rfl rfl d_EX_takeLine_54 (fun H locs w => ?_)
  obtain ⟨t11, e_t11, hf⟩ := mz_lt hf
  rw [← e_t11] at w
  refine lv_iload_n hx hb d_EX_takeLine_57 rfl (lv_at hl 0 rfl) ?_
  refine lv_if_ne (tgt := 81) hx hb d_EX_takeLine_58 (by decide) (fun hc12 => ?_) (fun hc12 => ?_)
  · have hf := mz_f hc12 hf
    exact b_EX_takeLine_81 E n q1.1 t11 hf _ _ _ w (lv_sub hl [1, 0] rfl)
  · have hf := mz_t hc12 hf
    refine lv_aload_n hx hb d_EX_takeLine_61 rfl (lv_at hl 1 rfl) ?_
    refine mz_get E w 5 14 (v := .ref (en (mz_gI t11 5 14).toNatClampNeg)) (by decide) rfl rfl ii_2 (by decide) (Nat.le_of_ble_eq_true rfl) k_392 rfl d_EX_takeLine_62 ?_
    refine mz_gse E w (6 : Int32) (by decide) rfl k_629 d_EX_takeLine_65 ?_
    obtain ⟨hg32, hf⟩ := mz_gd hf
    refine mz_ane E (tgt := 85) hg32 d_EX_takeLine_68 (by decide) (fun hc31 => ?_) (fun hc31 => ?_)
    · have hf := mz_f hc31 hf
      exact b_EX_takeLine_85 E n q1.1 t11 hf _ _ _ w (lv_sub hl [1, 0] rfl)
    · have hf := mz_t hc31 hf
      refine lv_aload_n hx hb d_EX_takeLine_71 rfl (lv_at hl 1 rfl) ?_
      refine mz_get E w 5 2 (v := .ref (ad 7)) (by decide) rfl rfl ii_2 (by decide) (Nat.le_of_ble_eq_true rfl) k_372 rfl d_EX_takeLine_72 ?_
      obtain ⟨q33, hq34, hf⟩ := mz_bd hf
      refine mz_callV E w (k := 7) (As := []) (rest := []) (c_CO_waits hSK l n t11 q33 hq34) (by decide) rfl rfl k_634 k_4 k_631 k_632 k_633 hm_CO_waits ⟨⟨rfl, rfl⟩, Nat.le_of_ble_eq_true rfl, Nat.le_of_ble_eq_true rfl⟩ rfl hl.1 rfl (Nat.le_of_ble_eq_true rfl) d_EX_takeLine_75 ⟨Nat.zero_le _, Nat.zero_le _⟩ (st1 := [.int q33.1]) rfl (fun H locs w => ?_)
      refine lv_if_eq (tgt := 85) hx hb d_EX_takeLine_78 (by decide) (fun hc35 => ?_) (fun hc35 => ?_)
      · have hf := mz_t hc35 hf
        exact b_EX_takeLine_85 E n q1.1 q33.2 hf _ _ _ w (lv_sub hl [1, 0] rfl)
      · have hf := mz_f hc35 hf
        exact b_EX_takeLine_81 E n q1.1 q33.2 hf _ _ _ w (lv_sub hl [1, 0] rfl)

/-! MacroHouse$Expander.openMacro(I)V -/
abbrev r_EX_openMacro : Room := { frames := 2, cells := 0, slots := 0, locals := 42 }
def f_EX_openMacro (n : Nat) (x1 : Int32) (t : mz_St) : Option mz_St := (f_SK_spare n t).bind fun q1 => if mz_fr q1.1 then ((f_MA_firstLineOf n x1 q1.2).bind fun q4 => (f_MA_linesOf n x1 q4.2).bind fun q6 => (f_FR_begin n q1.1 (9 : Int32) q4.1 (q4.1 + q6.1) (1 : Int32) (mz_gI q6.2 7 5) q6.2).bind fun q8 => mz_let (mz_pI q8 q1.1 7 x1) fun t10 => mz_let (mz_pI t10 q1.1 8 (mz_gI t10 5 10)) fun t11 => (f_SK_open n (mz_gI t11 5 11) t11).bind fun q12 => if q12.1 = 0 then ((f_EX_fail n (6 : Int32) q12.2).bind fun q18 => some q18.2) else (mz_let (mz_pI q12.2 5 10 ((mz_gI q12.2 5 10) + (1 : Int32))) fun t15 => (f_MA_countCall n x1 t15).bind fun q16 => some q16)) else none
set_option maxRecDepth 100000 in
set_option maxHeartbeats 4000000 in
theorem c_EX_openMacro {dC : Nat → ClassId} {dI : Nat → Nat → Nat} {ad en adK adV : Nat → Nat} {tA tS : Nat} {oF : Option Nat} {ca : Nat → ClassId} (hSK : mz_SK (mz_SC ad en adK adV tA tS oF) ad 80) (l : Launch) (n : Nat) (x1 : Int32) (t : mz_St) (res : mz_St) (hf : f_EX_openMacro n x1 t = some res) : mz_C (mz_SC ad en adK adV tA tS oF) mz_tC 80 mz_cl dC dI ad en ca l y_EX_openMacro prog_6_method_12_code 4 none (r_EX_openMacro) [.ref (ad 5), .int x1] t none res := by
  unfold f_EX_openMacro at hf
  refine mz_met hSK (by decide) (Nat.le_of_ble_eq_true rfl) ?_
  intro p e s m args below meth c ls E w hl
  obtain ⟨hx, hb, hml, hown, hcx, -, -, hSX, -, -, -⟩ := id E
  have hl : lv_has ls 4 [(0, .ref (ad 5)), (1, .int x1)] := hl
  refine lv_aload_n hx hb d_EX_openMacro_0 rfl (lv_at hl 0 rfl) ?_
  refine mz_get E w 5 5 (v := .ref (ad 30)) (by decide) rfl rfl ii_2 (by decide) (Nat.le_of_ble_eq_true rfl) k_377 rfl d_EX_openMacro_1 ?_
  obtain ⟨q1, hq2, hf⟩ := mz_bd hf
  refine mz_callV E w (k := 30) (As := []) (rest := []) (c_SK_spare hSK l n t q1 hq2) (by decide) rfl rfl k_753 k_13 k_767 k_751 k_752 hm_SK_spare ⟨⟨rfl, rfl⟩, Nat.le_of_ble_eq_true rfl, Nat.le_of_ble_eq_true rfl⟩ rfl hl.1 rfl (Nat.le_of_ble_eq_true rfl) d_EX_openMacro_4 ⟨Nat.zero_le _, Nat.zero_le _⟩ (st1 := [.ref (ad q1.1)]) rfl (fun H locs w => ?_)
  obtain ⟨hr3, hf⟩ := mz_gd hf
  refine lv_astore_n (lv' := [(2, .ref (ad q1.1)), (0, .ref (ad 5)), (1, .int x1)]) hx hb d_EX_openMacro_7 rfl hl (by decide) rfl (fun ls hl => ?_)
  refine lv_aload_n hx hb d_EX_openMacro_8 rfl (lv_at hl 1 rfl) ?_
  refine mz_get E w 5 4 (v := .ref (ad 18)) (by decide) rfl rfl ii_2 (by decide) (Nat.le_of_ble_eq_true rfl) k_375 rfl d_EX_openMacro_9 ?_
  refine lv_iload_n hx hb d_EX_openMacro_12 rfl (lv_at hl 2 rfl) ?_
  obtain ⟨q4, hq5, hf⟩ := mz_bd hf
  refine mz_callV E w (k := 18) (As := [.int x1]) (rest := []) (c_MA_firstLineOf hSK l n x1 q1.2 q4 hq5) (by decide) rfl rfl k_771 k_12 k_768 k_769 k_770 hm_MA_firstLineOf ⟨⟨rfl, rfl⟩, Nat.le_of_ble_eq_true rfl, Nat.le_of_ble_eq_true rfl⟩ rfl hl.1 rfl (Nat.le_of_ble_eq_true rfl) d_EX_openMacro_13 ⟨Nat.zero_le _, Nat.zero_le _⟩ (st1 := [.int q4.1]) rfl (fun H locs w => ?_)
  refine lv_istore_n (lv' := [(3, .int q4.1), (2, .ref (ad q1.1)), (0, .ref (ad 5)), (1, .int x1)]) hx hb d_EX_openMacro_16 rfl hl (by decide) rfl (fun ls hl => ?_)
  refine lv_aload_n hx hb d_EX_openMacro_17 rfl (lv_at hl 1 rfl) ?_
  refine mz_gse E w (9 : Int32) (by decide) rfl k_772 d_EX_openMacro_18 ?_
  refine lv_iload_n hx hb d_EX_openMacro_21 rfl (lv_at hl 0 rfl) ?_
  refine lv_iload_n hx hb d_EX_openMacro_22 rfl (lv_at hl 0 rfl) ?_
  refine lv_aload_n hx hb d_EX_openMacro_23 rfl (lv_at hl 2 rfl) ?_
  refine mz_get E w 5 4 (v := .ref (ad 18)) (by decide) rfl rfl ii_2 (by decide) (Nat.le_of_ble_eq_true rfl) k_375 rfl d_EX_openMacro_24 ?_
  refine lv_iload_n hx hb d_EX_openMacro_27 rfl (lv_at hl 3 rfl) ?_
  obtain ⟨q6, hq7, hf⟩ := mz_bd hf
  refine mz_callV E w (k := 18) (As := [.int x1]) (rest := [.int q4.1, .int q4.1, .ref (en (9 : Int32).toNatClampNeg), .ref (ad q1.1)]) (c_MA_linesOf hSK l n x1 q4.2 q6 hq7) (by decide) rfl rfl k_776 k_12 k_773 k_774 k_775 hm_MA_linesOf ⟨⟨rfl, rfl⟩, Nat.le_of_ble_eq_true rfl, Nat.le_of_ble_eq_true rfl⟩ rfl hl.1 rfl (Nat.le_of_ble_eq_true rfl) d_EX_openMacro_28 ⟨Nat.zero_le _, Nat.zero_le _⟩ (st1 := [.int q6.1, .int q4.1, .int q4.1, .ref (en (9 : Int32).toNatClampNeg), .ref (ad q1.1)]) rfl (fun H locs w => ?_)
  refine lv_iadd hx hb d_EX_openMacro_31 ?_
  refine lv_iconst (v := (1 : Int32)) hx hb d_EX_openMacro_32 (by decide) ?_
  refine lv_aload_n hx hb d_EX_openMacro_33 rfl (lv_at hl 2 rfl) ?_
  refine mz_get E w 5 2 (v := .ref (ad 7)) (by decide) rfl rfl ii_2 (by decide) (Nat.le_of_ble_eq_true rfl) k_372 rfl d_EX_openMacro_34 ?_
  refine mz_get E w 7 5 (v := .int (mz_gI q6.2 7 5)) (by decide) rfl rfl ii_4 (by decide) (Nat.le_of_ble_eq_true rfl) k_79 rfl d_EX_openMacro_37 ?_
  obtain ⟨q8, hq9, hf⟩ := mz_bd hf
  refine mz_callV E w (k := q1.1) (As := [.ref (en (9 : Int32).toNatClampNeg), .int q4.1, .int (q4.1 + q6.1), .int (1 : Int32), .int (mz_gI q6.2 7 5)]) (rest := []) (c_FR_begin hSK l n q1.1 (9 : Int32) q4.1 (q4.1 + q6.1) (1 : Int32) (mz_gI q6.2 7 5) q6.2 q8 hq9) (mz_fN hr3) (mz_tC_f hr3) rfl k_475 k_14 k_777 k_473 k_474 hm_FR_begin ⟨⟨rfl, rfl⟩, Nat.le_of_ble_eq_true rfl, Nat.le_of_ble_eq_true rfl⟩ rfl hl.1 rfl (Nat.le_of_ble_eq_true rfl) d_EX_openMacro_40 ⟨Nat.zero_le _, Nat.zero_le _⟩ (st1 := []) rfl (fun H locs w => ?_)
  refine lv_aload_n hx hb d_EX_openMacro_43 rfl (lv_at hl 1 rfl) ?_
  refine lv_iload_n hx hb d_EX_openMacro_44 rfl (lv_at hl 3 rfl) ?_
  refine mz_put E w q1.1 7 (v := x1) (mz_fN hr3) (mz_tC_f hr3) rfl ii_10 tk_10 nm_10 (by decide) (Nat.le_of_ble_eq_true rfl) k_287 rfl (tk_10 7 (by decide)) rfl rfl rfl d_EX_openMacro_45 (fun H locs w => ?_)
  obtain ⟨t10, e_t10, hf⟩ := mz_lt hf
  rw [← e_t10] at w
  refine lv_aload_n hx hb d_EX_openMacro_48 rfl (lv_at hl 1 rfl) ?_
  refine lv_aload_n hx hb d_EX_openMacro_49 rfl (lv_at hl 2 rfl) ?_
  refine mz_get E w 5 10 (v := .int (mz_gI t10 5 10)) (by decide) rfl rfl ii_2 (by decide) (Nat.le_of_ble_eq_true rfl) k_387 rfl d_EX_openMacro_50 ?_
  refine mz_put E w q1.1 8 (v := (mz_gI t10 5 10)) (mz_fN hr3) (mz_tC_f hr3) rfl ii_10 tk_10 nm_10 (by decide) (Nat.le_of_ble_eq_true rfl) k_289 rfl (tk_10 8 (by decide)) rfl rfl rfl d_EX_openMacro_53 (fun H locs w => ?_)
  obtain ⟨t11, e_t11, hf⟩ := mz_lt hf
  rw [← e_t11] at w
  refine lv_aload_n hx hb d_EX_openMacro_56 rfl (lv_at hl 2 rfl) ?_
  refine mz_get E w 5 5 (v := .ref (ad 30)) (by decide) rfl rfl ii_2 (by decide) (Nat.le_of_ble_eq_true rfl) k_377 rfl d_EX_openMacro_57 ?_
  refine lv_aload_n hx hb d_EX_openMacro_60 rfl (lv_at hl 2 rfl) ?_
  refine mz_get E w 5 11 (v := .int (mz_gI t11 5 11)) (by decide) rfl rfl ii_2 (by decide) (Nat.le_of_ble_eq_true rfl) k_389 rfl d_EX_openMacro_61 ?_
  obtain ⟨q12, hq13, hf⟩ := mz_bd hf
  refine mz_callV E w (k := 30) (As := [.int (mz_gI t11 5 11)]) (rest := []) (c_SK_open hSK l n (mz_gI t11 5 11) t11 q12 hq13) (by decide) rfl rfl k_781 k_13 k_778 k_779 k_780 hm_SK_open ⟨⟨rfl, rfl⟩, Nat.le_of_ble_eq_true rfl, Nat.le_of_ble_eq_true rfl⟩ rfl hl.1 rfl (Nat.le_of_ble_eq_true rfl) d_EX_openMacro_64 ⟨Nat.zero_le _, Nat.zero_le _⟩ (st1 := [.int q12.1]) rfl (fun H locs w => ?_)
  refine lv_if_ne (tgt := 78) hx hb d_EX_openMacro_67 (by decide) (fun hc14 => ?_) (fun hc14 => ?_)
  · have hf := mz_f hc14 hf
    refine lv_aload_n hx hb d_EX_openMacro_78 rfl (lv_at hl 2 rfl) ?_
    refine lv_dup hx hb d_EX_openMacro_79 rfl ?_
    refine mz_get E w 5 10 (v := .int (mz_gI q12.2 5 10)) (by decide) rfl rfl ii_2 (by decide) (Nat.le_of_ble_eq_true rfl) k_387 rfl d_EX_openMacro_80 ?_
    refine lv_iconst (v := (1 : Int32)) hx hb d_EX_openMacro_83 (by decide) ?_
    refine lv_iadd hx hb d_EX_openMacro_84 ?_
    refine mz_put E w 5 10 (v := ((mz_gI q12.2 5 10) + (1 : Int32))) (by decide) rfl rfl ii_2 tk_2 nm_2 (by decide) (Nat.le_of_ble_eq_true rfl) k_387 rfl (tk_2 10 (by decide)) rfl rfl rfl d_EX_openMacro_85 (fun H locs w => ?_)
    obtain ⟨t15, e_t15, hf⟩ := mz_lt hf
    rw [← e_t15] at w
    refine lv_aload_n hx hb d_EX_openMacro_88 rfl (lv_at hl 2 rfl) ?_
    refine mz_get E w 5 4 (v := .ref (ad 18)) (by decide) rfl rfl ii_2 (by decide) (Nat.le_of_ble_eq_true rfl) k_375 rfl d_EX_openMacro_89 ?_
    refine lv_iload_n hx hb d_EX_openMacro_92 rfl (lv_at hl 3 rfl) ?_
    obtain ⟨q16, hq17, hf⟩ := mz_bd hf
    refine mz_callV E w (k := 18) (As := [.int x1]) (rest := []) (c_MA_countCall hSK l n x1 t15 q16 hq17) (by decide) rfl rfl k_785 k_12 k_782 k_783 k_784 hm_MA_countCall ⟨⟨rfl, rfl⟩, Nat.le_of_ble_eq_true rfl, Nat.le_of_ble_eq_true rfl⟩ rfl hl.1 rfl (Nat.le_of_ble_eq_true rfl) d_EX_openMacro_93 ⟨Nat.zero_le _, Nat.zero_le _⟩ (st1 := []) rfl (fun H locs w => ?_)
    obtain rfl := Option.some.inj hf
    exact mz_vret E w rfl d_EX_openMacro_96
  · have hf := mz_t hc14 hf
    refine lv_aload_n hx hb d_EX_openMacro_70 rfl (lv_at hl 2 rfl) ?_
    refine lv_bipush (v := (6 : Int32)) hx hb d_EX_openMacro_71 (by decide) ?_
    obtain ⟨q18, hq19, hf⟩ := mz_bd hf
    refine mz_callV E w (k := 5) (As := [.int (6 : Int32)]) (rest := []) (c_EX_fail hSK l n (6 : Int32) q12.2 q18 hq19) (by decide) rfl rfl k_537 k_3 k_534 k_536 ks_7 hm_EX_fail ⟨⟨rfl, rfl⟩, Nat.le_of_ble_eq_true rfl, Nat.le_of_ble_eq_true rfl⟩ rfl hl.1 rfl (Nat.le_of_ble_eq_true rfl) d_EX_openMacro_73 ⟨Nat.zero_le _, Nat.zero_le _⟩ (st1 := [.int q18.1]) rfl (fun H locs w => ?_)
    refine lv_pop hx hb d_EX_openMacro_76 rfl ?_
    obtain rfl := Option.some.inj hf
    exact mz_vret E w rfl d_EX_openMacro_77

/-! MacroHouse$Expander.callOrGiveOut()V -/
abbrev r_EX_callOrGiveOut : Room := { frames := 3, cells := 0, slots := 0, locals := 77 }
def f_EX_callOrGiveOut (n : Nat) (t : mz_St) : Option mz_St := if (mz_gI t 5 12) < (mz_gI t 5 13) then ((f_SI_wordEnd n (mz_gI t 5 12) (mz_gI t 5 13) t).bind fun q2 => (f_NA_find_m n (mz_gI q2.2 5 12) q2.1 q2.2).bind fun q4 => if q4.1 = (-1 : Int32) then ((f_EX_toldLine n q4.2).bind fun q14 => (f_OU_add n (mz_gI q4.2 5 12) (mz_gI q4.2 5 13) q14.1 (mz_gI q14.2 30 4) q14.2).bind fun q16 => if q16.1 = 0 then ((f_EX_fail n (6 : Int32) q16.2).bind fun q19 => some q19.2) else (some q16.2)) else ((f_SK_readArguments n q4.1 q2.1 (mz_gI q4.2 5 13) q4.2).bind fun q7 => if q7.1 = 0 then ((f_EX_fail n (1 : Int32) q7.2).bind fun q12 => some q12.2) else ((f_EX_openMacro n q4.1 q7.2).bind fun q10 => some q10))) else (some t)
set_option maxRecDepth 100000 in
set_option maxHeartbeats 4000000 in
theorem c_EX_callOrGiveOut {dC : Nat → ClassId} {dI : Nat → Nat → Nat} {ad en adK adV : Nat → Nat} {tA tS : Nat} {oF : Option Nat} {ca : Nat → ClassId} (hSK : mz_SK (mz_SC ad en adK adV tA tS oF) ad 80) (l : Launch) (n : Nat) (t : mz_St) (res : mz_St) (hf : f_EX_callOrGiveOut n t = some res) : mz_C (mz_SC ad en adK adV tA tS oF) mz_tC 80 mz_cl dC dI ad en ca l y_EX_callOrGiveOut prog_6_method_11_code 3 none (r_EX_callOrGiveOut) [.ref (ad 5)] t none res := by
  unfold f_EX_callOrGiveOut at hf
  refine mz_met hSK (by decide) (Nat.le_of_ble_eq_true rfl) ?_
  intro p e s m args below meth c ls E w hl
  obtain ⟨hx, hb, hml, hown, hcx, -, -, hSX, -, -, -⟩ := id E
  have hl : lv_has ls 3 [(0, .ref (ad 5))] := hl
  refine lv_aload_n hx hb d_EX_callOrGiveOut_0 rfl (lv_at hl 0 rfl) ?_
  refine mz_get E w 5 12 (v := .int (mz_gI t 5 12)) (by decide) rfl rfl ii_2 (by decide) (Nat.le_of_ble_eq_true rfl) k_390 rfl d_EX_callOrGiveOut_1 ?_
  refine lv_aload_n hx hb d_EX_callOrGiveOut_4 rfl (lv_at hl 0 rfl) ?_
  refine mz_get E w 5 13 (v := .int (mz_gI t 5 13)) (by decide) rfl rfl ii_2 (by decide) (Nat.le_of_ble_eq_true rfl) k_391 rfl d_EX_callOrGiveOut_5 ?_
  refine lv_icmp_lt (tgt := 12) hx hb d_EX_callOrGiveOut_8 (by decide) (fun hc1 => ?_) (fun hc1 => ?_)
  · have hf := mz_t hc1 hf
    refine lv_aload_n hx hb d_EX_callOrGiveOut_12 rfl (lv_at hl 0 rfl) ?_
    refine mz_get E w 5 0 (v := .ref (ad 1)) (by decide) rfl rfl ii_2 (by decide) (Nat.le_of_ble_eq_true rfl) k_370 rfl d_EX_callOrGiveOut_13 ?_
    refine lv_aload_n hx hb d_EX_callOrGiveOut_16 rfl (lv_at hl 0 rfl) ?_
    refine mz_get E w 5 12 (v := .int (mz_gI t 5 12)) (by decide) rfl rfl ii_2 (by decide) (Nat.le_of_ble_eq_true rfl) k_390 rfl d_EX_callOrGiveOut_17 ?_
    refine lv_aload_n hx hb d_EX_callOrGiveOut_20 rfl (lv_at hl 0 rfl) ?_
    refine mz_get E w 5 13 (v := .int (mz_gI t 5 13)) (by decide) rfl rfl ii_2 (by decide) (Nat.le_of_ble_eq_true rfl) k_391 rfl d_EX_callOrGiveOut_21 ?_
    obtain ⟨q2, hq3, hf⟩ := mz_bd hf
    refine mz_callV E w (k := 1) (As := [.int (mz_gI t 5 12), .int (mz_gI t 5 13)]) (rest := []) (c_SI_wordEnd hSK l n (mz_gI t 5 12) (mz_gI t 5 13) t q2 hq3) (by decide) rfl rfl k_566 k_2 k_727 k_564 k_565 hm_SI_wordEnd ⟨⟨rfl, rfl⟩, Nat.le_of_ble_eq_true rfl, Nat.le_of_ble_eq_true rfl⟩ rfl hl.1 rfl (Nat.le_of_ble_eq_true rfl) d_EX_callOrGiveOut_24 ⟨Nat.zero_le _, Nat.zero_le _⟩ (st1 := [.int q2.1]) rfl (fun H locs w => ?_)
    refine lv_istore_n (lv' := [(1, .int q2.1), (0, .ref (ad 5))]) hx hb d_EX_callOrGiveOut_27 rfl hl (by decide) rfl (fun ls hl => ?_)
    refine lv_aload_n hx hb d_EX_callOrGiveOut_28 rfl (lv_at hl 1 rfl) ?_
    refine mz_get E w 5 4 (v := .ref (ad 18)) (by decide) rfl rfl ii_2 (by decide) (Nat.le_of_ble_eq_true rfl) k_375 rfl d_EX_callOrGiveOut_29 ?_
    refine mz_get E w 18 1 (v := .ref (ad 27)) (by decide) rfl rfl ii_7 (by decide) (Nat.le_of_ble_eq_true rfl) k_221 rfl d_EX_callOrGiveOut_32 ?_
    refine lv_aload_n hx hb d_EX_callOrGiveOut_35 rfl (lv_at hl 1 rfl) ?_
    refine mz_get E w 5 12 (v := .int (mz_gI q2.2 5 12)) (by decide) rfl rfl ii_2 (by decide) (Nat.le_of_ble_eq_true rfl) k_390 rfl d_EX_callOrGiveOut_36 ?_
    refine lv_iload_n hx hb d_EX_callOrGiveOut_39 rfl (lv_at hl 0 rfl) ?_
    obtain ⟨q4, hq5, hf⟩ := mz_bd hf
    refine mz_callV E w (k := 27) (As := [.int (mz_gI q2.2 5 12), .int q2.1]) (rest := []) (c_NA_find_m hSK l n (mz_gI q2.2 5 12) q2.1 q2.2 q4 hq5) (by decide) rfl rfl k_731 k_9 k_728 k_729 k_730 hm_NA_find ⟨⟨rfl, rfl⟩, Nat.le_of_ble_eq_true rfl, Nat.le_of_ble_eq_true rfl⟩ rfl hl.1 rfl (Nat.le_of_ble_eq_true rfl) d_EX_callOrGiveOut_40 ⟨Nat.zero_le _, Nat.zero_le _⟩ (st1 := [.int q4.1]) rfl (fun H locs w => ?_)
    refine lv_istore_n (lv' := [(2, .int q4.1), (1, .int q2.1), (0, .ref (ad 5))]) hx hb d_EX_callOrGiveOut_43 rfl hl (by decide) rfl (fun ls hl => ?_)
    refine lv_iload_n hx hb d_EX_callOrGiveOut_44 rfl (lv_at hl 0 rfl) ?_
    refine lv_iconst (v := (-1 : Int32)) hx hb d_EX_callOrGiveOut_45 (by decide) ?_
    refine lv_icmp_ne (tgt := 92) hx hb d_EX_callOrGiveOut_46 (by decide) (fun hc6 => ?_) (fun hc6 => ?_)
    · have hf := mz_f hc6 hf
      refine lv_aload_n hx hb d_EX_callOrGiveOut_92 rfl (lv_at hl 2 rfl) ?_
      refine mz_get E w 5 5 (v := .ref (ad 30)) (by decide) rfl rfl ii_2 (by decide) (Nat.le_of_ble_eq_true rfl) k_377 rfl d_EX_callOrGiveOut_93 ?_
      refine lv_iload_n hx hb d_EX_callOrGiveOut_96 rfl (lv_at hl 0 rfl) ?_
      refine lv_iload_n hx hb d_EX_callOrGiveOut_97 rfl (lv_at hl 1 rfl) ?_
      refine lv_aload_n hx hb d_EX_callOrGiveOut_98 rfl (lv_at hl 2 rfl) ?_
      refine mz_get E w 5 13 (v := .int (mz_gI q4.2 5 13)) (by decide) rfl rfl ii_2 (by decide) (Nat.le_of_ble_eq_true rfl) k_391 rfl d_EX_callOrGiveOut_99 ?_
      obtain ⟨q7, hq8, hf⟩ := mz_bd hf
      refine mz_callV E w (k := 30) (As := [.int q4.1, .int q2.1, .int (mz_gI q4.2 5 13)]) (rest := []) (c_SK_readArguments hSK l n q4.1 q2.1 (mz_gI q4.2 5 13) q4.2 q7 hq8) (by decide) rfl rfl k_749 k_13 k_746 k_747 k_748 hm_SK_readArguments ⟨⟨rfl, rfl⟩, Nat.le_of_ble_eq_true rfl, Nat.le_of_ble_eq_true rfl⟩ rfl hl.1 rfl (Nat.le_of_ble_eq_true rfl) d_EX_callOrGiveOut_102 ⟨Nat.zero_le _, Nat.zero_le _⟩ (st1 := [.int q7.1]) rfl (fun H locs w => ?_)
      refine lv_if_ne (tgt := 117) hx hb d_EX_callOrGiveOut_105 (by decide) (fun hc9 => ?_) (fun hc9 => ?_)
      · have hf := mz_f hc9 hf
        refine lv_aload_n hx hb d_EX_callOrGiveOut_117 rfl (lv_at hl 2 rfl) ?_
        refine lv_iload_n hx hb d_EX_callOrGiveOut_118 rfl (lv_at hl 0 rfl) ?_
        obtain ⟨q10, hq11, hf⟩ := mz_bd hf
        refine mz_callV E w (k := 5) (As := [.int q4.1]) (rest := []) (c_EX_openMacro hSK l n q4.1 q7.2 q10 hq11) (by decide) rfl rfl k_766 k_3 k_763 k_765 ks_19 hm_EX_openMacro ⟨⟨rfl, rfl⟩, Nat.le_of_ble_eq_true rfl, Nat.le_of_ble_eq_true rfl⟩ rfl hl.1 rfl (Nat.le_of_ble_eq_true rfl) d_EX_callOrGiveOut_119 ⟨Nat.zero_le _, Nat.zero_le _⟩ (st1 := []) rfl (fun H locs w => ?_)
        obtain rfl := Option.some.inj hf
        exact mz_vret E w rfl d_EX_callOrGiveOut_122
      · have hf := mz_t hc9 hf
        refine lv_aload_n hx hb d_EX_callOrGiveOut_108 rfl (lv_at hl 2 rfl) ?_
        refine lv_iconst (v := (1 : Int32)) hx hb d_EX_callOrGiveOut_109 (by decide) ?_
        obtain ⟨q12, hq13, hf⟩ := mz_bd hf
        refine mz_callV E w (k := 5) (As := [.int (1 : Int32)]) (rest := []) (c_EX_fail hSK l n (1 : Int32) q7.2 q12 hq13) (by decide) rfl rfl k_537 k_3 k_534 k_536 ks_7 hm_EX_fail ⟨⟨rfl, rfl⟩, Nat.le_of_ble_eq_true rfl, Nat.le_of_ble_eq_true rfl⟩ rfl hl.1 rfl (Nat.le_of_ble_eq_true rfl) d_EX_callOrGiveOut_110 ⟨Nat.zero_le _, Nat.zero_le _⟩ (st1 := [.int q12.1]) rfl (fun H locs w => ?_)
        refine lv_pop hx hb d_EX_callOrGiveOut_113 rfl ?_
        refine lv_goto (tgt := 122) hx hb d_EX_callOrGiveOut_114 (by decide) ?_
        obtain rfl := Option.some.inj hf
        exact mz_vret E w rfl d_EX_callOrGiveOut_122
    · have hf := mz_t hc6 hf
      refine lv_aload_n hx hb d_EX_callOrGiveOut_49 rfl (lv_at hl 2 rfl) ?_
      refine mz_get E w 5 6 (v := .ref (ad 32)) (by decide) rfl rfl ii_2 (by decide) (Nat.le_of_ble_eq_true rfl) k_379 rfl d_EX_callOrGiveOut_50 ?_
      refine lv_aload_n hx hb d_EX_callOrGiveOut_53 rfl (lv_at hl 2 rfl) ?_
      refine mz_get E w 5 0 (v := .ref (ad 1)) (by decide) rfl rfl ii_2 (by decide) (Nat.le_of_ble_eq_true rfl) k_370 rfl d_EX_callOrGiveOut_54 ?_
      refine lv_aload_n hx hb d_EX_callOrGiveOut_57 rfl (lv_at hl 2 rfl) ?_
      refine mz_get E w 5 12 (v := .int (mz_gI q4.2 5 12)) (by decide) rfl rfl ii_2 (by decide) (Nat.le_of_ble_eq_true rfl) k_390 rfl d_EX_callOrGiveOut_58 ?_
      refine lv_aload_n hx hb d_EX_callOrGiveOut_61 rfl (lv_at hl 2 rfl) ?_
      refine mz_get E w 5 13 (v := .int (mz_gI q4.2 5 13)) (by decide) rfl rfl ii_2 (by decide) (Nat.le_of_ble_eq_true rfl) k_391 rfl d_EX_callOrGiveOut_62 ?_
      refine lv_aload_n hx hb d_EX_callOrGiveOut_65 rfl (lv_at hl 2 rfl) ?_
      obtain ⟨q14, hq15, hf⟩ := mz_bd hf
      refine mz_callV E w (k := 5) (As := []) (rest := [.int (mz_gI q4.2 5 13), .int (mz_gI q4.2 5 12), .ref (ad 1), .ref (ad 32)]) (c_EX_toldLine hSK l n q4.2 q14 hq15) (by decide) rfl rfl k_541 k_3 k_538 k_540 ks_8 hm_EX_toldLine ⟨⟨rfl, rfl⟩, Nat.le_of_ble_eq_true rfl, Nat.le_of_ble_eq_true rfl⟩ rfl hl.1 rfl (Nat.le_of_ble_eq_true rfl) d_EX_callOrGiveOut_66 ⟨Nat.zero_le _, Nat.zero_le _⟩ (st1 := [.int q14.1, .int (mz_gI q4.2 5 13), .int (mz_gI q4.2 5 12), .ref (ad 1), .ref (ad 32)]) rfl (fun H locs w => ?_)
      refine lv_aload_n hx hb d_EX_callOrGiveOut_69 rfl (lv_at hl 2 rfl) ?_
      refine mz_get E w 5 5 (v := .ref (ad 30)) (by decide) rfl rfl ii_2 (by decide) (Nat.le_of_ble_eq_true rfl) k_377 rfl d_EX_callOrGiveOut_70 ?_
      refine mz_get E w 30 4 (v := .int (mz_gI q14.2 30 4)) (by decide) rfl rfl ii_8 (by decide) (Nat.le_of_ble_eq_true rfl) k_336 rfl d_EX_callOrGiveOut_73 ?_
      obtain ⟨q16, hq17, hf⟩ := mz_bd hf
      refine mz_callV E w (k := 32) (As := [.ref (ad 1), .int (mz_gI q4.2 5 12), .int (mz_gI q4.2 5 13), .int q14.1, .int (mz_gI q14.2 30 4)]) (rest := []) (c_OU_add hSK l n (mz_gI q4.2 5 12) (mz_gI q4.2 5 13) q14.1 (mz_gI q14.2 30 4) q14.2 q16 hq17) (by decide) rfl rfl k_744 k_5 k_741 k_742 k_743 hm_OU_add ⟨⟨rfl, rfl⟩, Nat.le_of_ble_eq_true rfl, Nat.le_of_ble_eq_true rfl⟩ rfl hl.1 rfl (Nat.le_of_ble_eq_true rfl) d_EX_callOrGiveOut_76 ⟨Nat.zero_le _, Nat.zero_le _⟩ (st1 := [.int q16.1]) rfl (fun H locs w => ?_)
      refine lv_if_ne (tgt := 122) hx hb d_EX_callOrGiveOut_79 (by decide) (fun hc18 => ?_) (fun hc18 => ?_)
      · have hf := mz_f hc18 hf
        obtain rfl := Option.some.inj hf
        exact mz_vret E w rfl d_EX_callOrGiveOut_122
      · have hf := mz_t hc18 hf
        refine lv_aload_n hx hb d_EX_callOrGiveOut_82 rfl (lv_at hl 2 rfl) ?_
        refine lv_bipush (v := (6 : Int32)) hx hb d_EX_callOrGiveOut_83 (by decide) ?_
        obtain ⟨q19, hq20, hf⟩ := mz_bd hf
        refine mz_callV E w (k := 5) (As := [.int (6 : Int32)]) (rest := []) (c_EX_fail hSK l n (6 : Int32) q16.2 q19 hq20) (by decide) rfl rfl k_537 k_3 k_534 k_536 ks_7 hm_EX_fail ⟨⟨rfl, rfl⟩, Nat.le_of_ble_eq_true rfl, Nat.le_of_ble_eq_true rfl⟩ rfl hl.1 rfl (Nat.le_of_ble_eq_true rfl) d_EX_callOrGiveOut_85 ⟨Nat.zero_le _, Nat.zero_le _⟩ (st1 := [.int q19.1]) rfl (fun H locs w => ?_)
        refine lv_pop hx hb d_EX_callOrGiveOut_88 rfl ?_
        refine lv_goto (tgt := 122) hx hb d_EX_callOrGiveOut_89 (by decide) ?_
        obtain rfl := Option.some.inj hf
        exact mz_vret E w rfl d_EX_callOrGiveOut_122
  · have hf := mz_f hc1 hf
    obtain rfl := Option.some.inj hf
    exact mz_vret E w rfl d_EX_callOrGiveOut_11

/-! MacroHouse$Expander.isValueGood()Z -/
abbrev r_EX_isValueGood : Room := { frames := 3, cells := 0, slots := 0, locals := 63 }
def f_EX_isValueGood_20 (n : Nat) (t : mz_St) : Option (Int32 × mz_St) := (f_EX_fail n (1 : Int32) t).bind fun q2 => if q2.1 = 0 ∨ q2.1 = 1 then (some (q2.1, q2.2)) else none
def f_EX_isValueGood_50 (n : Nat) (t : mz_St) : Option (Int32 × mz_St) := some ((1 : Int32), t)
def f_EX_isValueGood (n : Nat) (t : mz_St) : Option (Int32 × mz_St) := if (mz_gI t 6 6) = 0 then ((f_RE_isDone n t).bind fun q5 => if q5.1 = 0 then (f_EX_isValueGood_20 n  q5.2) else (if (mz_gI q5.2 6 7) = 0 then (f_EX_isValueGood_50 n  q5.2) else ((f_EX_fail n (mz_gI q5.2 6 7) q5.2).bind fun q9 => if q9.1 = 0 then (some ((0 : Int32), q9.2)) else (f_EX_isValueGood_50 n  q9.2)))) else (f_EX_isValueGood_20 n  t)
set_option maxRecDepth 100000 in
set_option maxHeartbeats 4000000 in
theorem b_EX_isValueGood_20 {SX : State → Heap → Prop} {dC : Nat → ClassId} {dI : Nat → Nat → Nat} {ad en : Nat → Nat} {ca : Nat → ClassId} {p : Program} {l : Launch} {e : Env} {s : State} {m : MethodId} {args : Array Value} {below : List Frame} {meth : Method} {c : Code} {res : (Int32 × mz_St)} (E : mz_En SX 80 mz_cl dC dI ad ca p s m meth c prog_6_method_13_code 1 "MacroHouse$Expander" (some (.boolean))) (n : Nat) : ∀ (t : mz_St), f_EX_isValueGood_20 n t = some res → ∀ (H : Heap) (locs : List Loc) (ls : Array Slot), mz_Wd mz_tC 80 mz_cl dC dI ad en ca s t H locs → lv_has ls 1 [(0, .ref (ad 5))] → W p l e (r_EX_isValueGood) s m args below meth c H locs 0 0 (MQ below (mz_Q SX mz_tC 80 mz_cl dC dI ad en ca (some (.int res.1)) res.2) args s 0 0 (mz_A ad 80)) (F0 m 20 ls []) := by
  obtain ⟨hx, hb, hml, hown, hcx, -, -, hSX, -, -, hSK⟩ := id E
  intro t hf H locs ls w hl
  unfold f_EX_isValueGood_20 at hf
  refine lv_aload_n hx hb d_EX_isValueGood_20 rfl (lv_at hl 0 rfl) ?_
  refine lv_iconst (v := (1 : Int32)) hx hb d_EX_isValueGood_21 (by decide) ?_
  obtain ⟨q2, hq3, hf⟩ := mz_bd hf
  refine mz_callV E w (k := 5) (As := [.int (1 : Int32)]) (rest := []) (c_EX_fail hSK l n (1 : Int32) t q2 hq3) (by decide) rfl rfl k_537 k_3 k_534 k_536 ks_7 hm_EX_fail ⟨⟨rfl, rfl⟩, Nat.le_of_ble_eq_true rfl, Nat.le_of_ble_eq_true rfl⟩ rfl hl.1 rfl (Nat.le_of_ble_eq_true rfl) d_EX_isValueGood_22 ⟨Nat.zero_le _, Nat.zero_le _⟩ (st1 := [.int q2.1]) rfl (fun H locs w => ?_)
  obtain ⟨hz4, hf⟩ := mz_gd hf
  obtain rfl := Option.some.inj hf
  exact mz_zret E w (mz_b01 hz4) rfl d_EX_isValueGood_25
set_option maxRecDepth 100000 in
set_option maxHeartbeats 4000000 in
theorem b_EX_isValueGood_50 {SX : State → Heap → Prop} {dC : Nat → ClassId} {dI : Nat → Nat → Nat} {ad en : Nat → Nat} {ca : Nat → ClassId} {p : Program} {l : Launch} {e : Env} {s : State} {m : MethodId} {args : Array Value} {below : List Frame} {meth : Method} {c : Code} {res : (Int32 × mz_St)} (E : mz_En SX 80 mz_cl dC dI ad ca p s m meth c prog_6_method_13_code 1 "MacroHouse$Expander" (some (.boolean))) (n : Nat) : ∀ (t : mz_St), f_EX_isValueGood_50 n t = some res → ∀ (H : Heap) (locs : List Loc) (ls : Array Slot), mz_Wd mz_tC 80 mz_cl dC dI ad en ca s t H locs → lv_has ls 1 [] → W p l e (r_EX_isValueGood) s m args below meth c H locs 0 0 (MQ below (mz_Q SX mz_tC 80 mz_cl dC dI ad en ca (some (.int res.1)) res.2) args s 0 0 (mz_A ad 80)) (F0 m 50 ls []) := by
  obtain ⟨hx, hb, hml, hown, hcx, -, -, hSX, -, -, hSK⟩ := id E
  intro t hf H locs ls w hl
  unfold f_EX_isValueGood_50 at hf
  refine lv_iconst (v := (1 : Int32)) hx hb d_EX_isValueGood_50 (by decide) ?_
  refine lv_goto (tgt := 55) hx hb d_EX_isValueGood_51 (by decide) ?_
  obtain rfl := Option.some.inj hf
  exact mz_zret E w (by decide) rfl d_EX_isValueGood_55
set_option maxRecDepth 100000 in
set_option maxHeartbeats 4000000 in
theorem c_EX_isValueGood {SX : State → Heap → Prop} {dC : Nat → ClassId} {dI : Nat → Nat → Nat} {ad en : Nat → Nat} {ca : Nat → ClassId} (hSK : mz_SK SX ad 80) (l : Launch) (n : Nat) (t : mz_St) (res : (Int32 × mz_St)) (hf : f_EX_isValueGood n t = some res) : mz_C SX mz_tC 80 mz_cl dC dI ad en ca l y_EX_isValueGood prog_6_method_13_code 1 (some (.boolean)) (r_EX_isValueGood) [.ref (ad 5)] t (some (.int res.1)) res.2 := by
  unfold f_EX_isValueGood at hf
  refine mz_met hSK (by decide) (Nat.le_of_ble_eq_true rfl) ?_
  intro p e s m args below meth c ls E w hl
  obtain ⟨hx, hb, hml, hown, hcx, -, -, hSX, -, -, -⟩ := id E
  have hl : lv_has ls 1 [(0, .ref (ad 5))] := hl
  refine lv_aload_n hx hb d_EX_isValueGood_0 rfl (lv_at hl 0 rfl) ?_
  refine mz_get E w 5 1 (v := .ref (ad 6)) (by decide) rfl rfl ii_2 (by decide) (Nat.le_of_ble_eq_true rfl) k_371 rfl d_EX_isValueGood_1 ?_
  refine mz_get E w 6 6 (v := .int (mz_gI t 6 6)) (by decide) rfl rfl ii_3 (by decide) (Nat.le_of_ble_eq_true rfl) k_191 rfl d_EX_isValueGood_4 ?_
  refine lv_if_ne (tgt := 20) hx hb d_EX_isValueGood_7 (by decide) (fun hc1 => ?_) (fun hc1 => ?_)
  · have hf := mz_f hc1 hf
    exact b_EX_isValueGood_20 E n  t hf _ _ _ w (lv_sub hl [0] rfl)
  · have hf := mz_t hc1 hf
    refine lv_aload_n hx hb d_EX_isValueGood_10 rfl (lv_at hl 0 rfl) ?_
    refine mz_get E w 5 1 (v := .ref (ad 6)) (by decide) rfl rfl ii_2 (by decide) (Nat.le_of_ble_eq_true rfl) k_371 rfl d_EX_isValueGood_11 ?_
    obtain ⟨q5, hq6, hf⟩ := mz_bd hf
    refine mz_callV E w (k := 6) (As := []) (rest := []) (c_RE_isDone hSK l n t q5 hq6) (by decide) rfl rfl k_862 k_11 k_859 k_860 k_861 hm_RE_isDone ⟨⟨rfl, rfl⟩, Nat.le_of_ble_eq_true rfl, Nat.le_of_ble_eq_true rfl⟩ rfl hl.1 rfl (Nat.le_of_ble_eq_true rfl) d_EX_isValueGood_14 ⟨Nat.zero_le _, Nat.zero_le _⟩ (st1 := [.int q5.1]) rfl (fun H locs w => ?_)
    refine lv_if_ne (tgt := 26) hx hb d_EX_isValueGood_17 (by decide) (fun hc7 => ?_) (fun hc7 => ?_)
    · have hf := mz_f hc7 hf
      refine lv_aload_n hx hb d_EX_isValueGood_26 rfl (lv_at hl 0 rfl) ?_
      refine mz_get E w 5 1 (v := .ref (ad 6)) (by decide) rfl rfl ii_2 (by decide) (Nat.le_of_ble_eq_true rfl) k_371 rfl d_EX_isValueGood_27 ?_
      refine mz_get E w 6 7 (v := .int (mz_gI q5.2 6 7)) (by decide) rfl rfl ii_3 (by decide) (Nat.le_of_ble_eq_true rfl) k_193 rfl d_EX_isValueGood_30 ?_
      refine lv_if_eq (tgt := 50) hx hb d_EX_isValueGood_33 (by decide) (fun hc8 => ?_) (fun hc8 => ?_)
      · have hf := mz_t hc8 hf
        exact b_EX_isValueGood_50 E n  q5.2 hf _ _ _ w (lv_sub hl [] rfl)
      · have hf := mz_f hc8 hf
        refine lv_aload_n hx hb d_EX_isValueGood_36 rfl (lv_at hl 0 rfl) ?_
        refine lv_aload_n hx hb d_EX_isValueGood_37 rfl (lv_at hl 0 rfl) ?_
        refine mz_get E w 5 1 (v := .ref (ad 6)) (by decide) rfl rfl ii_2 (by decide) (Nat.le_of_ble_eq_true rfl) k_371 rfl d_EX_isValueGood_38 ?_
        refine mz_get E w 6 7 (v := .int (mz_gI q5.2 6 7)) (by decide) rfl rfl ii_3 (by decide) (Nat.le_of_ble_eq_true rfl) k_193 rfl d_EX_isValueGood_41 ?_
        obtain ⟨q9, hq10, hf⟩ := mz_bd hf
        refine mz_callV E w (k := 5) (As := [.int (mz_gI q5.2 6 7)]) (rest := []) (c_EX_fail hSK l n (mz_gI q5.2 6 7) q5.2 q9 hq10) (by decide) rfl rfl k_537 k_3 k_534 k_536 ks_7 hm_EX_fail ⟨⟨rfl, rfl⟩, Nat.le_of_ble_eq_true rfl, Nat.le_of_ble_eq_true rfl⟩ rfl hl.1 rfl (Nat.le_of_ble_eq_true rfl) d_EX_isValueGood_44 ⟨Nat.zero_le _, Nat.zero_le _⟩ (st1 := [.int q9.1]) rfl (fun H locs w => ?_)
        refine lv_if_eq (tgt := 54) hx hb d_EX_isValueGood_47 (by decide) (fun hc11 => ?_) (fun hc11 => ?_)
        · have hf := mz_t hc11 hf
          refine lv_iconst (v := (0 : Int32)) hx hb d_EX_isValueGood_54 (by decide) ?_
          obtain rfl := Option.some.inj hf
          exact mz_zret E w (by decide) rfl d_EX_isValueGood_55
        · have hf := mz_f hc11 hf
          exact b_EX_isValueGood_50 E n  q9.2 hf _ _ _ w (lv_sub hl [] rfl)
    · have hf := mz_t hc7 hf
      exact b_EX_isValueGood_20 E n  q5.2 hf _ _ _ w (lv_sub hl [0] rfl)

/-! MacroHouse$Expander.setConstant()V -/
abbrev r_EX_setConstant : Room := { frames := 74, cells := 0, slots := 0, locals := 2312 }
def f_EX_setConstant_22 (n : Nat) (t : mz_St) : Option mz_St := (f_EX_fail n (1 : Int32) t).bind fun q4 => some q4.2
def f_EX_setConstant (n : Nat) (t : mz_St) : Option mz_St := (f_RE_takeWord n t).bind fun q1 => if q1.1 = 0 then (f_EX_setConstant_22 n  q1.2) else ((f_RE_take n (44 : Int32) q1.2).bind fun q6 => if q6.1 = 0 then (f_EX_setConstant_22 n  q6.2) else ((f_RE_readValue n (f_RE_factor n 12) (0 : Int32) q6.2).bind fun q9 => (f_EX_isValueGood n q9.2).bind fun q11 => if q11.1 = 0 then (some q11.2) else ((f_CN_set n (mz_gI q6.2 6 4) (mz_gI q6.2 6 5) q9.1 q11.2).bind fun q14 => if q14.1 = 0 then ((f_EX_fail n (6 : Int32) q14.2).bind fun q17 => some q17.2) else (some q14.2))))
set_option maxRecDepth 100000 in
set_option maxHeartbeats 4000000 in
theorem b_EX_setConstant_22 {SX : State → Heap → Prop} {dC : Nat → ClassId} {dI : Nat → Nat → Nat} {ad en : Nat → Nat} {ca : Nat → ClassId} {p : Program} {l : Launch} {e : Env} {s : State} {m : MethodId} {args : Array Value} {below : List Frame} {meth : Method} {c : Code} {res : mz_St} (E : mz_En SX 80 mz_cl dC dI ad ca p s m meth c prog_6_method_14_code 4 "MacroHouse$Expander" none) (n : Nat) : ∀ (t : mz_St), f_EX_setConstant_22 n t = some res → ∀ (H : Heap) (locs : List Loc) (ls : Array Slot), mz_Wd mz_tC 80 mz_cl dC dI ad en ca s t H locs → lv_has ls 4 [(0, .ref (ad 5))] → W p l e (r_EX_setConstant) s m args below meth c H locs 0 0 (MQ below (mz_Q SX mz_tC 80 mz_cl dC dI ad en ca none res) args s 0 0 (mz_A ad 80)) (F0 m 22 ls []) := by
  obtain ⟨hx, hb, hml, hown, hcx, -, -, hSX, -, -, hSK⟩ := id E
  intro t hf H locs ls w hl
  unfold f_EX_setConstant_22 at hf
  refine lv_aload_n hx hb d_EX_setConstant_22 rfl (lv_at hl 0 rfl) ?_
  refine lv_iconst (v := (1 : Int32)) hx hb d_EX_setConstant_23 (by decide) ?_
  obtain ⟨q4, hq5, hf⟩ := mz_bd hf
  refine mz_callV E w (k := 5) (As := [.int (1 : Int32)]) (rest := []) (c_EX_fail hSK l n (1 : Int32) t q4 hq5) (by decide) rfl rfl k_537 k_3 k_534 k_536 ks_7 hm_EX_fail ⟨⟨rfl, rfl⟩, Nat.le_of_ble_eq_true rfl, Nat.le_of_ble_eq_true rfl⟩ rfl hl.1 rfl (Nat.le_of_ble_eq_true rfl) d_EX_setConstant_24 ⟨Nat.zero_le _, Nat.zero_le _⟩ (st1 := [.int q4.1]) rfl (fun H locs w => ?_)
  refine lv_pop hx hb d_EX_setConstant_27 rfl ?_
  obtain rfl := Option.some.inj hf
  exact mz_vret E w rfl d_EX_setConstant_28
set_option maxRecDepth 100000 in
set_option maxHeartbeats 4000000 in
theorem c_EX_setConstant {SX : State → Heap → Prop} {dC : Nat → ClassId} {dI : Nat → Nat → Nat} {ad en : Nat → Nat} {ca : Nat → ClassId} (hSK : mz_SK SX ad 80) (l : Launch) (n : Nat) (t : mz_St) (res : mz_St) (hf : f_EX_setConstant n t = some res) : mz_C SX mz_tC 80 mz_cl dC dI ad en ca l y_EX_setConstant prog_6_method_14_code 4 none (r_EX_setConstant) [.ref (ad 5)] t none res := by
  unfold f_EX_setConstant at hf
  refine mz_met hSK (by decide) (Nat.le_of_ble_eq_true rfl) ?_
  intro p e s m args below meth c ls E w hl
  obtain ⟨hx, hb, hml, hown, hcx, -, -, hSX, -, -, -⟩ := id E
  have hl : lv_has ls 4 [(0, .ref (ad 5))] := hl
  refine lv_aload_n hx hb d_EX_setConstant_0 rfl (lv_at hl 0 rfl) ?_
  refine mz_get E w 5 1 (v := .ref (ad 6)) (by decide) rfl rfl ii_2 (by decide) (Nat.le_of_ble_eq_true rfl) k_371 rfl d_EX_setConstant_1 ?_
  obtain ⟨q1, hq2, hf⟩ := mz_bd hf
  refine mz_callV E w (k := 6) (As := []) (rest := []) (c_RE_takeWord hSK l n t q1 hq2) (by decide) rfl rfl k_793 k_11 k_790 k_791 k_792 hm_RE_takeWord ⟨⟨rfl, rfl⟩, Nat.le_of_ble_eq_true rfl, Nat.le_of_ble_eq_true rfl⟩ rfl hl.1 rfl (Nat.le_of_ble_eq_true rfl) d_EX_setConstant_4 ⟨Nat.zero_le _, Nat.zero_le _⟩ (st1 := [.int q1.1]) rfl (fun H locs w => ?_)
  refine lv_if_eq (tgt := 22) hx hb d_EX_setConstant_7 (by decide) (fun hc3 => ?_) (fun hc3 => ?_)
  · have hf := mz_t hc3 hf
    exact b_EX_setConstant_22 E n  q1.2 hf _ _ _ w (lv_sub hl [0] rfl)
  · have hf := mz_f hc3 hf
    refine lv_aload_n hx hb d_EX_setConstant_10 rfl (lv_at hl 0 rfl) ?_
    refine mz_get E w 5 1 (v := .ref (ad 6)) (by decide) rfl rfl ii_2 (by decide) (Nat.le_of_ble_eq_true rfl) k_371 rfl d_EX_setConstant_11 ?_
    refine lv_bipush (v := (44 : Int32)) hx hb d_EX_setConstant_14 (by decide) ?_
    obtain ⟨q6, hq7, hf⟩ := mz_bd hf
    refine mz_callV E w (k := 6) (As := [.int (44 : Int32)]) (rest := []) (c_RE_take hSK l n (44 : Int32) q1.2 q6 hq7) (by decide) rfl rfl k_799 k_11 k_796 k_797 k_798 hm_RE_take ⟨⟨rfl, rfl⟩, Nat.le_of_ble_eq_true rfl, Nat.le_of_ble_eq_true rfl⟩ rfl hl.1 rfl (Nat.le_of_ble_eq_true rfl) d_EX_setConstant_16 ⟨Nat.zero_le _, Nat.zero_le _⟩ (st1 := [.int q6.1]) rfl (fun H locs w => ?_)
    refine lv_if_ne (tgt := 29) hx hb d_EX_setConstant_19 (by decide) (fun hc8 => ?_) (fun hc8 => ?_)
    · have hf := mz_f hc8 hf
      refine lv_aload_n hx hb d_EX_setConstant_29 rfl (lv_at hl 0 rfl) ?_
      refine mz_get E w 5 1 (v := .ref (ad 6)) (by decide) rfl rfl ii_2 (by decide) (Nat.le_of_ble_eq_true rfl) k_371 rfl d_EX_setConstant_30 ?_
      refine mz_get E w 6 4 (v := .int (mz_gI q6.2 6 4)) (by decide) rfl rfl ii_3 (by decide) (Nat.le_of_ble_eq_true rfl) k_186 rfl d_EX_setConstant_33 ?_
      refine lv_istore_n (lv' := [(1, .int (mz_gI q6.2 6 4)), (0, .ref (ad 5))]) hx hb d_EX_setConstant_36 rfl hl (by decide) rfl (fun ls hl => ?_)
      refine lv_aload_n hx hb d_EX_setConstant_37 rfl (lv_at hl 1 rfl) ?_
      refine mz_get E w 5 1 (v := .ref (ad 6)) (by decide) rfl rfl ii_2 (by decide) (Nat.le_of_ble_eq_true rfl) k_371 rfl d_EX_setConstant_38 ?_
      refine mz_get E w 6 5 (v := .int (mz_gI q6.2 6 5)) (by decide) rfl rfl ii_3 (by decide) (Nat.le_of_ble_eq_true rfl) k_189 rfl d_EX_setConstant_41 ?_
      refine lv_istore_n (lv' := [(2, .int (mz_gI q6.2 6 5)), (1, .int (mz_gI q6.2 6 4)), (0, .ref (ad 5))]) hx hb d_EX_setConstant_44 rfl hl (by decide) rfl (fun ls hl => ?_)
      refine lv_aload_n hx hb d_EX_setConstant_45 rfl (lv_at hl 2 rfl) ?_
      refine mz_get E w 5 1 (v := .ref (ad 6)) (by decide) rfl rfl ii_2 (by decide) (Nat.le_of_ble_eq_true rfl) k_371 rfl d_EX_setConstant_46 ?_
      refine lv_iconst (v := (0 : Int32)) hx hb d_EX_setConstant_49 (by decide) ?_
      obtain ⟨q9, hq10, hf⟩ := mz_bd hf
      refine mz_callV E w (k := 6) (As := [.int (0 : Int32)]) (rest := []) (c_RE_readValue hSK l n (f_RE_factor n 12) (c_RE_factor hSK l n 12) (0 : Int32) q6.2 q9 hq10) (by decide) rfl rfl k_804 k_11 k_801 k_802 k_803 hm_RE_readValue ⟨⟨rfl, rfl⟩, Nat.le_of_ble_eq_true rfl, Nat.le_of_ble_eq_true rfl⟩ rfl hl.1 rfl (Nat.le_of_ble_eq_true rfl) d_EX_setConstant_50 ⟨Nat.zero_le _, Nat.zero_le _⟩ (st1 := [.int q9.1]) rfl (fun H locs w => ?_)
      refine lv_istore_n (lv' := [(3, .int q9.1), (2, .int (mz_gI q6.2 6 5)), (1, .int (mz_gI q6.2 6 4)), (0, .ref (ad 5))]) hx hb d_EX_setConstant_53 rfl hl (by decide) rfl (fun ls hl => ?_)
      refine lv_aload_n hx hb d_EX_setConstant_54 rfl (lv_at hl 3 rfl) ?_
      obtain ⟨q11, hq12, hf⟩ := mz_bd hf
      refine mz_callV E w (k := 5) (As := []) (rest := []) (c_EX_isValueGood hSK l n q9.2 q11 hq12) (by decide) rfl rfl k_858 k_3 k_855 k_857 ks_30 hm_EX_isValueGood ⟨⟨rfl, rfl⟩, Nat.le_of_ble_eq_true rfl, Nat.le_of_ble_eq_true rfl⟩ rfl hl.1 rfl (Nat.le_of_ble_eq_true rfl) d_EX_setConstant_55 ⟨Nat.zero_le _, Nat.zero_le _⟩ (st1 := [.int q11.1]) rfl (fun H locs w => ?_)
      refine lv_if_eq (tgt := 81) hx hb d_EX_setConstant_58 (by decide) (fun hc13 => ?_) (fun hc13 => ?_)
      · have hf := mz_t hc13 hf
        obtain rfl := Option.some.inj hf
        exact mz_vret E w rfl d_EX_setConstant_81
      · have hf := mz_f hc13 hf
        refine lv_aload_n hx hb d_EX_setConstant_61 rfl (lv_at hl 3 rfl) ?_
        refine mz_get E w 5 3 (v := .ref (ad 13)) (by decide) rfl rfl ii_2 (by decide) (Nat.le_of_ble_eq_true rfl) k_373 rfl d_EX_setConstant_62 ?_
        refine lv_iload_n hx hb d_EX_setConstant_65 rfl (lv_at hl 2 rfl) ?_
        refine lv_iload_n hx hb d_EX_setConstant_66 rfl (lv_at hl 1 rfl) ?_
        refine lv_iload_n hx hb d_EX_setConstant_67 rfl (lv_at hl 0 rfl) ?_
        obtain ⟨q14, hq15, hf⟩ := mz_bd hf
        refine mz_callV E w (k := 13) (As := [.int (mz_gI q6.2 6 4), .int (mz_gI q6.2 6 5), .int q9.1]) (rest := []) (c_CN_set hSK l n (mz_gI q6.2 6 4) (mz_gI q6.2 6 5) q9.1 q11.2 q14 hq15) (by decide) rfl rfl k_866 k_8 k_863 k_864 k_865 hm_CN_set ⟨⟨rfl, rfl⟩, Nat.le_of_ble_eq_true rfl, Nat.le_of_ble_eq_true rfl⟩ rfl hl.1 rfl (Nat.le_of_ble_eq_true rfl) d_EX_setConstant_68 ⟨Nat.zero_le _, Nat.zero_le _⟩ (st1 := [.int q14.1]) rfl (fun H locs w => ?_)
        refine lv_if_ne (tgt := 81) hx hb d_EX_setConstant_71 (by decide) (fun hc16 => ?_) (fun hc16 => ?_)
        · have hf := mz_f hc16 hf
          obtain rfl := Option.some.inj hf
          exact mz_vret E w rfl d_EX_setConstant_81
        · have hf := mz_t hc16 hf
          refine lv_aload_n hx hb d_EX_setConstant_74 rfl (lv_at hl 3 rfl) ?_
          refine lv_bipush (v := (6 : Int32)) hx hb d_EX_setConstant_75 (by decide) ?_
          obtain ⟨q17, hq18, hf⟩ := mz_bd hf
          refine mz_callV E w (k := 5) (As := [.int (6 : Int32)]) (rest := []) (c_EX_fail hSK l n (6 : Int32) q14.2 q17 hq18) (by decide) rfl rfl k_537 k_3 k_534 k_536 ks_7 hm_EX_fail ⟨⟨rfl, rfl⟩, Nat.le_of_ble_eq_true rfl, Nat.le_of_ble_eq_true rfl⟩ rfl hl.1 rfl (Nat.le_of_ble_eq_true rfl) d_EX_setConstant_77 ⟨Nat.zero_le _, Nat.zero_le _⟩ (st1 := [.int q17.1]) rfl (fun H locs w => ?_)
          refine lv_pop hx hb d_EX_setConstant_80 rfl ?_
          obtain rfl := Option.some.inj hf
          exact mz_vret E w rfl d_EX_setConstant_81
    · have hf := mz_t hc8 hf
      exact b_EX_setConstant_22 E n  q6.2 hf _ _ _ w (lv_sub hl [0] rfl)

/-! MacroHouse$Expander.forgetConstant()V -/
abbrev r_EX_forgetConstant : Room := { frames := 4, cells := 0, slots := 0, locals := 94 }
def f_EX_forgetConstant_20 (n : Nat) (t : mz_St) : Option mz_St := (f_EX_fail n (1 : Int32) t).bind fun q4 => some q4.2
def f_EX_forgetConstant (n : Nat) (t : mz_St) : Option mz_St := (f_RE_takeWord n t).bind fun q1 => if q1.1 = 0 then (f_EX_forgetConstant_20 n  q1.2) else ((f_RE_isDone n q1.2).bind fun q6 => if q6.1 = 0 then (f_EX_forgetConstant_20 n  q6.2) else ((f_CN_forget n (mz_gI q6.2 6 4) (mz_gI q6.2 6 5) q6.2).bind fun q9 => if q9.1 = 0 then ((f_EX_fail n (3 : Int32) q9.2).bind fun q12 => some q12.2) else (some q9.2)))
set_option maxRecDepth 100000 in
set_option maxHeartbeats 4000000 in
theorem b_EX_forgetConstant_20 {SX : State → Heap → Prop} {dC : Nat → ClassId} {dI : Nat → Nat → Nat} {ad en : Nat → Nat} {ca : Nat → ClassId} {p : Program} {l : Launch} {e : Env} {s : State} {m : MethodId} {args : Array Value} {below : List Frame} {meth : Method} {c : Code} {res : mz_St} (E : mz_En SX 80 mz_cl dC dI ad ca p s m meth c prog_6_method_15_code 1 "MacroHouse$Expander" none) (n : Nat) : ∀ (t : mz_St), f_EX_forgetConstant_20 n t = some res → ∀ (H : Heap) (locs : List Loc) (ls : Array Slot), mz_Wd mz_tC 80 mz_cl dC dI ad en ca s t H locs → lv_has ls 1 [(0, .ref (ad 5))] → W p l e (r_EX_forgetConstant) s m args below meth c H locs 0 0 (MQ below (mz_Q SX mz_tC 80 mz_cl dC dI ad en ca none res) args s 0 0 (mz_A ad 80)) (F0 m 20 ls []) := by
  obtain ⟨hx, hb, hml, hown, hcx, -, -, hSX, -, -, hSK⟩ := id E
  intro t hf H locs ls w hl
  unfold f_EX_forgetConstant_20 at hf
  refine lv_aload_n hx hb d_EX_forgetConstant_20 rfl (lv_at hl 0 rfl) ?_
  refine lv_iconst (v := (1 : Int32)) hx hb d_EX_forgetConstant_21 (by decide) ?_
  obtain ⟨q4, hq5, hf⟩ := mz_bd hf
  refine mz_callV E w (k := 5) (As := [.int (1 : Int32)]) (rest := []) (c_EX_fail hSK l n (1 : Int32) t q4 hq5) (by decide) rfl rfl k_537 k_3 k_534 k_536 ks_7 hm_EX_fail ⟨⟨rfl, rfl⟩, Nat.le_of_ble_eq_true rfl, Nat.le_of_ble_eq_true rfl⟩ rfl hl.1 rfl (Nat.le_of_ble_eq_true rfl) d_EX_forgetConstant_22 ⟨Nat.zero_le _, Nat.zero_le _⟩ (st1 := [.int q4.1]) rfl (fun H locs w => ?_)
  refine lv_pop hx hb d_EX_forgetConstant_25 rfl ?_
  refine lv_goto (tgt := 59) hx hb d_EX_forgetConstant_26 (by decide) ?_
  obtain rfl := Option.some.inj hf
  exact mz_vret E w rfl d_EX_forgetConstant_59
set_option maxRecDepth 100000 in
set_option maxHeartbeats 4000000 in
theorem c_EX_forgetConstant {SX : State → Heap → Prop} {dC : Nat → ClassId} {dI : Nat → Nat → Nat} {ad en : Nat → Nat} {ca : Nat → ClassId} (hSK : mz_SK SX ad 80) (l : Launch) (n : Nat) (t : mz_St) (res : mz_St) (hf : f_EX_forgetConstant n t = some res) : mz_C SX mz_tC 80 mz_cl dC dI ad en ca l y_EX_forgetConstant prog_6_method_15_code 1 none (r_EX_forgetConstant) [.ref (ad 5)] t none res := by
  unfold f_EX_forgetConstant at hf
  refine mz_met hSK (by decide) (Nat.le_of_ble_eq_true rfl) ?_
  intro p e s m args below meth c ls E w hl
  obtain ⟨hx, hb, hml, hown, hcx, -, -, hSX, -, -, -⟩ := id E
  have hl : lv_has ls 1 [(0, .ref (ad 5))] := hl
  refine lv_aload_n hx hb d_EX_forgetConstant_0 rfl (lv_at hl 0 rfl) ?_
  refine mz_get E w 5 1 (v := .ref (ad 6)) (by decide) rfl rfl ii_2 (by decide) (Nat.le_of_ble_eq_true rfl) k_371 rfl d_EX_forgetConstant_1 ?_
  obtain ⟨q1, hq2, hf⟩ := mz_bd hf
  refine mz_callV E w (k := 6) (As := []) (rest := []) (c_RE_takeWord hSK l n t q1 hq2) (by decide) rfl rfl k_793 k_11 k_790 k_791 k_792 hm_RE_takeWord ⟨⟨rfl, rfl⟩, Nat.le_of_ble_eq_true rfl, Nat.le_of_ble_eq_true rfl⟩ rfl hl.1 rfl (Nat.le_of_ble_eq_true rfl) d_EX_forgetConstant_4 ⟨Nat.zero_le _, Nat.zero_le _⟩ (st1 := [.int q1.1]) rfl (fun H locs w => ?_)
  refine lv_if_eq (tgt := 20) hx hb d_EX_forgetConstant_7 (by decide) (fun hc3 => ?_) (fun hc3 => ?_)
  · have hf := mz_t hc3 hf
    exact b_EX_forgetConstant_20 E n  q1.2 hf _ _ _ w (lv_sub hl [0] rfl)
  · have hf := mz_f hc3 hf
    refine lv_aload_n hx hb d_EX_forgetConstant_10 rfl (lv_at hl 0 rfl) ?_
    refine mz_get E w 5 1 (v := .ref (ad 6)) (by decide) rfl rfl ii_2 (by decide) (Nat.le_of_ble_eq_true rfl) k_371 rfl d_EX_forgetConstant_11 ?_
    obtain ⟨q6, hq7, hf⟩ := mz_bd hf
    refine mz_callV E w (k := 6) (As := []) (rest := []) (c_RE_isDone hSK l n q1.2 q6 hq7) (by decide) rfl rfl k_862 k_11 k_859 k_860 k_861 hm_RE_isDone ⟨⟨rfl, rfl⟩, Nat.le_of_ble_eq_true rfl, Nat.le_of_ble_eq_true rfl⟩ rfl hl.1 rfl (Nat.le_of_ble_eq_true rfl) d_EX_forgetConstant_14 ⟨Nat.zero_le _, Nat.zero_le _⟩ (st1 := [.int q6.1]) rfl (fun H locs w => ?_)
    refine lv_if_ne (tgt := 29) hx hb d_EX_forgetConstant_17 (by decide) (fun hc8 => ?_) (fun hc8 => ?_)
    · have hf := mz_f hc8 hf
      refine lv_aload_n hx hb d_EX_forgetConstant_29 rfl (lv_at hl 0 rfl) ?_
      refine mz_get E w 5 3 (v := .ref (ad 13)) (by decide) rfl rfl ii_2 (by decide) (Nat.le_of_ble_eq_true rfl) k_373 rfl d_EX_forgetConstant_30 ?_
      refine lv_aload_n hx hb d_EX_forgetConstant_33 rfl (lv_at hl 0 rfl) ?_
      refine mz_get E w 5 1 (v := .ref (ad 6)) (by decide) rfl rfl ii_2 (by decide) (Nat.le_of_ble_eq_true rfl) k_371 rfl d_EX_forgetConstant_34 ?_
      refine mz_get E w 6 4 (v := .int (mz_gI q6.2 6 4)) (by decide) rfl rfl ii_3 (by decide) (Nat.le_of_ble_eq_true rfl) k_186 rfl d_EX_forgetConstant_37 ?_
      refine lv_aload_n hx hb d_EX_forgetConstant_40 rfl (lv_at hl 0 rfl) ?_
      refine mz_get E w 5 1 (v := .ref (ad 6)) (by decide) rfl rfl ii_2 (by decide) (Nat.le_of_ble_eq_true rfl) k_371 rfl d_EX_forgetConstant_41 ?_
      refine mz_get E w 6 5 (v := .int (mz_gI q6.2 6 5)) (by decide) rfl rfl ii_3 (by decide) (Nat.le_of_ble_eq_true rfl) k_189 rfl d_EX_forgetConstant_44 ?_
      obtain ⟨q9, hq10, hf⟩ := mz_bd hf
      refine mz_callV E w (k := 13) (As := [.int (mz_gI q6.2 6 4), .int (mz_gI q6.2 6 5)]) (rest := []) (c_CN_forget hSK l n (mz_gI q6.2 6 4) (mz_gI q6.2 6 5) q6.2 q9 hq10) (by decide) rfl rfl k_889 k_8 k_886 k_887 k_888 hm_CN_forget ⟨⟨rfl, rfl⟩, Nat.le_of_ble_eq_true rfl, Nat.le_of_ble_eq_true rfl⟩ rfl hl.1 rfl (Nat.le_of_ble_eq_true rfl) d_EX_forgetConstant_47 ⟨Nat.zero_le _, Nat.zero_le _⟩ (st1 := [.int q9.1]) rfl (fun H locs w => ?_)
      refine lv_if_ne (tgt := 59) hx hb d_EX_forgetConstant_50 (by decide) (fun hc11 => ?_) (fun hc11 => ?_)
      · have hf := mz_f hc11 hf
        obtain rfl := Option.some.inj hf
        exact mz_vret E w rfl d_EX_forgetConstant_59
      · have hf := mz_t hc11 hf
        refine lv_aload_n hx hb d_EX_forgetConstant_53 rfl (lv_at hl 0 rfl) ?_
        refine lv_iconst (v := (3 : Int32)) hx hb d_EX_forgetConstant_54 (by decide) ?_
        obtain ⟨q12, hq13, hf⟩ := mz_bd hf
        refine mz_callV E w (k := 5) (As := [.int (3 : Int32)]) (rest := []) (c_EX_fail hSK l n (3 : Int32) q9.2 q12 hq13) (by decide) rfl rfl k_537 k_3 k_534 k_536 ks_7 hm_EX_fail ⟨⟨rfl, rfl⟩, Nat.le_of_ble_eq_true rfl, Nat.le_of_ble_eq_true rfl⟩ rfl hl.1 rfl (Nat.le_of_ble_eq_true rfl) d_EX_forgetConstant_55 ⟨Nat.zero_le _, Nat.zero_le _⟩ (st1 := [.int q12.1]) rfl (fun H locs w => ?_)
        refine lv_pop hx hb d_EX_forgetConstant_58 rfl ?_
        obtain rfl := Option.some.inj hf
        exact mz_vret E w rfl d_EX_forgetConstant_59
    · have hf := mz_t hc8 hf
      exact b_EX_forgetConstant_20 E n  q6.2 hf _ _ _ w (lv_sub hl [0] rfl)

/-! MacroHouse$Expander.openCondition(ZZ)V -/
abbrev r_EX_openCondition : Room := { frames := 2, cells := 0, slots := 0, locals := 41 }
def f_EX_openCondition (n : Nat) (x1 : Int32) (x2 : Int32) (t : mz_St) : Option mz_St := (f_EX_toldLine n t).bind fun q1 => (f_CO_open n x1 x2 q1.1 q1.2).bind fun q3 => if q3.1 = 0 then ((f_EX_fail n (6 : Int32) q3.2).bind fun q6 => some q6.2) else (some q3.2)
set_option maxRecDepth 100000 in
set_option maxHeartbeats 4000000 in
theorem c_EX_openCondition {SX : State → Heap → Prop} {dC : Nat → ClassId} {dI : Nat → Nat → Nat} {ad en : Nat → Nat} {ca : Nat → ClassId} (hSK : mz_SK SX ad 80) (l : Launch) (n : Nat) (x1 : Int32) (x2 : Int32) (t : mz_St) (res : mz_St) (hf : f_EX_openCondition n x1 x2 t = some res) : mz_C SX mz_tC 80 mz_cl dC dI ad en ca l y_EX_openCondition prog_6_method_18_code 3 none (r_EX_openCondition) [.ref (ad 5), .int x1, .int x2] t none res := by
  unfold f_EX_openCondition at hf
  refine mz_met hSK (by decide) (Nat.le_of_ble_eq_true rfl) ?_
  intro p e s m args below meth c ls E w hl
  obtain ⟨hx, hb, hml, hown, hcx, -, -, hSX, -, -, -⟩ := id E
  have hl : lv_has ls 3 [(0, .ref (ad 5)), (1, .int x1), (2, .int x2)] := hl
  refine lv_aload_n hx hb d_EX_openCondition_0 rfl (lv_at hl 0 rfl) ?_
  refine mz_get E w 5 2 (v := .ref (ad 7)) (by decide) rfl rfl ii_2 (by decide) (Nat.le_of_ble_eq_true rfl) k_372 rfl d_EX_openCondition_1 ?_
  refine lv_iload_n hx hb d_EX_openCondition_4 rfl (lv_at hl 1 rfl) ?_
  refine lv_iload_n hx hb d_EX_openCondition_5 rfl (lv_at hl 2 rfl) ?_
  refine lv_aload_n hx hb d_EX_openCondition_6 rfl (lv_at hl 0 rfl) ?_
  obtain ⟨q1, hq2, hf⟩ := mz_bd hf
  refine mz_callV E w (k := 5) (As := []) (rest := [.int x2, .int x1, .ref (ad 7)]) (c_EX_toldLine hSK l n t q1 hq2) (by decide) rfl rfl k_541 k_3 k_538 k_540 ks_8 hm_EX_toldLine ⟨⟨rfl, rfl⟩, Nat.le_of_ble_eq_true rfl, Nat.le_of_ble_eq_true rfl⟩ rfl hl.1 rfl (Nat.le_of_ble_eq_true rfl) d_EX_openCondition_7 ⟨Nat.zero_le _, Nat.zero_le _⟩ (st1 := [.int q1.1, .int x2, .int x1, .ref (ad 7)]) rfl (fun H locs w => ?_)
  obtain ⟨q3, hq4, hf⟩ := mz_bd hf
  refine mz_callV E w (k := 7) (As := [.int x1, .int x2, .int q1.1]) (rest := []) (c_CO_open hSK l n x1 x2 q1.1 q1.2 q3 hq4) (by decide) rfl rfl k_909 k_4 k_906 k_907 k_908 hm_CO_open ⟨⟨rfl, rfl⟩, Nat.le_of_ble_eq_true rfl, Nat.le_of_ble_eq_true rfl⟩ rfl hl.1 rfl (Nat.le_of_ble_eq_true rfl) d_EX_openCondition_10 ⟨Nat.zero_le _, Nat.zero_le _⟩ (st1 := [.int q3.1]) rfl (fun H locs w => ?_)
  refine lv_if_ne (tgt := 23) hx hb d_EX_openCondition_13 (by decide) (fun hc5 => ?_) (fun hc5 => ?_)
  · have hf := mz_f hc5 hf
    obtain rfl := Option.some.inj hf
    exact mz_vret E w rfl d_EX_openCondition_23
  · have hf := mz_t hc5 hf
    refine lv_aload_n hx hb d_EX_openCondition_16 rfl (lv_at hl 0 rfl) ?_
    refine lv_bipush (v := (6 : Int32)) hx hb d_EX_openCondition_17 (by decide) ?_
    obtain ⟨q6, hq7, hf⟩ := mz_bd hf
    refine mz_callV E w (k := 5) (As := [.int (6 : Int32)]) (rest := []) (c_EX_fail hSK l n (6 : Int32) q3.2 q6 hq7) (by decide) rfl rfl k_537 k_3 k_534 k_536 ks_7 hm_EX_fail ⟨⟨rfl, rfl⟩, Nat.le_of_ble_eq_true rfl, Nat.le_of_ble_eq_true rfl⟩ rfl hl.1 rfl (Nat.le_of_ble_eq_true rfl) d_EX_openCondition_19 ⟨Nat.zero_le _, Nat.zero_le _⟩ (st1 := [.int q6.1]) rfl (fun H locs w => ?_)
    refine lv_pop hx hb d_EX_openCondition_22 rfl ?_
    obtain rfl := Option.some.inj hf
    exact mz_vret E w rfl d_EX_openCondition_23

/-! MacroHouse$Expander.openIf()V -/
abbrev r_EX_openIf : Room := { frames := 74, cells := 0, slots := 0, locals := 2312 }
def f_EX_openIf_27 (n : Nat) (s1 : Int32) (s2 : Int32) (t : mz_St) : Option mz_St := (f_EX_openCondition n s1 s2 t).bind fun q7 => some q7
def f_EX_openIf (n : Nat) (t : mz_St) : Option mz_St := (f_RE_readValue n (f_RE_factor n 12) (0 : Int32) t).bind fun q1 => (f_EX_isValueGood n q1.2).bind fun q3 => if q3.1 = 0 then (some q3.2) else (if q1.1 = 0 then (f_EX_openIf_27 n (1 : Int32) (0 : Int32) q3.2) else (f_EX_openIf_27 n (1 : Int32) (1 : Int32) q3.2))
set_option maxRecDepth 100000 in
set_option maxHeartbeats 4000000 in
theorem b_EX_openIf_27 {SX : State → Heap → Prop} {dC : Nat → ClassId} {dI : Nat → Nat → Nat} {ad en : Nat → Nat} {ca : Nat → ClassId} {p : Program} {l : Launch} {e : Env} {s : State} {m : MethodId} {args : Array Value} {below : List Frame} {meth : Method} {c : Code} {res : mz_St} (E : mz_En SX 80 mz_cl dC dI ad ca p s m meth c prog_6_method_16_code 2 "MacroHouse$Expander" none) (n : Nat) : ∀ (s1 : Int32) (s2 : Int32) (t : mz_St), f_EX_openIf_27 n s1 s2 t = some res → ∀ (H : Heap) (locs : List Loc) (ls : Array Slot), mz_Wd mz_tC 80 mz_cl dC dI ad en ca s t H locs → lv_has ls 2 [] → W p l e (r_EX_openIf) s m args below meth c H locs 0 0 (MQ below (mz_Q SX mz_tC 80 mz_cl dC dI ad en ca none res) args s 0 0 (mz_A ad 80)) (F0 m 27 ls [.int s2, .int s1, .ref (ad 5)]) := by
  obtain ⟨hx, hb, hml, hown, hcx, -, -, hSX, -, -, hSK⟩ := id E
  intro s1 s2 t hf H locs ls w hl
  unfold f_EX_openIf_27 at hf
  obtain ⟨q7, hq8, hf⟩ := mz_bd hf
  refine mz_callV E w (k := 5) (As := [.int s1, .int s2]) (rest := []) (c_EX_openCondition hSK l n s1 s2 t q7 hq8) (by decide) rfl rfl k_905 k_3 k_902 k_904 ks_34 hm_EX_openCondition ⟨⟨rfl, rfl⟩, Nat.le_of_ble_eq_true rfl, Nat.le_of_ble_eq_true rfl⟩ rfl hl.1 rfl (Nat.le_of_ble_eq_true rfl) d_EX_openIf_27 ⟨Nat.zero_le _, Nat.zero_le _⟩ (st1 := []) rfl (fun H locs w => ?_)
  obtain rfl := Option.some.inj hf
  exact mz_vret E w rfl d_EX_openIf_30
set_option maxRecDepth 100000 in
set_option maxHeartbeats 4000000 in
theorem c_EX_openIf {SX : State → Heap → Prop} {dC : Nat → ClassId} {dI : Nat → Nat → Nat} {ad en : Nat → Nat} {ca : Nat → ClassId} (hSK : mz_SK SX ad 80) (l : Launch) (n : Nat) (t : mz_St) (res : mz_St) (hf : f_EX_openIf n t = some res) : mz_C SX mz_tC 80 mz_cl dC dI ad en ca l y_EX_openIf prog_6_method_16_code 2 none (r_EX_openIf) [.ref (ad 5)] t none res := by
  unfold f_EX_openIf at hf
  refine mz_met hSK (by decide) (Nat.le_of_ble_eq_true rfl) ?_
  intro p e s m args below meth c ls E w hl
  obtain ⟨hx, hb, hml, hown, hcx, -, -, hSX, -, -, -⟩ := id E
  have hl : lv_has ls 2 [(0, .ref (ad 5))] := hl
  refine lv_aload_n hx hb d_EX_openIf_0 rfl (lv_at hl 0 rfl) ?_
  refine mz_get E w 5 1 (v := .ref (ad 6)) (by decide) rfl rfl ii_2 (by decide) (Nat.le_of_ble_eq_true rfl) k_371 rfl d_EX_openIf_1 ?_
  refine lv_iconst (v := (0 : Int32)) hx hb d_EX_openIf_4 (by decide) ?_
  obtain ⟨q1, hq2, hf⟩ := mz_bd hf
  refine mz_callV E w (k := 6) (As := [.int (0 : Int32)]) (rest := []) (c_RE_readValue hSK l n (f_RE_factor n 12) (c_RE_factor hSK l n 12) (0 : Int32) t q1 hq2) (by decide) rfl rfl k_804 k_11 k_801 k_802 k_803 hm_RE_readValue ⟨⟨rfl, rfl⟩, Nat.le_of_ble_eq_true rfl, Nat.le_of_ble_eq_true rfl⟩ rfl hl.1 rfl (Nat.le_of_ble_eq_true rfl) d_EX_openIf_5 ⟨Nat.zero_le _, Nat.zero_le _⟩ (st1 := [.int q1.1]) rfl (fun H locs w => ?_)
  refine lv_istore_n (lv' := [(1, .int q1.1), (0, .ref (ad 5))]) hx hb d_EX_openIf_8 rfl hl (by decide) rfl (fun ls hl => ?_)
  refine lv_aload_n hx hb d_EX_openIf_9 rfl (lv_at hl 1 rfl) ?_
  obtain ⟨q3, hq4, hf⟩ := mz_bd hf
  refine mz_callV E w (k := 5) (As := []) (rest := []) (c_EX_isValueGood hSK l n q1.2 q3 hq4) (by decide) rfl rfl k_858 k_3 k_855 k_857 ks_30 hm_EX_isValueGood ⟨⟨rfl, rfl⟩, Nat.le_of_ble_eq_true rfl, Nat.le_of_ble_eq_true rfl⟩ rfl hl.1 rfl (Nat.le_of_ble_eq_true rfl) d_EX_openIf_10 ⟨Nat.zero_le _, Nat.zero_le _⟩ (st1 := [.int q3.1]) rfl (fun H locs w => ?_)
  refine lv_if_eq (tgt := 30) hx hb d_EX_openIf_13 (by decide) (fun hc5 => ?_) (fun hc5 => ?_)
  · have hf := mz_t hc5 hf
    obtain rfl := Option.some.inj hf
    exact mz_vret E w rfl d_EX_openIf_30
  · have hf := mz_f hc5 hf
    refine lv_aload_n hx hb d_EX_openIf_16 rfl (lv_at hl 1 rfl) ?_
    refine lv_iconst (v := (1 : Int32)) hx hb d_EX_openIf_17 (by decide) ?_
    refine lv_iload_n hx hb d_EX_openIf_18 rfl (lv_at hl 0 rfl) ?_
    refine lv_if_eq (tgt := 26) hx hb d_EX_openIf_19 (by decide) (fun hc6 => ?_) (fun hc6 => ?_)
    · have hf := mz_t hc6 hf
      refine lv_iconst (v := (0 : Int32)) hx hb d_EX_openIf_26 (by decide) ?_
      exact b_EX_openIf_27 E n (1 : Int32) (0 : Int32) q3.2 hf _ _ _ w (lv_sub hl [] rfl)
    · have hf := mz_f hc6 hf
      refine lv_iconst (v := (1 : Int32)) hx hb d_EX_openIf_22 (by decide) ?_
      refine lv_goto (tgt := 27) hx hb d_EX_openIf_23 (by decide) ?_
      exact b_EX_openIf_27 E n (1 : Int32) (1 : Int32) q3.2 hf _ _ _ w (lv_sub hl [] rfl)

/-! MacroHouse$Expander.openIfSame()V -/
abbrev r_EX_openIfSame : Room := { frames := 3, cells := 0, slots := 0, locals := 63 }
def f_EX_openIfSame (n : Nat) (t : mz_St) : Option mz_St := (f_SI_find n (44 : Int32) (mz_gI t 6 2) (mz_gI t 5 13) t).bind fun q1 => if q1.1 < (mz_gI q1.2 5 13) then ((f_SI_behindBlanks n (mz_gI q1.2 6 2) q1.1 q1.2).bind fun q4 => (f_SI_aheadOfBlanks n q4.1 q1.1 q4.2).bind fun q6 => (f_SI_behindBlanks n (q1.1 + (1 : Int32)) (mz_gI q6.2 5 13) q6.2).bind fun q8 => (f_SI_same n q4.1 q6.1 q8.1 (mz_gI q8.2 5 13) q8.2).bind fun q10 => (f_EX_openCondition n (1 : Int32) q10.1 q10.2).bind fun q12 => some q12) else ((f_EX_fail n (1 : Int32) q1.2).bind fun q14 => some q14.2)
set_option maxRecDepth 100000 in
set_option maxHeartbeats 4000000 in
theorem c_EX_openIfSame {SX : State → Heap → Prop} {dC : Nat → ClassId} {dI : Nat → Nat → Nat} {ad en : Nat → Nat} {ca : Nat → ClassId} (hSK : mz_SK SX ad 80) (l : Launch) (n : Nat) (t : mz_St) (res : mz_St) (hf : f_EX_openIfSame n t = some res) : mz_C SX mz_tC 80 mz_cl dC dI ad en ca l y_EX_openIfSame prog_6_method_17_code 5 none (r_EX_openIfSame) [.ref (ad 5)] t none res := by
  unfold f_EX_openIfSame at hf
  refine mz_met hSK (by decide) (Nat.le_of_ble_eq_true rfl) ?_
  intro p e s m args below meth c ls E w hl
  obtain ⟨hx, hb, hml, hown, hcx, -, -, hSX, -, -, -⟩ := id E
  have hl : lv_has ls 5 [(0, .ref (ad 5))] := hl
  refine lv_aload_n hx hb d_EX_openIfSame_0 rfl (lv_at hl 0 rfl) ?_
  refine mz_get E w 5 0 (v := .ref (ad 1)) (by decide) rfl rfl ii_2 (by decide) (Nat.le_of_ble_eq_true rfl) k_370 rfl d_EX_openIfSame_1 ?_
  refine lv_bipush (v := (44 : Int32)) hx hb d_EX_openIfSame_4 (by decide) ?_
  refine lv_aload_n hx hb d_EX_openIfSame_6 rfl (lv_at hl 0 rfl) ?_
  refine mz_get E w 5 1 (v := .ref (ad 6)) (by decide) rfl rfl ii_2 (by decide) (Nat.le_of_ble_eq_true rfl) k_371 rfl d_EX_openIfSame_7 ?_
  refine mz_get E w 6 2 (v := .int (mz_gI t 6 2)) (by decide) rfl rfl ii_3 (by decide) (Nat.le_of_ble_eq_true rfl) k_181 rfl d_EX_openIfSame_10 ?_
  refine lv_aload_n hx hb d_EX_openIfSame_13 rfl (lv_at hl 0 rfl) ?_
  refine mz_get E w 5 13 (v := .int (mz_gI t 5 13)) (by decide) rfl rfl ii_2 (by decide) (Nat.le_of_ble_eq_true rfl) k_391 rfl d_EX_openIfSame_14 ?_
  obtain ⟨q1, hq2, hf⟩ := mz_bd hf
  refine mz_callV E w (k := 1) (As := [.int (44 : Int32), .int (mz_gI t 6 2), .int (mz_gI t 5 13)]) (rest := []) (c_SI_find hSK l n (44 : Int32) (mz_gI t 6 2) (mz_gI t 5 13) t q1 hq2) (by decide) rfl rfl k_458 k_2 k_914 k_456 k_457 hm_SI_find ⟨⟨rfl, rfl⟩, Nat.le_of_ble_eq_true rfl, Nat.le_of_ble_eq_true rfl⟩ rfl hl.1 rfl (Nat.le_of_ble_eq_true rfl) d_EX_openIfSame_17 ⟨Nat.zero_le _, Nat.zero_le _⟩ (st1 := [.int q1.1]) rfl (fun H locs w => ?_)
  refine lv_istore_n (lv' := [(1, .int q1.1), (0, .ref (ad 5))]) hx hb d_EX_openIfSame_20 rfl hl (by decide) rfl (fun ls hl => ?_)
  refine lv_iload_n hx hb d_EX_openIfSame_21 rfl (lv_at hl 0 rfl) ?_
  refine lv_aload_n hx hb d_EX_openIfSame_22 rfl (lv_at hl 1 rfl) ?_
  refine mz_get E w 5 13 (v := .int (mz_gI q1.2 5 13)) (by decide) rfl rfl ii_2 (by decide) (Nat.le_of_ble_eq_true rfl) k_391 rfl d_EX_openIfSame_23 ?_
  refine lv_icmp_lt (tgt := 36) hx hb d_EX_openIfSame_26 (by decide) (fun hc3 => ?_) (fun hc3 => ?_)
  · have hf := mz_t hc3 hf
    refine lv_aload_n hx hb d_EX_openIfSame_36 rfl (lv_at hl 1 rfl) ?_
    refine mz_get E w 5 0 (v := .ref (ad 1)) (by decide) rfl rfl ii_2 (by decide) (Nat.le_of_ble_eq_true rfl) k_370 rfl d_EX_openIfSame_37 ?_
    refine lv_aload_n hx hb d_EX_openIfSame_40 rfl (lv_at hl 1 rfl) ?_
    refine mz_get E w 5 1 (v := .ref (ad 6)) (by decide) rfl rfl ii_2 (by decide) (Nat.le_of_ble_eq_true rfl) k_371 rfl d_EX_openIfSame_41 ?_
    refine mz_get E w 6 2 (v := .int (mz_gI q1.2 6 2)) (by decide) rfl rfl ii_3 (by decide) (Nat.le_of_ble_eq_true rfl) k_181 rfl d_EX_openIfSame_44 ?_
    refine lv_iload_n hx hb d_EX_openIfSame_47 rfl (lv_at hl 0 rfl) ?_
    obtain ⟨q4, hq5, hf⟩ := mz_bd hf
    refine mz_callV E w (k := 1) (As := [.int (mz_gI q1.2 6 2), .int q1.1]) (rest := []) (c_SI_behindBlanks hSK l n (mz_gI q1.2 6 2) q1.1 q1.2 q4 hq5) (by decide) rfl rfl k_462 k_2 k_700 k_460 k_461 hm_SI_behindBlanks ⟨⟨rfl, rfl⟩, Nat.le_of_ble_eq_true rfl, Nat.le_of_ble_eq_true rfl⟩ rfl hl.1 rfl (Nat.le_of_ble_eq_true rfl) d_EX_openIfSame_48 ⟨Nat.zero_le _, Nat.zero_le _⟩ (st1 := [.int q4.1]) rfl (fun H locs w => ?_)
    refine lv_istore_n (lv' := [(2, .int q4.1), (1, .int q1.1), (0, .ref (ad 5))]) hx hb d_EX_openIfSame_51 rfl hl (by decide) rfl (fun ls hl => ?_)
    refine lv_aload_n hx hb d_EX_openIfSame_52 rfl (lv_at hl 2 rfl) ?_
    refine mz_get E w 5 0 (v := .ref (ad 1)) (by decide) rfl rfl ii_2 (by decide) (Nat.le_of_ble_eq_true rfl) k_370 rfl d_EX_openIfSame_53 ?_
    refine lv_iload_n hx hb d_EX_openIfSame_56 rfl (lv_at hl 0 rfl) ?_
    refine lv_iload_n hx hb d_EX_openIfSame_57 rfl (lv_at hl 1 rfl) ?_
    obtain ⟨q6, hq7, hf⟩ := mz_bd hf
    refine mz_callV E w (k := 1) (As := [.int q4.1, .int q1.1]) (rest := []) (c_SI_aheadOfBlanks hSK l n q4.1 q1.1 q4.2 q6 hq7) (by decide) rfl rfl k_466 k_2 k_701 k_464 k_465 hm_SI_aheadOfBlanks ⟨⟨rfl, rfl⟩, Nat.le_of_ble_eq_true rfl, Nat.le_of_ble_eq_true rfl⟩ rfl hl.1 rfl (Nat.le_of_ble_eq_true rfl) d_EX_openIfSame_58 ⟨Nat.zero_le _, Nat.zero_le _⟩ (st1 := [.int q6.1]) rfl (fun H locs w => ?_)
    refine lv_istore_n (lv' := [(3, .int q6.1), (2, .int q4.1), (1, .int q1.1), (0, .ref (ad 5))]) hx hb d_EX_openIfSame_61 rfl hl (by decide) rfl (fun ls hl => ?_)
    refine lv_aload_n hx hb d_EX_openIfSame_62 rfl (lv_at hl 3 rfl) ?_
    refine mz_get E w 5 0 (v := .ref (ad 1)) (by decide) rfl rfl ii_2 (by decide) (Nat.le_of_ble_eq_true rfl) k_370 rfl d_EX_openIfSame_63 ?_
    refine lv_iload_n hx hb d_EX_openIfSame_66 rfl (lv_at hl 2 rfl) ?_
    refine lv_iconst (v := (1 : Int32)) hx hb d_EX_openIfSame_67 (by decide) ?_
    refine lv_iadd hx hb d_EX_openIfSame_68 ?_
    refine lv_aload_n hx hb d_EX_openIfSame_69 rfl (lv_at hl 3 rfl) ?_
    refine mz_get E w 5 13 (v := .int (mz_gI q6.2 5 13)) (by decide) rfl rfl ii_2 (by decide) (Nat.le_of_ble_eq_true rfl) k_391 rfl d_EX_openIfSame_70 ?_
    obtain ⟨q8, hq9, hf⟩ := mz_bd hf
    refine mz_callV E w (k := 1) (As := [.int (q1.1 + (1 : Int32)), .int (mz_gI q6.2 5 13)]) (rest := []) (c_SI_behindBlanks hSK l n (q1.1 + (1 : Int32)) (mz_gI q6.2 5 13) q6.2 q8 hq9) (by decide) rfl rfl k_462 k_2 k_700 k_460 k_461 hm_SI_behindBlanks ⟨⟨rfl, rfl⟩, Nat.le_of_ble_eq_true rfl, Nat.le_of_ble_eq_true rfl⟩ rfl hl.1 rfl (Nat.le_of_ble_eq_true rfl) d_EX_openIfSame_73 ⟨Nat.zero_le _, Nat.zero_le _⟩ (st1 := [.int q8.1]) rfl (fun H locs w => ?_)
    refine lv_istore (lv' := [(4, .int q8.1), (3, .int q6.1), (2, .int q4.1), (1, .int q1.1), (0, .ref (ad 5))]) hx hb d_EX_openIfSame_76 hl (by decide) rfl (fun ls hl => ?_)
    refine lv_aload_n hx hb d_EX_openIfSame_78 rfl (lv_at hl 4 rfl) ?_
    refine lv_iconst (v := (1 : Int32)) hx hb d_EX_openIfSame_79 (by decide) ?_
    refine lv_aload_n hx hb d_EX_openIfSame_80 rfl (lv_at hl 4 rfl) ?_
    refine mz_get E w 5 0 (v := .ref (ad 1)) (by decide) rfl rfl ii_2 (by decide) (Nat.le_of_ble_eq_true rfl) k_370 rfl d_EX_openIfSame_81 ?_
    refine lv_iload_n hx hb d_EX_openIfSame_84 rfl (lv_at hl 2 rfl) ?_
    refine lv_iload_n hx hb d_EX_openIfSame_85 rfl (lv_at hl 1 rfl) ?_
    refine lv_iload hx hb d_EX_openIfSame_86 (lv_at hl 0 rfl) ?_
    refine lv_aload_n hx hb d_EX_openIfSame_88 rfl (lv_at hl 4 rfl) ?_
    refine mz_get E w 5 13 (v := .int (mz_gI q8.2 5 13)) (by decide) rfl rfl ii_2 (by decide) (Nat.le_of_ble_eq_true rfl) k_391 rfl d_EX_openIfSame_89 ?_
    obtain ⟨q10, hq11, hf⟩ := mz_bd hf
    refine mz_callV E w (k := 1) (As := [.int q4.1, .int q6.1, .int q8.1, .int (mz_gI q8.2 5 13)]) (rest := [.int (1 : Int32), .ref (ad 5)]) (c_SI_same hSK l n q4.1 q6.1 q8.1 (mz_gI q8.2 5 13) q8.2 q10 hq11) (by decide) rfl rfl k_678 k_2 k_915 k_676 k_677 hm_SI_same ⟨⟨rfl, rfl⟩, Nat.le_of_ble_eq_true rfl, Nat.le_of_ble_eq_true rfl⟩ rfl hl.1 rfl (Nat.le_of_ble_eq_true rfl) d_EX_openIfSame_92 ⟨Nat.zero_le _, Nat.zero_le _⟩ (st1 := [.int q10.1, .int (1 : Int32), .ref (ad 5)]) rfl (fun H locs w => ?_)
    obtain ⟨q12, hq13, hf⟩ := mz_bd hf
    refine mz_callV E w (k := 5) (As := [.int (1 : Int32), .int q10.1]) (rest := []) (c_EX_openCondition hSK l n (1 : Int32) q10.1 q10.2 q12 hq13) (by decide) rfl rfl k_905 k_3 k_902 k_904 ks_34 hm_EX_openCondition ⟨⟨rfl, rfl⟩, Nat.le_of_ble_eq_true rfl, Nat.le_of_ble_eq_true rfl⟩ rfl hl.1 rfl (Nat.le_of_ble_eq_true rfl) d_EX_openIfSame_95 ⟨Nat.zero_le _, Nat.zero_le _⟩ (st1 := []) rfl (fun H locs w => ?_)
    obtain rfl := Option.some.inj hf
    exact mz_vret E w rfl d_EX_openIfSame_98
  · have hf := mz_f hc3 hf
    refine lv_aload_n hx hb d_EX_openIfSame_29 rfl (lv_at hl 1 rfl) ?_
    refine lv_iconst (v := (1 : Int32)) hx hb d_EX_openIfSame_30 (by decide) ?_
    obtain ⟨q14, hq15, hf⟩ := mz_bd hf
    refine mz_callV E w (k := 5) (As := [.int (1 : Int32)]) (rest := []) (c_EX_fail hSK l n (1 : Int32) q1.2 q14 hq15) (by decide) rfl rfl k_537 k_3 k_534 k_536 ks_7 hm_EX_fail ⟨⟨rfl, rfl⟩, Nat.le_of_ble_eq_true rfl, Nat.le_of_ble_eq_true rfl⟩ rfl hl.1 rfl (Nat.le_of_ble_eq_true rfl) d_EX_openIfSame_31 ⟨Nat.zero_le _, Nat.zero_le _⟩ (st1 := [.int q14.1]) rfl (fun H locs w => ?_)
    refine lv_pop hx hb d_EX_openIfSame_34 rfl ?_
    obtain rfl := Option.some.inj hf
    exact mz_vret E w rfl d_EX_openIfSame_35

/-! MacroHouse$Expander.changeCondition()V -/
abbrev r_EX_changeCondition : Room := { frames := 74, cells := 0, slots := 0, locals := 2312 }
def f_EX_changeCondition_144 (n : Nat) (s1 : Int32) (t : mz_St) : Option mz_St := (f_CO_nextPart n s1 t).bind fun q21 => some q21
def f_EX_changeCondition (n : Nat) (t : mz_St) : Option mz_St := (f_SK_top n t).bind fun q1 => if mz_fr q1.1 then (if (mz_gI q1.2 q1.1 6) < (mz_gI t 7 5) then (if (mz_gI q1.2 5 14).toNatClampNeg < 16 ∧ (8 : Int32).toNatClampNeg < 16 then (if (mz_gI q1.2 5 14).toNatClampNeg = (8 : Int32).toNatClampNeg then (mz_let (mz_pI q1.2 7 5 ((mz_gI q1.2 7 5) - (1 : Int32))) fun t29 => some t29) else ((f_CO_isBehindElse n q1.2).bind fun q7 => if q7.1 = 0 then (if (mz_gI q7.2 5 14).toNatClampNeg < 16 ∧ (7 : Int32).toNatClampNeg < 16 then (if (mz_gI q7.2 5 14).toNatClampNeg = (7 : Int32).toNatClampNeg then ((f_CO_lastPart n q7.2).bind fun q25 => some q25) else ((f_CO_waits n q7.2).bind fun q12 => if q12.1 = 0 then ((f_CO_nextPart n (0 : Int32) q12.2).bind fun q23 => some q23) else ((f_RE_readValue n (f_RE_factor n 12) (0 : Int32) q12.2).bind fun q15 => (f_EX_isValueGood n q15.2).bind fun q17 => if q17.1 = 0 then (some q17.2) else (if q15.1 = 0 then (f_EX_changeCondition_144 n (0 : Int32) q17.2) else (f_EX_changeCondition_144 n (1 : Int32) q17.2))))) else none) else ((f_EX_fail n (5 : Int32) q7.2).bind fun q27 => some q27.2))) else none) else ((f_EX_fail n (5 : Int32) q1.2).bind fun q30 => some q30.2)) else none
set_option maxRecDepth 100000 in
set_option maxHeartbeats 4000000 in
theorem b_EX_changeCondition_144 {dC : Nat → ClassId} {dI : Nat → Nat → Nat} {ad en adK adV : Nat → Nat} {tA tS : Nat} {oF : Option Nat} {ca : Nat → ClassId} {p : Program} {l : Launch} {e : Env} {s : State} {m : MethodId} {args : Array Value} {below : List Frame} {meth : Method} {c : Code} {res : mz_St} (E : mz_En (mz_SC ad en adK adV tA tS oF) 80 mz_cl dC dI ad ca p s m meth c prog_6_method_19_code 2 "MacroHouse$Expander" none) (n : Nat) : ∀ (s1 : Int32) (t : mz_St), f_EX_changeCondition_144 n s1 t = some res → ∀ (H : Heap) (locs : List Loc) (ls : Array Slot), mz_Wd mz_tC 80 mz_cl dC dI ad en ca s t H locs → lv_has ls 2 [] → W p l e (r_EX_changeCondition) s m args below meth c H locs 0 0 (MQ below (mz_Q (mz_SC ad en adK adV tA tS oF) mz_tC 80 mz_cl dC dI ad en ca none res) args s 0 0 (mz_A ad 80)) (F0 m 144 ls [.int s1, .ref (ad 7)]) := by
  obtain ⟨hx, hb, hml, hown, hcx, -, -, hSX, -, -, hSK⟩ := id E
  intro s1 t hf H locs ls w hl
  unfold f_EX_changeCondition_144 at hf
  obtain ⟨q21, hq22, hf⟩ := mz_bd hf
  refine mz_callV E w (k := 7) (As := [.int s1]) (rest := []) (c_CO_nextPart hSK l n s1 t q21 hq22) (by decide) rfl rfl k_935 k_4 k_937 k_933 k_934 hm_CO_nextPart ⟨⟨rfl, rfl⟩, Nat.le_of_ble_eq_true rfl, Nat.le_of_ble_eq_true rfl⟩ rfl hl.1 rfl (Nat.le_of_ble_eq_true rfl) d_EX_changeCondition_144 ⟨Nat.zero_le _, Nat.zero_le _⟩ (st1 := []) rfl (fun H locs w => ?_)
  obtain rfl := Option.some.inj hf
  exact mz_vret E w rfl d_EX_changeCondition_147
set_option maxRecDepth 100000 in
set_option maxHeartbeats 4000000 in
theorem c_EX_changeCondition {dC : Nat → ClassId} {dI : Nat → Nat → Nat} {ad en adK adV : Nat → Nat} {tA tS : Nat} {oF : Option Nat} {ca : Nat → ClassId} (hSK : mz_SK (mz_SC ad en adK adV tA tS oF) ad 80) (l : Launch) (n : Nat) (t : mz_St) (res : mz_St) (hf : f_EX_changeCondition n t = some res) : mz_C (mz_SC ad en adK adV tA tS oF) mz_tC 80 mz_cl dC dI ad en ca l y_EX_changeCondition prog_6_method_19_code 2 none (r_EX_changeCondition) [.ref (ad 5)] t none res := by
  unfold f_EX_changeCondition at hf
  refine mz_met hSK (by decide) (Nat.le_of_ble_eq_true rfl) ?_
  intro p e s m args below meth c ls E w hl
  obtain ⟨hx, hb, hml, hown, hcx, -, -, hSX, -, -, -⟩ := id E
  have hl : lv_has ls 2 [(0, .ref (ad 5))] := hl
  refine lv_aload_n hx hb d_EX_changeCondition_0 rfl (lv_at hl 0 rfl) ?_
  refine mz_get E w 5 2 (v := .ref (ad 7)) (by decide) rfl rfl ii_2 (by decide) (Nat.le_of_ble_eq_true rfl) k_372 rfl d_EX_changeCondition_1 ?_
  refine mz_get E w 7 5 (v := .int (mz_gI t 7 5)) (by decide) rfl rfl ii_4 (by decide) (Nat.le_of_ble_eq_true rfl) k_79 rfl d_EX_changeCondition_4 ?_
  refine lv_aload_n hx hb d_EX_changeCondition_7 rfl (lv_at hl 0 rfl) ?_
  refine mz_get E w 5 5 (v := .ref (ad 30)) (by decide) rfl rfl ii_2 (by decide) (Nat.le_of_ble_eq_true rfl) k_377 rfl d_EX_changeCondition_8 ?_
  obtain ⟨q1, hq2, hf⟩ := mz_bd hf
  refine mz_callV E w (k := 30) (As := []) (rest := [.int (mz_gI t 7 5)]) (c_SK_top hSK l n t q1 hq2) (by decide) rfl rfl k_484 k_13 k_481 k_482 k_483 hm_SK_top ⟨⟨rfl, rfl⟩, Nat.le_of_ble_eq_true rfl, Nat.le_of_ble_eq_true rfl⟩ rfl hl.1 rfl (Nat.le_of_ble_eq_true rfl) d_EX_changeCondition_11 ⟨Nat.zero_le _, Nat.zero_le _⟩ (st1 := [.ref (ad q1.1), .int (mz_gI t 7 5)]) rfl (fun H locs w => ?_)
  obtain ⟨hr3, hf⟩ := mz_gd hf
  refine mz_get E w q1.1 6 (v := .int (mz_gI q1.2 q1.1 6)) (mz_fN hr3) (mz_tC_f hr3) rfl ii_10 (by decide) (Nat.le_of_ble_eq_true rfl) k_286 rfl d_EX_changeCondition_14 ?_
  refine lv_icmp_gt (tgt := 29) hx hb d_EX_changeCondition_17 (by decide) (fun hc4 => ?_) (fun hc4 => ?_)
  · have hf := mz_t hc4 hf
    refine lv_aload_n hx hb d_EX_changeCondition_29 rfl (lv_at hl 0 rfl) ?_
    refine mz_get E w 5 14 (v := .ref (en (mz_gI q1.2 5 14).toNatClampNeg)) (by decide) rfl rfl ii_2 (by decide) (Nat.le_of_ble_eq_true rfl) k_392 rfl d_EX_changeCondition_30 ?_
    refine mz_gse E w (8 : Int32) (by decide) rfl k_920 d_EX_changeCondition_33 ?_
    obtain ⟨hg6, hf⟩ := mz_gd hf
    refine mz_ane E (tgt := 55) hg6 d_EX_changeCondition_36 (by decide) (fun hc5 => ?_) (fun hc5 => ?_)
    · have hf := mz_f hc5 hf
      refine lv_aload_n hx hb d_EX_changeCondition_55 rfl (lv_at hl 0 rfl) ?_
      refine mz_get E w 5 2 (v := .ref (ad 7)) (by decide) rfl rfl ii_2 (by decide) (Nat.le_of_ble_eq_true rfl) k_372 rfl d_EX_changeCondition_56 ?_
      obtain ⟨q7, hq8, hf⟩ := mz_bd hf
      refine mz_callV E w (k := 7) (As := []) (rest := []) (c_CO_isBehindElse hSK l n q1.2 q7 hq8) (by decide) rfl rfl k_925 k_4 k_922 k_923 k_924 hm_CO_isBehindElse ⟨⟨rfl, rfl⟩, Nat.le_of_ble_eq_true rfl, Nat.le_of_ble_eq_true rfl⟩ rfl hl.1 rfl (Nat.le_of_ble_eq_true rfl) d_EX_changeCondition_59 ⟨Nat.zero_le _, Nat.zero_le _⟩ (st1 := [.int q7.1]) rfl (fun H locs w => ?_)
      refine lv_if_eq (tgt := 74) hx hb d_EX_changeCondition_62 (by decide) (fun hc9 => ?_) (fun hc9 => ?_)
      · have hf := mz_t hc9 hf
        refine lv_aload_n hx hb d_EX_changeCondition_74 rfl (lv_at hl 0 rfl) ?_
        refine mz_get E w 5 14 (v := .ref (en (mz_gI q7.2 5 14).toNatClampNeg)) (by decide) rfl rfl ii_2 (by decide) (Nat.le_of_ble_eq_true rfl) k_392 rfl d_EX_changeCondition_75 ?_
        refine mz_gse E w (7 : Int32) (by decide) rfl k_926 d_EX_changeCondition_78 ?_
        obtain ⟨hg11, hf⟩ := mz_gd hf
        refine mz_ane E (tgt := 94) hg11 d_EX_changeCondition_81 (by decide) (fun hc10 => ?_) (fun hc10 => ?_)
        · have hf := mz_f hc10 hf
          refine lv_aload_n hx hb d_EX_changeCondition_94 rfl (lv_at hl 0 rfl) ?_
          refine mz_get E w 5 2 (v := .ref (ad 7)) (by decide) rfl rfl ii_2 (by decide) (Nat.le_of_ble_eq_true rfl) k_372 rfl d_EX_changeCondition_95 ?_
          obtain ⟨q12, hq13, hf⟩ := mz_bd hf
          refine mz_callV E w (k := 7) (As := []) (rest := []) (c_CO_waits hSK l n q7.2 q12 hq13) (by decide) rfl rfl k_634 k_4 k_631 k_632 k_633 hm_CO_waits ⟨⟨rfl, rfl⟩, Nat.le_of_ble_eq_true rfl, Nat.le_of_ble_eq_true rfl⟩ rfl hl.1 rfl (Nat.le_of_ble_eq_true rfl) d_EX_changeCondition_98 ⟨Nat.zero_le _, Nat.zero_le _⟩ (st1 := [.int q12.1]) rfl (fun H locs w => ?_)
          refine lv_if_ne (tgt := 115) hx hb d_EX_changeCondition_101 (by decide) (fun hc14 => ?_) (fun hc14 => ?_)
          · have hf := mz_f hc14 hf
            refine lv_aload_n hx hb d_EX_changeCondition_115 rfl (lv_at hl 0 rfl) ?_
            refine mz_get E w 5 1 (v := .ref (ad 6)) (by decide) rfl rfl ii_2 (by decide) (Nat.le_of_ble_eq_true rfl) k_371 rfl d_EX_changeCondition_116 ?_
            refine lv_iconst (v := (0 : Int32)) hx hb d_EX_changeCondition_119 (by decide) ?_
            obtain ⟨q15, hq16, hf⟩ := mz_bd hf
            refine mz_callV E w (k := 6) (As := [.int (0 : Int32)]) (rest := []) (c_RE_readValue hSK l n (f_RE_factor n 12) (c_RE_factor hSK l n 12) (0 : Int32) q12.2 q15 hq16) (by decide) rfl rfl k_804 k_11 k_801 k_802 k_803 hm_RE_readValue ⟨⟨rfl, rfl⟩, Nat.le_of_ble_eq_true rfl, Nat.le_of_ble_eq_true rfl⟩ rfl hl.1 rfl (Nat.le_of_ble_eq_true rfl) d_EX_changeCondition_120 ⟨Nat.zero_le _, Nat.zero_le _⟩ (st1 := [.int q15.1]) rfl (fun H locs w => ?_)
            refine lv_istore_n (lv' := [(1, .int q15.1), (0, .ref (ad 5))]) hx hb d_EX_changeCondition_123 rfl hl (by decide) rfl (fun ls hl => ?_)
            refine lv_aload_n hx hb d_EX_changeCondition_124 rfl (lv_at hl 1 rfl) ?_
            obtain ⟨q17, hq18, hf⟩ := mz_bd hf
            refine mz_callV E w (k := 5) (As := []) (rest := []) (c_EX_isValueGood hSK l n q15.2 q17 hq18) (by decide) rfl rfl k_858 k_3 k_855 k_857 ks_30 hm_EX_isValueGood ⟨⟨rfl, rfl⟩, Nat.le_of_ble_eq_true rfl, Nat.le_of_ble_eq_true rfl⟩ rfl hl.1 rfl (Nat.le_of_ble_eq_true rfl) d_EX_changeCondition_125 ⟨Nat.zero_le _, Nat.zero_le _⟩ (st1 := [.int q17.1]) rfl (fun H locs w => ?_)
            refine lv_if_eq (tgt := 147) hx hb d_EX_changeCondition_128 (by decide) (fun hc19 => ?_) (fun hc19 => ?_)
            · have hf := mz_t hc19 hf
              obtain rfl := Option.some.inj hf
              exact mz_vret E w rfl d_EX_changeCondition_147
            · have hf := mz_f hc19 hf
              refine lv_aload_n hx hb d_EX_changeCondition_131 rfl (lv_at hl 1 rfl) ?_
              refine mz_get E w 5 2 (v := .ref (ad 7)) (by decide) rfl rfl ii_2 (by decide) (Nat.le_of_ble_eq_true rfl) k_372 rfl d_EX_changeCondition_132 ?_
              refine lv_iload_n hx hb d_EX_changeCondition_135 rfl (lv_at hl 0 rfl) ?_
              refine lv_if_eq (tgt := 143) hx hb d_EX_changeCondition_136 (by decide) (fun hc20 => ?_) (fun hc20 => ?_)
              · have hf := mz_t hc20 hf
                refine lv_iconst (v := (0 : Int32)) hx hb d_EX_changeCondition_143 (by decide) ?_
                exact b_EX_changeCondition_144 E n (0 : Int32) q17.2 hf _ _ _ w (lv_sub hl [] rfl)
              · have hf := mz_f hc20 hf
                refine lv_iconst (v := (1 : Int32)) hx hb d_EX_changeCondition_139 (by decide) ?_
                refine lv_goto (tgt := 144) hx hb d_EX_changeCondition_140 (by decide) ?_
                exact b_EX_changeCondition_144 E n (1 : Int32) q17.2 hf _ _ _ w (lv_sub hl [] rfl)
          · have hf := mz_t hc14 hf
            refine lv_aload_n hx hb d_EX_changeCondition_104 rfl (lv_at hl 0 rfl) ?_
            refine mz_get E w 5 2 (v := .ref (ad 7)) (by decide) rfl rfl ii_2 (by decide) (Nat.le_of_ble_eq_true rfl) k_372 rfl d_EX_changeCondition_105 ?_
            refine lv_iconst (v := (0 : Int32)) hx hb d_EX_changeCondition_108 (by decide) ?_
            obtain ⟨q23, hq24, hf⟩ := mz_bd hf
            refine mz_callV E w (k := 7) (As := [.int (0 : Int32)]) (rest := []) (c_CO_nextPart hSK l n (0 : Int32) q12.2 q23 hq24) (by decide) rfl rfl k_935 k_4 k_937 k_933 k_934 hm_CO_nextPart ⟨⟨rfl, rfl⟩, Nat.le_of_ble_eq_true rfl, Nat.le_of_ble_eq_true rfl⟩ rfl hl.1 rfl (Nat.le_of_ble_eq_true rfl) d_EX_changeCondition_109 ⟨Nat.zero_le _, Nat.zero_le _⟩ (st1 := []) rfl (fun H locs w => ?_)
            refine lv_goto (tgt := 147) hx hb d_EX_changeCondition_112 (by decide) ?_
            obtain rfl := Option.some.inj hf
            exact mz_vret E w rfl d_EX_changeCondition_147
        · have hf := mz_t hc10 hf
          refine lv_aload_n hx hb d_EX_changeCondition_84 rfl (lv_at hl 0 rfl) ?_
          refine mz_get E w 5 2 (v := .ref (ad 7)) (by decide) rfl rfl ii_2 (by decide) (Nat.le_of_ble_eq_true rfl) k_372 rfl d_EX_changeCondition_85 ?_
          obtain ⟨q25, hq26, hf⟩ := mz_bd hf
          refine mz_callV E w (k := 7) (As := []) (rest := []) (c_CO_lastPart hSK l n q7.2 q25 hq26) (by decide) rfl rfl k_931 k_4 k_928 k_929 k_930 hm_CO_lastPart ⟨⟨rfl, rfl⟩, Nat.le_of_ble_eq_true rfl, Nat.le_of_ble_eq_true rfl⟩ rfl hl.1 rfl (Nat.le_of_ble_eq_true rfl) d_EX_changeCondition_88 ⟨Nat.zero_le _, Nat.zero_le _⟩ (st1 := []) rfl (fun H locs w => ?_)
          refine lv_goto (tgt := 147) hx hb d_EX_changeCondition_91 (by decide) ?_
          obtain rfl := Option.some.inj hf
          exact mz_vret E w rfl d_EX_changeCondition_147
      · have hf := mz_f hc9 hf
        refine lv_aload_n hx hb d_EX_changeCondition_65 rfl (lv_at hl 0 rfl) ?_
        refine lv_iconst (v := (5 : Int32)) hx hb d_EX_changeCondition_66 (by decide) ?_
        obtain ⟨q27, hq28, hf⟩ := mz_bd hf
        refine mz_callV E w (k := 5) (As := [.int (5 : Int32)]) (rest := []) (c_EX_fail hSK l n (5 : Int32) q7.2 q27 hq28) (by decide) rfl rfl k_537 k_3 k_534 k_536 ks_7 hm_EX_fail ⟨⟨rfl, rfl⟩, Nat.le_of_ble_eq_true rfl, Nat.le_of_ble_eq_true rfl⟩ rfl hl.1 rfl (Nat.le_of_ble_eq_true rfl) d_EX_changeCondition_67 ⟨Nat.zero_le _, Nat.zero_le _⟩ (st1 := [.int q27.1]) rfl (fun H locs w => ?_)
        refine lv_pop hx hb d_EX_changeCondition_70 rfl ?_
        refine lv_goto (tgt := 147) hx hb d_EX_changeCondition_71 (by decide) ?_
        obtain rfl := Option.some.inj hf
        exact mz_vret E w rfl d_EX_changeCondition_147
    · have hf := mz_t hc5 hf
      refine lv_aload_n hx hb d_EX_changeCondition_39 rfl (lv_at hl 0 rfl) ?_
      refine mz_get E w 5 2 (v := .ref (ad 7)) (by decide) rfl rfl ii_2 (by decide) (Nat.le_of_ble_eq_true rfl) k_372 rfl d_EX_changeCondition_40 ?_
      refine lv_dup hx hb d_EX_changeCondition_43 rfl ?_
      refine mz_get E w 7 5 (v := .int (mz_gI q1.2 7 5)) (by decide) rfl rfl ii_4 (by decide) (Nat.le_of_ble_eq_true rfl) k_79 rfl d_EX_changeCondition_44 ?_
      refine lv_iconst (v := (1 : Int32)) hx hb d_EX_changeCondition_47 (by decide) ?_
      refine lv_isub hx hb d_EX_changeCondition_48 ?_
      refine mz_put E w 7 5 (v := ((mz_gI q1.2 7 5) - (1 : Int32))) (by decide) rfl rfl ii_4 tk_4 nm_4 (by decide) (Nat.le_of_ble_eq_true rfl) k_79 rfl (tk_4 5 (by decide)) rfl rfl rfl d_EX_changeCondition_49 (fun H locs w => ?_)
      obtain ⟨t29, e_t29, hf⟩ := mz_lt hf
      rw [← e_t29] at w
      refine lv_goto (tgt := 147) hx hb d_EX_changeCondition_52 (by decide) ?_
      obtain rfl := Option.some.inj hf
      exact mz_vret E w rfl d_EX_changeCondition_147
  · have hf := mz_f hc4 hf
    refine lv_aload_n hx hb d_EX_changeCondition_20 rfl (lv_at hl 0 rfl) ?_
    refine lv_iconst (v := (5 : Int32)) hx hb d_EX_changeCondition_21 (by decide) ?_
    obtain ⟨q30, hq31, hf⟩ := mz_bd hf
    refine mz_callV E w (k := 5) (As := [.int (5 : Int32)]) (rest := []) (c_EX_fail hSK l n (5 : Int32) q1.2 q30 hq31) (by decide) rfl rfl k_537 k_3 k_534 k_536 ks_7 hm_EX_fail ⟨⟨rfl, rfl⟩, Nat.le_of_ble_eq_true rfl, Nat.le_of_ble_eq_true rfl⟩ rfl hl.1 rfl (Nat.le_of_ble_eq_true rfl) d_EX_changeCondition_22 ⟨Nat.zero_le _, Nat.zero_le _⟩ (st1 := [.int q30.1]) rfl (fun H locs w => ?_)
    refine lv_pop hx hb d_EX_changeCondition_25 rfl ?_
    refine lv_goto (tgt := 147) hx hb d_EX_changeCondition_26 (by decide) ?_
    obtain rfl := Option.some.inj hf
    exact mz_vret E w rfl d_EX_changeCondition_147

/-! MacroHouse$Expander.keepUpToEndm()Z -/
abbrev r_EX_keepUpToEndm : Room := { frames := 6, cells := 0, slots := 0, locals := 133 }
def f_EX_keepUpToEndm_18 (n : Nat) : Nat → Int32 → Nat → Int32 → mz_St → Option (Int32 × mz_St)
  | 0, _, _, _, _ => none
  | k + 1, x1, x2, x3, t => if mz_fr x2 then (if (mz_gI t x2 2) ≤ x3 then (mz_let (mz_pI t 5 11 x1) fun t5 => (f_EX_fail n (5 : Int32) t5).bind fun q6 => if q6.1 = 0 ∨ q6.1 = 1 then (some (q6.1, q6.2)) else none) else ((f_EX_look n x2 t).bind fun q9 => if q9.1 = 0 then (some ((0 : Int32), q9.2)) else ((f_SI_startOf n x3 q9.2).bind fun q12 => (f_SI_stopOf n x3 q12.2).bind fun q14 => (f_DI_of n q12.1 q14.1 q14.2).bind fun q16 => if q16.1.toNatClampNeg < 16 ∧ (9 : Int32).toNatClampNeg < 16 then (if q16.1.toNatClampNeg = (9 : Int32).toNatClampNeg then ((f_EX_fail n (5 : Int32) q16.2).bind fun q22 => if q22.1 = 0 ∨ q22.1 = 1 then (some (q22.1, q22.2)) else none) else (if q16.1.toNatClampNeg < 16 ∧ (10 : Int32).toNatClampNeg < 16 then (if q16.1.toNatClampNeg = (10 : Int32).toNatClampNeg then (some ((1 : Int32), q16.2)) else ((f_EX_keepUpToEndm_18 n k) x1 x2 (x3 + (1 : Int32)) q16.2)) else none)) else none))) else none
def f_EX_keepUpToEndm (n : Nat) (t : mz_St) : Option (Int32 × mz_St) := (f_SK_top n t).bind fun q1 => if mz_fr q1.1 then (f_EX_keepUpToEndm_18 n n (mz_gI t 5 11) q1.1 (mz_gI q1.2 q1.1 3) q1.2) else none
set_option maxRecDepth 100000 in
set_option maxHeartbeats 4000000 in
theorem b_EX_keepUpToEndm_18 {dC : Nat → ClassId} {dI : Nat → Nat → Nat} {ad en adK adV : Nat → Nat} {tA tS : Nat} {oF : Option Nat} {ca : Nat → ClassId} {p : Program} {l : Launch} {e : Env} {s : State} {m : MethodId} {args : Array Value} {below : List Frame} {meth : Method} {c : Code} {res : (Int32 × mz_St)} (E : mz_En (mz_SC ad en adK adV tA tS oF) 80 mz_cl dC dI ad ca p s m meth c prog_6_method_21_code 5 "MacroHouse$Expander" (some (.boolean))) (n : Nat) (k : Nat) : ∀ (x1 : Int32) (x2 : Nat) (x3 : Int32) (t : mz_St), f_EX_keepUpToEndm_18 n k x1 x2 x3 t = some res → ∀ (H : Heap) (locs : List Loc) (ls : Array Slot), mz_Wd mz_tC 80 mz_cl dC dI ad en ca s t H locs → lv_has ls 5 [(0, .ref (ad 5)), (1, .int x1), (2, .ref (ad x2)), (3, .int x3)] → W p l e (r_EX_keepUpToEndm) s m args below meth c H locs 0 0 (MQ below (mz_Q (mz_SC ad en adK adV tA tS oF) mz_tC 80 mz_cl dC dI ad en ca (some (.int res.1)) res.2) args s 0 0 (mz_A ad 80)) (F0 m 18 ls []) := by
  obtain ⟨hx, hb, hml, hown, hcx, -, -, hSX, -, -, hSK⟩ := id E
  induction k with
  | zero => intro x1 x2 x3 t hf; exact absurd hf (by unfold f_EX_keepUpToEndm_18; exact fun h => nomatch h)
  | succ k ih =>
    intro x1 x2 x3 t hf H locs ls w hl
    unfold f_EX_keepUpToEndm_18 at hf
    obtain ⟨h_x2, hf⟩ := mz_gd hf
    refine lv_iload_n hx hb d_EX_keepUpToEndm_18 rfl (lv_at hl 3 rfl) ?_
    refine lv_aload_n hx hb d_EX_keepUpToEndm_19 rfl (lv_at hl 2 rfl) ?_
    refine mz_get E w x2 2 (v := .int (mz_gI t x2 2)) (mz_fN h_x2) (mz_tC_f h_x2) rfl ii_10 (by decide) (Nat.le_of_ble_eq_true rfl) k_276 rfl d_EX_keepUpToEndm_20 ?_
    refine lv_icmp_ge (tgt := 91) hx hb d_EX_keepUpToEndm_23 (by decide) (fun hc4 => ?_) (fun hc4 => ?_)
    · have hf := mz_t hc4 hf
      refine lv_aload_n hx hb d_EX_keepUpToEndm_91 rfl (lv_at hl 0 rfl) ?_
      refine lv_iload_n hx hb d_EX_keepUpToEndm_92 rfl (lv_at hl 1 rfl) ?_
      refine mz_put E w 5 11 (v := x1) (by decide) rfl rfl ii_2 tk_2 nm_2 (by decide) (Nat.le_of_ble_eq_true rfl) k_389 rfl (tk_2 11 (by decide)) rfl rfl rfl d_EX_keepUpToEndm_93 (fun H locs w => ?_)
      obtain ⟨t5, e_t5, hf⟩ := mz_lt hf
      rw [← e_t5] at w
      refine lv_aload_n hx hb d_EX_keepUpToEndm_96 rfl (lv_at hl 0 rfl) ?_
      refine lv_iconst (v := (5 : Int32)) hx hb d_EX_keepUpToEndm_97 (by decide) ?_
      obtain ⟨q6, hq7, hf⟩ := mz_bd hf
      refine mz_callV E w (k := 5) (As := [.int (5 : Int32)]) (rest := []) (c_EX_fail hSK l n (5 : Int32) t5 q6 hq7) (by decide) rfl rfl k_537 k_3 k_534 k_536 ks_7 hm_EX_fail ⟨⟨rfl, rfl⟩, Nat.le_of_ble_eq_true rfl, Nat.le_of_ble_eq_true rfl⟩ rfl hl.1 rfl (Nat.le_of_ble_eq_true rfl) d_EX_keepUpToEndm_98 ⟨Nat.zero_le _, Nat.zero_le _⟩ (st1 := [.int q6.1]) rfl (fun H locs w => ?_)
      obtain ⟨hz8, hf⟩ := mz_gd hf
      obtain rfl := Option.some.inj hf
      exact mz_zret E w (mz_b01 hz8) rfl d_EX_keepUpToEndm_101
    · have hf := mz_f hc4 hf
      refine lv_aload_n hx hb d_EX_keepUpToEndm_26 rfl (lv_at hl 0 rfl) ?_
      refine lv_aload_n hx hb d_EX_keepUpToEndm_27 rfl (lv_at hl 2 rfl) ?_
      obtain ⟨q9, hq10, hf⟩ := mz_bd hf
      refine mz_callV E w (k := 5) (As := [.ref (ad x2)]) (rest := []) (c_EX_look hSK l n x2 t q9 hq10) (by decide) rfl rfl k_533 k_3 k_530 k_532 ks_6 hm_EX_look ⟨⟨rfl, rfl⟩, Nat.le_of_ble_eq_true rfl, Nat.le_of_ble_eq_true rfl⟩ rfl hl.1 rfl (Nat.le_of_ble_eq_true rfl) d_EX_keepUpToEndm_28 ⟨Nat.zero_le _, Nat.zero_le _⟩ (st1 := [.int q9.1]) rfl (fun H locs w => ?_)
      refine lv_if_ne (tgt := 36) hx hb d_EX_keepUpToEndm_31 (by decide) (fun hc11 => ?_) (fun hc11 => ?_)
      · have hf := mz_f hc11 hf
        refine lv_aload_n hx hb d_EX_keepUpToEndm_36 rfl (lv_at hl 0 rfl) ?_
        refine mz_get E w 5 0 (v := .ref (ad 1)) (by decide) rfl rfl ii_2 (by decide) (Nat.le_of_ble_eq_true rfl) k_370 rfl d_EX_keepUpToEndm_37 ?_
        refine lv_aload_n hx hb d_EX_keepUpToEndm_40 rfl (lv_at hl 0 rfl) ?_
        refine mz_get E w 5 0 (v := .ref (ad 1)) (by decide) rfl rfl ii_2 (by decide) (Nat.le_of_ble_eq_true rfl) k_370 rfl d_EX_keepUpToEndm_41 ?_
        refine lv_iload_n hx hb d_EX_keepUpToEndm_44 rfl (lv_at hl 3 rfl) ?_
        obtain ⟨q12, hq13, hf⟩ := mz_bd hf
        refine mz_callV E w (k := 1) (As := [.int x3]) (rest := [.ref (ad 1)]) (c_SI_startOf hSK l n x3 q9.2 q12 hq13) (by decide) rfl rfl k_553 k_2 k_550 k_551 k_552 hm_SI_startOf ⟨⟨rfl, rfl⟩, Nat.le_of_ble_eq_true rfl, Nat.le_of_ble_eq_true rfl⟩ rfl hl.1 rfl (Nat.le_of_ble_eq_true rfl) d_EX_keepUpToEndm_45 ⟨Nat.zero_le _, Nat.zero_le _⟩ (st1 := [.int q12.1, .ref (ad 1)]) rfl (fun H locs w => ?_)
        refine lv_aload_n hx hb d_EX_keepUpToEndm_48 rfl (lv_at hl 0 rfl) ?_
        refine mz_get E w 5 0 (v := .ref (ad 1)) (by decide) rfl rfl ii_2 (by decide) (Nat.le_of_ble_eq_true rfl) k_370 rfl d_EX_keepUpToEndm_49 ?_
        refine lv_iload_n hx hb d_EX_keepUpToEndm_52 rfl (lv_at hl 3 rfl) ?_
        obtain ⟨q14, hq15, hf⟩ := mz_bd hf
        refine mz_callV E w (k := 1) (As := [.int x3]) (rest := [.int q12.1, .ref (ad 1)]) (c_SI_stopOf hSK l n x3 q12.2 q14 hq15) (by decide) rfl rfl k_557 k_2 k_554 k_555 k_556 hm_SI_stopOf ⟨⟨rfl, rfl⟩, Nat.le_of_ble_eq_true rfl, Nat.le_of_ble_eq_true rfl⟩ rfl hl.1 rfl (Nat.le_of_ble_eq_true rfl) d_EX_keepUpToEndm_53 ⟨Nat.zero_le _, Nat.zero_le _⟩ (st1 := [.int q14.1, .int q12.1, .ref (ad 1)]) rfl (fun H locs w => ?_)
        obtain ⟨q16, hq17, hf⟩ := mz_bd hf
        refine mz_callS E w (As := [.ref (ad 1), .int q12.1, .int q14.1]) (rest := []) (c_DI_of hSK l n q12.1 q14.1 q14.2 q16 hq17) k_560 k_7 k_558 k_559 hm_DI_of ⟨⟨rfl, rfl⟩, Nat.le_of_ble_eq_true rfl, Nat.le_of_ble_eq_true rfl⟩ rfl hl.1 rfl (Nat.le_of_ble_eq_true rfl) d_EX_keepUpToEndm_56 ⟨Nat.zero_le _, Nat.zero_le _⟩ (st1 := [.ref (en q16.1.toNatClampNeg)]) rfl (fun H locs w => ?_)
        refine lv_astore (lv' := [(4, .ref (en q16.1.toNatClampNeg)), (0, .ref (ad 5)), (1, .int x1), (2, .ref (ad x2)), (3, .int x3)]) hx hb d_EX_keepUpToEndm_59 hl (by decide) rfl (fun ls hl => ?_)
        refine lv_aload hx hb d_EX_keepUpToEndm_61 (lv_at hl 0 rfl) ?_
        refine mz_gse E w (9 : Int32) (by decide) rfl k_772 d_EX_keepUpToEndm_63 ?_
        obtain ⟨hg19, hf⟩ := mz_gd hf
        refine mz_ane E (tgt := 75) hg19 d_EX_keepUpToEndm_66 (by decide) (fun hc18 => ?_) (fun hc18 => ?_)
        · have hf := mz_f hc18 hf
          refine lv_aload hx hb d_EX_keepUpToEndm_75 (lv_at hl 0 rfl) ?_
          refine mz_gse E w (10 : Int32) (by decide) rfl k_966 d_EX_keepUpToEndm_77 ?_
          obtain ⟨hg21, hf⟩ := mz_gd hf
          refine mz_ane E (tgt := 85) hg21 d_EX_keepUpToEndm_80 (by decide) (fun hc20 => ?_) (fun hc20 => ?_)
          · have hf := mz_f hc20 hf
            refine lv_iinc (v := (x3 + (1 : Int32))) (lv' := [(3, .int (x3 + (1 : Int32))), (4, .ref (en q16.1.toNatClampNeg)), (0, .ref (ad 5)), (1, .int x1), (2, .ref (ad x2))]) hx hb d_EX_keepUpToEndm_85 hl (k := 4) rfl rfl (by decide) rfl (fun ls hl => ?_)
            refine lv_goto (tgt := 18) hx hb d_EX_keepUpToEndm_88 (by decide) ?_
            exact ih x1 x2 (x3 + (1 : Int32)) q16.2 hf _ _ _ w (lv_sub hl [2, 3, 4, 0] rfl)
          · have hf := mz_t hc20 hf
            refine lv_iconst (v := (1 : Int32)) hx hb d_EX_keepUpToEndm_83 (by decide) ?_
            obtain rfl := Option.some.inj hf
            exact mz_zret E w (by decide) rfl d_EX_keepUpToEndm_84
        · have hf := mz_t hc18 hf
          refine lv_aload_n hx hb d_EX_keepUpToEndm_69 rfl (lv_at hl 1 rfl) ?_
          refine lv_iconst (v := (5 : Int32)) hx hb d_EX_keepUpToEndm_70 (by decide) ?_
          obtain ⟨q22, hq23, hf⟩ := mz_bd hf
          refine mz_callV E w (k := 5) (As := [.int (5 : Int32)]) (rest := []) (c_EX_fail hSK l n (5 : Int32) q16.2 q22 hq23) (by decide) rfl rfl k_537 k_3 k_534 k_536 ks_7 hm_EX_fail ⟨⟨rfl, rfl⟩, Nat.le_of_ble_eq_true rfl, Nat.le_of_ble_eq_true rfl⟩ rfl hl.1 rfl (Nat.le_of_ble_eq_true rfl) d_EX_keepUpToEndm_71 ⟨Nat.zero_le _, Nat.zero_le _⟩ (st1 := [.int q22.1]) rfl (fun H locs w => ?_)
          obtain ⟨hz24, hf⟩ := mz_gd hf
          obtain rfl := Option.some.inj hf
          exact mz_zret E w (mz_b01 hz24) rfl d_EX_keepUpToEndm_74
      · have hf := mz_t hc11 hf
        refine lv_iconst (v := (0 : Int32)) hx hb d_EX_keepUpToEndm_34 (by decide) ?_
        obtain rfl := Option.some.inj hf
        exact mz_zret E w (by decide) rfl d_EX_keepUpToEndm_35
set_option maxRecDepth 100000 in
set_option maxHeartbeats 4000000 in
theorem c_EX_keepUpToEndm {dC : Nat → ClassId} {dI : Nat → Nat → Nat} {ad en adK adV : Nat → Nat} {tA tS : Nat} {oF : Option Nat} {ca : Nat → ClassId} (hSK : mz_SK (mz_SC ad en adK adV tA tS oF) ad 80) (l : Launch) (n : Nat) (t : mz_St) (res : (Int32 × mz_St)) (hf : f_EX_keepUpToEndm n t = some res) : mz_C (mz_SC ad en adK adV tA tS oF) mz_tC 80 mz_cl dC dI ad en ca l y_EX_keepUpToEndm prog_6_method_21_code 5 (some (.boolean)) (r_EX_keepUpToEndm) [.ref (ad 5)] t (some (.int res.1)) res.2 := by
  unfold f_EX_keepUpToEndm at hf
  refine mz_met hSK (by decide) (Nat.le_of_ble_eq_true rfl) ?_
  intro p e s m args below meth c ls E w hl
  obtain ⟨hx, hb, hml, hown, hcx, -, -, hSX, -, -, -⟩ := id E
  have hl : lv_has ls 5 [(0, .ref (ad 5))] := hl
  refine lv_aload_n hx hb d_EX_keepUpToEndm_0 rfl (lv_at hl 0 rfl) ?_
  refine mz_get E w 5 11 (v := .int (mz_gI t 5 11)) (by decide) rfl rfl ii_2 (by decide) (Nat.le_of_ble_eq_true rfl) k_389 rfl d_EX_keepUpToEndm_1 ?_
  refine lv_istore_n (lv' := [(1, .int (mz_gI t 5 11)), (0, .ref (ad 5))]) hx hb d_EX_keepUpToEndm_4 rfl hl (by decide) rfl (fun ls hl => ?_)
  refine lv_aload_n hx hb d_EX_keepUpToEndm_5 rfl (lv_at hl 1 rfl) ?_
  refine mz_get E w 5 5 (v := .ref (ad 30)) (by decide) rfl rfl ii_2 (by decide) (Nat.le_of_ble_eq_true rfl) k_377 rfl d_EX_keepUpToEndm_6 ?_
  obtain ⟨q1, hq2, hf⟩ := mz_bd hf
  refine mz_callV E w (k := 30) (As := []) (rest := []) (c_SK_top hSK l n t q1 hq2) (by decide) rfl rfl k_484 k_13 k_481 k_482 k_483 hm_SK_top ⟨⟨rfl, rfl⟩, Nat.le_of_ble_eq_true rfl, Nat.le_of_ble_eq_true rfl⟩ rfl hl.1 rfl (Nat.le_of_ble_eq_true rfl) d_EX_keepUpToEndm_9 ⟨Nat.zero_le _, Nat.zero_le _⟩ (st1 := [.ref (ad q1.1)]) rfl (fun H locs w => ?_)
  obtain ⟨hr3, hf⟩ := mz_gd hf
  refine lv_astore_n (lv' := [(2, .ref (ad q1.1)), (1, .int (mz_gI t 5 11)), (0, .ref (ad 5))]) hx hb d_EX_keepUpToEndm_12 rfl hl (by decide) rfl (fun ls hl => ?_)
  refine lv_aload_n hx hb d_EX_keepUpToEndm_13 rfl (lv_at hl 0 rfl) ?_
  refine mz_get E w q1.1 3 (v := .int (mz_gI q1.2 q1.1 3)) (mz_fN hr3) (mz_tC_f hr3) rfl ii_10 (by decide) (Nat.le_of_ble_eq_true rfl) k_279 rfl d_EX_keepUpToEndm_14 ?_
  refine lv_istore_n (lv' := [(3, .int (mz_gI q1.2 q1.1 3)), (2, .ref (ad q1.1)), (1, .int (mz_gI t 5 11)), (0, .ref (ad 5))]) hx hb d_EX_keepUpToEndm_17 rfl hl (by decide) rfl (fun ls hl => ?_)
  exact b_EX_keepUpToEndm_18 E n n (mz_gI t 5 11) q1.1 (mz_gI q1.2 q1.1 3) q1.2 hf _ _ _ w (lv_sub hl [3, 2, 1, 0] rfl)

/-! MacroHouse$Expander.defineMacro(Z)V -/
abbrev r_EX_defineMacro : Room := { frames := 7, cells := 0, slots := 0, locals := 157 }
def f_EX_defineMacro (n : Nat) (x1 : Int32) (t : mz_St) : Option mz_St := if x1 = 0 then ((f_EX_fail n (1 : Int32) t).bind fun q19 => some q19.2) else ((f_MA_isHeadTold n t).bind fun q2 => if q2.1 = 0 then (if (mz_gI q2.2 30 4) ≤ 0 then ((f_EX_keepUpToEndm n q2.2).bind fun q6 => if q6.1 = 0 then (some q6.2) else (mz_let (mz_pI q6.2 5 11 (mz_gI t 5 11)) fun t9 => (f_MA_add n (mz_gI t 5 11) (((mz_gI q6.2 5 11) - (mz_gI t 5 11)) - (1 : Int32)) t9).bind fun q10 => if q10.1 = 0 then ((f_EX_fail n (6 : Int32) q10.2).bind fun q13 => some q13.2) else (some q10.2))) else ((f_EX_fail n (5 : Int32) q2.2).bind fun q15 => some q15.2)) else ((f_EX_fail n (2 : Int32) q2.2).bind fun q17 => some q17.2))
set_option maxRecDepth 100000 in
set_option maxHeartbeats 4000000 in
theorem c_EX_defineMacro {dC : Nat → ClassId} {dI : Nat → Nat → Nat} {ad en adK adV : Nat → Nat} {tA tS : Nat} {oF : Option Nat} {ca : Nat → ClassId} (hSK : mz_SK (mz_SC ad en adK adV tA tS oF) ad 80) (l : Launch) (n : Nat) (x1 : Int32) (t : mz_St) (res : mz_St) (hf : f_EX_defineMacro n x1 t = some res) : mz_C (mz_SC ad en adK adV tA tS oF) mz_tC 80 mz_cl dC dI ad en ca l y_EX_defineMacro prog_6_method_20_code 4 none (r_EX_defineMacro) [.ref (ad 5), .int x1] t none res := by
  unfold f_EX_defineMacro at hf
  refine mz_met hSK (by decide) (Nat.le_of_ble_eq_true rfl) ?_
  intro p e s m args below meth c ls E w hl
  obtain ⟨hx, hb, hml, hown, hcx, -, -, hSX, -, -, -⟩ := id E
  have hl : lv_has ls 4 [(0, .ref (ad 5)), (1, .int x1)] := hl
  refine lv_aload_n hx hb d_EX_defineMacro_0 rfl (lv_at hl 0 rfl) ?_
  refine mz_get E w 5 11 (v := .int (mz_gI t 5 11)) (by decide) rfl rfl ii_2 (by decide) (Nat.le_of_ble_eq_true rfl) k_389 rfl d_EX_defineMacro_1 ?_
  refine lv_istore_n (lv' := [(2, .int (mz_gI t 5 11)), (0, .ref (ad 5)), (1, .int x1)]) hx hb d_EX_defineMacro_4 rfl hl (by decide) rfl (fun ls hl => ?_)
  refine lv_iload_n hx hb d_EX_defineMacro_5 rfl (lv_at hl 2 rfl) ?_
  refine lv_if_ne (tgt := 18) hx hb d_EX_defineMacro_6 (by decide) (fun hc1 => ?_) (fun hc1 => ?_)
  · have hf := mz_f hc1 hf
    refine lv_aload_n hx hb d_EX_defineMacro_18 rfl (lv_at hl 1 rfl) ?_
    refine mz_get E w 5 4 (v := .ref (ad 18)) (by decide) rfl rfl ii_2 (by decide) (Nat.le_of_ble_eq_true rfl) k_375 rfl d_EX_defineMacro_19 ?_
    obtain ⟨q2, hq3, hf⟩ := mz_bd hf
    refine mz_callV E w (k := 18) (As := []) (rest := []) (c_MA_isHeadTold hSK l n t q2 hq3) (by decide) rfl rfl k_960 k_12 k_957 k_958 k_959 hm_MA_isHeadTold ⟨⟨rfl, rfl⟩, Nat.le_of_ble_eq_true rfl, Nat.le_of_ble_eq_true rfl⟩ rfl hl.1 rfl (Nat.le_of_ble_eq_true rfl) d_EX_defineMacro_22 ⟨Nat.zero_le _, Nat.zero_le _⟩ (st1 := [.int q2.1]) rfl (fun H locs w => ?_)
    refine lv_if_eq (tgt := 37) hx hb d_EX_defineMacro_25 (by decide) (fun hc4 => ?_) (fun hc4 => ?_)
    · have hf := mz_t hc4 hf
      refine lv_aload_n hx hb d_EX_defineMacro_37 rfl (lv_at hl 1 rfl) ?_
      refine mz_get E w 5 5 (v := .ref (ad 30)) (by decide) rfl rfl ii_2 (by decide) (Nat.le_of_ble_eq_true rfl) k_377 rfl d_EX_defineMacro_38 ?_
      refine mz_get E w 30 4 (v := .int (mz_gI q2.2 30 4)) (by decide) rfl rfl ii_8 (by decide) (Nat.le_of_ble_eq_true rfl) k_336 rfl d_EX_defineMacro_41 ?_
      refine lv_if_le (tgt := 56) hx hb d_EX_defineMacro_44 (by decide) (fun hc5 => ?_) (fun hc5 => ?_)
      · have hf := mz_t hc5 hf
        refine lv_aload_n hx hb d_EX_defineMacro_56 rfl (lv_at hl 1 rfl) ?_
        obtain ⟨q6, hq7, hf⟩ := mz_bd hf
        refine mz_callV E w (k := 5) (As := []) (rest := []) (c_EX_keepUpToEndm hSK l n q2.2 q6 hq7) (by decide) rfl rfl k_965 k_3 k_962 k_964 ks_39 hm_EX_keepUpToEndm ⟨⟨rfl, rfl⟩, Nat.le_of_ble_eq_true rfl, Nat.le_of_ble_eq_true rfl⟩ rfl hl.1 rfl (Nat.le_of_ble_eq_true rfl) d_EX_defineMacro_57 ⟨Nat.zero_le _, Nat.zero_le _⟩ (st1 := [.int q6.1]) rfl (fun H locs w => ?_)
        refine lv_if_eq (tgt := 96) hx hb d_EX_defineMacro_60 (by decide) (fun hc8 => ?_) (fun hc8 => ?_)
        · have hf := mz_t hc8 hf
          obtain rfl := Option.some.inj hf
          exact mz_vret E w rfl d_EX_defineMacro_96
        · have hf := mz_f hc8 hf
          refine lv_aload_n hx hb d_EX_defineMacro_63 rfl (lv_at hl 1 rfl) ?_
          refine mz_get E w 5 11 (v := .int (mz_gI q6.2 5 11)) (by decide) rfl rfl ii_2 (by decide) (Nat.le_of_ble_eq_true rfl) k_389 rfl d_EX_defineMacro_64 ?_
          refine lv_iload_n hx hb d_EX_defineMacro_67 rfl (lv_at hl 0 rfl) ?_
          refine lv_isub hx hb d_EX_defineMacro_68 ?_
          refine lv_iconst (v := (1 : Int32)) hx hb d_EX_defineMacro_69 (by decide) ?_
          refine lv_isub hx hb d_EX_defineMacro_70 ?_
          refine lv_istore_n (lv' := [(3, .int (((mz_gI q6.2 5 11) - (mz_gI t 5 11)) - (1 : Int32))), (2, .int (mz_gI t 5 11)), (0, .ref (ad 5)), (1, .int x1)]) hx hb d_EX_defineMacro_71 rfl hl (by decide) rfl (fun ls hl => ?_)
          refine lv_aload_n hx hb d_EX_defineMacro_72 rfl (lv_at hl 2 rfl) ?_
          refine lv_iload_n hx hb d_EX_defineMacro_73 rfl (lv_at hl 1 rfl) ?_
          refine mz_put E w 5 11 (v := (mz_gI t 5 11)) (by decide) rfl rfl ii_2 tk_2 nm_2 (by decide) (Nat.le_of_ble_eq_true rfl) k_389 rfl (tk_2 11 (by decide)) rfl rfl rfl d_EX_defineMacro_74 (fun H locs w => ?_)
          obtain ⟨t9, e_t9, hf⟩ := mz_lt hf
          rw [← e_t9] at w
          refine lv_aload_n hx hb d_EX_defineMacro_77 rfl (lv_at hl 2 rfl) ?_
          refine mz_get E w 5 4 (v := .ref (ad 18)) (by decide) rfl rfl ii_2 (by decide) (Nat.le_of_ble_eq_true rfl) k_375 rfl d_EX_defineMacro_78 ?_
          refine lv_iload_n hx hb d_EX_defineMacro_81 rfl (lv_at hl 1 rfl) ?_
          refine lv_iload_n hx hb d_EX_defineMacro_82 rfl (lv_at hl 0 rfl) ?_
          obtain ⟨q10, hq11, hf⟩ := mz_bd hf
          refine mz_callV E w (k := 18) (As := [.int (mz_gI t 5 11), .int (((mz_gI q6.2 5 11) - (mz_gI t 5 11)) - (1 : Int32))]) (rest := []) (c_MA_add hSK l n (mz_gI t 5 11) (((mz_gI q6.2 5 11) - (mz_gI t 5 11)) - (1 : Int32)) t9 q10 hq11) (by decide) rfl rfl k_971 k_12 k_968 k_969 k_970 hm_MA_add ⟨⟨rfl, rfl⟩, Nat.le_of_ble_eq_true rfl, Nat.le_of_ble_eq_true rfl⟩ rfl hl.1 rfl (Nat.le_of_ble_eq_true rfl) d_EX_defineMacro_83 ⟨Nat.zero_le _, Nat.zero_le _⟩ (st1 := [.int q10.1]) rfl (fun H locs w => ?_)
          refine lv_if_ne (tgt := 96) hx hb d_EX_defineMacro_86 (by decide) (fun hc12 => ?_) (fun hc12 => ?_)
          · have hf := mz_f hc12 hf
            obtain rfl := Option.some.inj hf
            exact mz_vret E w rfl d_EX_defineMacro_96
          · have hf := mz_t hc12 hf
            refine lv_aload_n hx hb d_EX_defineMacro_89 rfl (lv_at hl 2 rfl) ?_
            refine lv_bipush (v := (6 : Int32)) hx hb d_EX_defineMacro_90 (by decide) ?_
            obtain ⟨q13, hq14, hf⟩ := mz_bd hf
            refine mz_callV E w (k := 5) (As := [.int (6 : Int32)]) (rest := []) (c_EX_fail hSK l n (6 : Int32) q10.2 q13 hq14) (by decide) rfl rfl k_537 k_3 k_534 k_536 ks_7 hm_EX_fail ⟨⟨rfl, rfl⟩, Nat.le_of_ble_eq_true rfl, Nat.le_of_ble_eq_true rfl⟩ rfl hl.1 rfl (Nat.le_of_ble_eq_true rfl) d_EX_defineMacro_92 ⟨Nat.zero_le _, Nat.zero_le _⟩ (st1 := [.int q13.1]) rfl (fun H locs w => ?_)
            refine lv_pop hx hb d_EX_defineMacro_95 rfl ?_
            obtain rfl := Option.some.inj hf
            exact mz_vret E w rfl d_EX_defineMacro_96
      · have hf := mz_f hc5 hf
        refine lv_aload_n hx hb d_EX_defineMacro_47 rfl (lv_at hl 1 rfl) ?_
        refine lv_iconst (v := (5 : Int32)) hx hb d_EX_defineMacro_48 (by decide) ?_
        obtain ⟨q15, hq16, hf⟩ := mz_bd hf
        refine mz_callV E w (k := 5) (As := [.int (5 : Int32)]) (rest := []) (c_EX_fail hSK l n (5 : Int32) q2.2 q15 hq16) (by decide) rfl rfl k_537 k_3 k_534 k_536 ks_7 hm_EX_fail ⟨⟨rfl, rfl⟩, Nat.le_of_ble_eq_true rfl, Nat.le_of_ble_eq_true rfl⟩ rfl hl.1 rfl (Nat.le_of_ble_eq_true rfl) d_EX_defineMacro_49 ⟨Nat.zero_le _, Nat.zero_le _⟩ (st1 := [.int q15.1]) rfl (fun H locs w => ?_)
        refine lv_pop hx hb d_EX_defineMacro_52 rfl ?_
        refine lv_goto (tgt := 96) hx hb d_EX_defineMacro_53 (by decide) ?_
        obtain rfl := Option.some.inj hf
        exact mz_vret E w rfl d_EX_defineMacro_96
    · have hf := mz_f hc4 hf
      refine lv_aload_n hx hb d_EX_defineMacro_28 rfl (lv_at hl 1 rfl) ?_
      refine lv_iconst (v := (2 : Int32)) hx hb d_EX_defineMacro_29 (by decide) ?_
      obtain ⟨q17, hq18, hf⟩ := mz_bd hf
      refine mz_callV E w (k := 5) (As := [.int (2 : Int32)]) (rest := []) (c_EX_fail hSK l n (2 : Int32) q2.2 q17 hq18) (by decide) rfl rfl k_537 k_3 k_534 k_536 ks_7 hm_EX_fail ⟨⟨rfl, rfl⟩, Nat.le_of_ble_eq_true rfl, Nat.le_of_ble_eq_true rfl⟩ rfl hl.1 rfl (Nat.le_of_ble_eq_true rfl) d_EX_defineMacro_30 ⟨Nat.zero_le _, Nat.zero_le _⟩ (st1 := [.int q17.1]) rfl (fun H locs w => ?_)
      refine lv_pop hx hb d_EX_defineMacro_33 rfl ?_
      refine lv_goto (tgt := 96) hx hb d_EX_defineMacro_34 (by decide) ?_
      obtain rfl := Option.some.inj hf
      exact mz_vret E w rfl d_EX_defineMacro_96
  · have hf := mz_t hc1 hf
    refine lv_aload_n hx hb d_EX_defineMacro_9 rfl (lv_at hl 1 rfl) ?_
    refine lv_iconst (v := (1 : Int32)) hx hb d_EX_defineMacro_10 (by decide) ?_
    obtain ⟨q19, hq20, hf⟩ := mz_bd hf
    refine mz_callV E w (k := 5) (As := [.int (1 : Int32)]) (rest := []) (c_EX_fail hSK l n (1 : Int32) t q19 hq20) (by decide) rfl rfl k_537 k_3 k_534 k_536 ks_7 hm_EX_fail ⟨⟨rfl, rfl⟩, Nat.le_of_ble_eq_true rfl, Nat.le_of_ble_eq_true rfl⟩ rfl hl.1 rfl (Nat.le_of_ble_eq_true rfl) d_EX_defineMacro_11 ⟨Nat.zero_le _, Nat.zero_le _⟩ (st1 := [.int q19.1]) rfl (fun H locs w => ?_)
    refine lv_pop hx hb d_EX_defineMacro_14 rfl ?_
    refine lv_goto (tgt := 96) hx hb d_EX_defineMacro_15 (by decide) ?_
    obtain rfl := Option.some.inj hf
    exact mz_vret E w rfl d_EX_defineMacro_96
