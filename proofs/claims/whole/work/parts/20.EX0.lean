/-! MacroHouse$Expander.toldLine()I -/
abbrev r_EX_toldLine : Room := { frames := 0, cells := 0, slots := 0, locals := 0 }
def f_EX_toldLine (n : Nat) (t : mz_St) : Option (Int32 × mz_St) := if (mz_gI t 30 4) = 0 then (some ((mz_gI t 5 11), t)) else (some ((mz_gI t 30 6), t))
set_option maxRecDepth 100000 in
set_option maxHeartbeats 4000000 in
theorem c_EX_toldLine {SX : State → Heap → Prop} {dC : Nat → ClassId} {dI : Nat → Nat → Nat} {ad en : Nat → Nat} {ca : Nat → ClassId} (hSK : mz_SK SX ad 80) (l : Launch) (n : Nat) (t : mz_St) (res : (Int32 × mz_St)) (hf : f_EX_toldLine n t = some res) : mz_C SX mz_tC 80 mz_cl dC dI ad en ca l y_EX_toldLine prog_6_method_4_code 1 (some (.int)) r_EX_toldLine [.ref (ad 5)] t (some (.int res.1)) res.2 := by
  unfold f_EX_toldLine at hf
  refine mz_met hSK (by decide) (Nat.le_of_ble_eq_true rfl) ?_
  intro p e s m args below meth c ls E w hl
  obtain ⟨hx, hb, hml, hown, hcx, -, -, hSX, -, -, -⟩ := id E
  have hl : lv_has ls 1 [(0, .ref (ad 5))] := hl
  refine lv_aload_n hx hb d_EX_toldLine_0 rfl (lv_at hl 0 rfl) ?_
  refine mz_get E w 5 5 (v := .ref (ad 30)) (by decide) rfl rfl ii_2 (by decide) (Nat.le_of_ble_eq_true rfl) k_377 rfl d_EX_toldLine_1 ?_
  refine mz_get E w 30 4 (v := .int (mz_gI t 30 4)) (by decide) rfl rfl ii_8 (by decide) (Nat.le_of_ble_eq_true rfl) k_336 rfl d_EX_toldLine_4 ?_
  refine lv_if_ne (tgt := 17) hx hb d_EX_toldLine_7 (by decide) (fun hc1 => ?_) (fun hc1 => ?_)
  · have hf := mz_f hc1 hf
    refine lv_aload_n hx hb d_EX_toldLine_17 rfl (lv_at hl 0 rfl) ?_
    refine mz_get E w 5 5 (v := .ref (ad 30)) (by decide) rfl rfl ii_2 (by decide) (Nat.le_of_ble_eq_true rfl) k_377 rfl d_EX_toldLine_18 ?_
    refine mz_get E w 30 6 (v := .int (mz_gI t 30 6)) (by decide) rfl rfl ii_8 (by decide) (Nat.le_of_ble_eq_true rfl) k_339 rfl d_EX_toldLine_21 ?_
    obtain rfl := Option.some.inj hf
    exact mz_iret E w rfl d_EX_toldLine_24
  · have hf := mz_t hc1 hf
    refine lv_aload_n hx hb d_EX_toldLine_10 rfl (lv_at hl 0 rfl) ?_
    refine mz_get E w 5 11 (v := .int (mz_gI t 5 11)) (by decide) rfl rfl ii_2 (by decide) (Nat.le_of_ble_eq_true rfl) k_389 rfl d_EX_toldLine_11 ?_
    refine lv_goto (tgt := 24) hx hb d_EX_toldLine_14 (by decide) ?_
    obtain rfl := Option.some.inj hf
    exact mz_iret E w rfl d_EX_toldLine_24

/-! MacroHouse$Expander.fail(I)Z -/
abbrev r_EX_fail : Room := { frames := 1, cells := 0, slots := 0, locals := 20 }
def f_EX_fail (n : Nat) (x1 : Int32) (t : mz_St) : Option (Int32 × mz_St) := mz_let (mz_pI t 5 7 x1) fun t1 => (f_EX_toldLine n t1).bind fun q2 => mz_let (mz_pI q2.2 5 8 q2.1) fun t4 => some ((0 : Int32), t4)
set_option maxRecDepth 100000 in
set_option maxHeartbeats 4000000 in
theorem c_EX_fail {SX : State → Heap → Prop} {dC : Nat → ClassId} {dI : Nat → Nat → Nat} {ad en : Nat → Nat} {ca : Nat → ClassId} (hSK : mz_SK SX ad 80) (l : Launch) (n : Nat) (x1 : Int32) (t : mz_St) (res : (Int32 × mz_St)) (hf : f_EX_fail n x1 t = some res) : mz_C SX mz_tC 80 mz_cl dC dI ad en ca l y_EX_fail prog_6_method_5_code 2 (some (.boolean)) r_EX_fail [.ref (ad 5), .int x1] t (some (.int res.1)) res.2 := by
  unfold f_EX_fail at hf
  refine mz_met hSK (by decide) (Nat.le_of_ble_eq_true rfl) ?_
  intro p e s m args below meth c ls E w hl
  obtain ⟨hx, hb, hml, hown, hcx, -, -, hSX, -, -, -⟩ := id E
  have hl : lv_has ls 2 [(0, .ref (ad 5)), (1, .int x1)] := hl
  refine lv_aload_n hx hb d_EX_fail_0 rfl (lv_at hl 0 rfl) ?_
  refine lv_iload_n hx hb d_EX_fail_1 rfl (lv_at hl 1 rfl) ?_
  refine mz_put E w 5 7 (v := x1) (by decide) rfl rfl ii_2 tk_2 nm_2 (by decide) (Nat.le_of_ble_eq_true rfl) k_381 rfl (tk_2 7 (by decide)) rfl rfl rfl d_EX_fail_2 (fun H locs w => ?_)
  obtain ⟨t1, e_t1, hf⟩ := mz_lt hf
  rw [← e_t1] at w
  refine lv_aload_n hx hb d_EX_fail_5 rfl (lv_at hl 0 rfl) ?_
  refine lv_aload_n hx hb d_EX_fail_6 rfl (lv_at hl 0 rfl) ?_
  obtain ⟨q2, hq3, hf⟩ := mz_bd hf
  refine mz_callV E w (k := 5) (As := []) (rest := [.ref (ad 5)]) (c_EX_toldLine hSK l n t1 q2 hq3) (by decide) rfl rfl k_541 k_3 k_538 k_540 ks_8 hm_EX_toldLine ⟨⟨rfl, rfl⟩, Nat.le_of_ble_eq_true rfl, Nat.le_of_ble_eq_true rfl⟩ rfl hl.1 rfl (Nat.le_of_ble_eq_true rfl) d_EX_fail_7 ⟨Nat.zero_le _, Nat.zero_le _⟩ (st1 := [.int q2.1, .ref (ad 5)]) rfl (fun H locs w => ?_)
  refine mz_put E w 5 8 (v := q2.1) (by decide) rfl rfl ii_2 tk_2 nm_2 (by decide) (Nat.le_of_ble_eq_true rfl) k_383 rfl (tk_2 8 (by decide)) rfl rfl rfl d_EX_fail_10 (fun H locs w => ?_)
  obtain ⟨t4, e_t4, hf⟩ := mz_lt hf
  rw [← e_t4] at w
  refine lv_iconst (v := (0 : Int32)) hx hb d_EX_fail_13 (by decide) ?_
  obtain rfl := Option.some.inj hf
  exact mz_zret E w (by decide) rfl d_EX_fail_14

/-! MacroHouse$Expander.look(LMacroHouse$Frame;)Z -/
abbrev r_EX_look : Room := { frames := 2, cells := 0, slots := 0, locals := 41 }
def f_EX_look (n : Nat) (x1 : Nat) (t : mz_St) : Option (Int32 × mz_St) := if mz_fr x1 then (mz_let (mz_pI t 5 11 (mz_gI t x1 3)) fun t1 => if (mz_gI t1 5 9) < (4000 : Int32) then (mz_let (mz_pI t1 5 9 ((mz_gI t1 5 9) + (1 : Int32))) fun t3 => mz_let (mz_pI t3 x1 3 ((mz_gI t3 x1 3) + (1 : Int32))) fun t4 => some ((1 : Int32), t4)) else ((f_EX_fail n (6 : Int32) t1).bind fun q5 => if q5.1 = 0 ∨ q5.1 = 1 then (some (q5.1, q5.2)) else none)) else none
set_option maxRecDepth 100000 in
set_option maxHeartbeats 4000000 in
theorem c_EX_look {SX : State → Heap → Prop} {dC : Nat → ClassId} {dI : Nat → Nat → Nat} {ad en : Nat → Nat} {ca : Nat → ClassId} (hSK : mz_SK SX ad 80) (l : Launch) (n : Nat) (x1 : Nat) (t : mz_St) (res : (Int32 × mz_St)) (hf : f_EX_look n x1 t = some res) : mz_C SX mz_tC 80 mz_cl dC dI ad en ca l y_EX_look prog_6_method_6_code 2 (some (.boolean)) r_EX_look [.ref (ad 5), .ref (ad x1)] t (some (.int res.1)) res.2 := by
  unfold f_EX_look at hf
  obtain ⟨h_x1, hf⟩ := mz_gd hf
  refine mz_met hSK (by decide) (Nat.le_of_ble_eq_true rfl) ?_
  intro p e s m args below meth c ls E w hl
  obtain ⟨hx, hb, hml, hown, hcx, -, -, hSX, -, -, -⟩ := id E
  have hl : lv_has ls 2 [(0, .ref (ad 5)), (1, .ref (ad x1))] := hl
  refine lv_aload_n hx hb d_EX_look_0 rfl (lv_at hl 0 rfl) ?_
  refine lv_aload_n hx hb d_EX_look_1 rfl (lv_at hl 1 rfl) ?_
  refine mz_get E w x1 3 (v := .int (mz_gI t x1 3)) (mz_fN h_x1) (mz_tC_f h_x1) rfl ii_10 (by decide) (Nat.le_of_ble_eq_true rfl) k_279 rfl d_EX_look_2 ?_
  refine mz_put E w 5 11 (v := (mz_gI t x1 3)) (by decide) rfl rfl ii_2 tk_2 nm_2 (by decide) (Nat.le_of_ble_eq_true rfl) k_389 rfl (tk_2 11 (by decide)) rfl rfl rfl d_EX_look_5 (fun H locs w => ?_)
  obtain ⟨t1, e_t1, hf⟩ := mz_lt hf
  rw [← e_t1] at w
  refine lv_aload_n hx hb d_EX_look_8 rfl (lv_at hl 0 rfl) ?_
  refine mz_get E w 5 9 (v := .int (mz_gI t1 5 9)) (by decide) rfl rfl ii_2 (by decide) (Nat.le_of_ble_eq_true rfl) k_385 rfl d_EX_look_9 ?_
  refine lv_sipush (v := (4000 : Int32)) hx hb d_EX_look_12 (by decide) ?_
  refine lv_icmp_lt (tgt := 25) hx hb d_EX_look_15 (by decide) (fun hc2 => ?_) (fun hc2 => ?_)
  · have hf := mz_t hc2 hf
    refine lv_aload_n hx hb d_EX_look_25 rfl (lv_at hl 0 rfl) ?_
    refine lv_dup hx hb d_EX_look_26 rfl ?_
    refine mz_get E w 5 9 (v := .int (mz_gI t1 5 9)) (by decide) rfl rfl ii_2 (by decide) (Nat.le_of_ble_eq_true rfl) k_385 rfl d_EX_look_27 ?_
    refine lv_iconst (v := (1 : Int32)) hx hb d_EX_look_30 (by decide) ?_
    refine lv_iadd hx hb d_EX_look_31 ?_
    refine mz_put E w 5 9 (v := ((mz_gI t1 5 9) + (1 : Int32))) (by decide) rfl rfl ii_2 tk_2 nm_2 (by decide) (Nat.le_of_ble_eq_true rfl) k_385 rfl (tk_2 9 (by decide)) rfl rfl rfl d_EX_look_32 (fun H locs w => ?_)
    obtain ⟨t3, e_t3, hf⟩ := mz_lt hf
    rw [← e_t3] at w
    refine lv_aload_n hx hb d_EX_look_35 rfl (lv_at hl 1 rfl) ?_
    refine lv_dup hx hb d_EX_look_36 rfl ?_
    refine mz_get E w x1 3 (v := .int (mz_gI t3 x1 3)) (mz_fN h_x1) (mz_tC_f h_x1) rfl ii_10 (by decide) (Nat.le_of_ble_eq_true rfl) k_279 rfl d_EX_look_37 ?_
    refine lv_iconst (v := (1 : Int32)) hx hb d_EX_look_40 (by decide) ?_
    refine lv_iadd hx hb d_EX_look_41 ?_
    refine mz_put E w x1 3 (v := ((mz_gI t3 x1 3) + (1 : Int32))) (mz_fN h_x1) (mz_tC_f h_x1) rfl ii_10 tk_10 nm_10 (by decide) (Nat.le_of_ble_eq_true rfl) k_279 rfl (tk_10 3 (by decide)) rfl rfl rfl d_EX_look_42 (fun H locs w => ?_)
    obtain ⟨t4, e_t4, hf⟩ := mz_lt hf
    rw [← e_t4] at w
    refine lv_iconst (v := (1 : Int32)) hx hb d_EX_look_45 (by decide) ?_
    obtain rfl := Option.some.inj hf
    exact mz_zret E w (by decide) rfl d_EX_look_46
  · have hf := mz_f hc2 hf
    refine lv_aload_n hx hb d_EX_look_18 rfl (lv_at hl 0 rfl) ?_
    refine lv_bipush (v := (6 : Int32)) hx hb d_EX_look_19 (by decide) ?_
    obtain ⟨q5, hq6, hf⟩ := mz_bd hf
    refine mz_callV E w (k := 5) (As := [.int (6 : Int32)]) (rest := []) (c_EX_fail hSK l n (6 : Int32) t1 q5 hq6) (by decide) rfl rfl k_537 k_3 k_534 k_536 ks_7 hm_EX_fail ⟨⟨rfl, rfl⟩, Nat.le_of_ble_eq_true rfl, Nat.le_of_ble_eq_true rfl⟩ rfl hl.1 rfl (Nat.le_of_ble_eq_true rfl) d_EX_look_21 ⟨Nat.zero_le _, Nat.zero_le _⟩ (st1 := [.int q5.1]) rfl (fun H locs w => ?_)
    obtain ⟨hz7, hf⟩ := mz_gd hf
    obtain rfl := Option.some.inj hf
    exact mz_zret E w (mz_b01 hz7) rfl d_EX_look_24

/-! MacroHouse$Expander.isValueGood()Z -/
abbrev r_EX_isValueGood : Room := { frames := 3, cells := 0, slots := 0, locals := 63 }
def f_EX_isValueGood_20 (n : Nat) (t : mz_St) : Option (Int32 × mz_St) := (f_EX_fail n (1 : Int32) t).bind fun q2 => if q2.1 = 0 ∨ q2.1 = 1 then (some (q2.1, q2.2)) else none
def f_EX_isValueGood_50 (n : Nat) (t : mz_St) : Option (Int32 × mz_St) := some ((1 : Int32), t)
def f_EX_isValueGood (n : Nat) (t : mz_St) : Option (Int32 × mz_St) := if (mz_gI t 6 6) = 0 then ((f_RE_isDone n t).bind fun q5 => if q5.1 = 0 then (f_EX_isValueGood_20 n  q5.2) else (if (mz_gI q5.2 6 7) = 0 then (f_EX_isValueGood_50 n  q5.2) else ((f_EX_fail n (mz_gI q5.2 6 7) q5.2).bind fun q9 => if q9.1 = 0 then (some ((0 : Int32), q9.2)) else (f_EX_isValueGood_50 n  q9.2)))) else (f_EX_isValueGood_20 n  t)
set_option maxRecDepth 100000 in
set_option maxHeartbeats 4000000 in
theorem b_EX_isValueGood_20 {SX : State → Heap → Prop} {dC : Nat → ClassId} {dI : Nat → Nat → Nat} {ad en : Nat → Nat} {ca : Nat → ClassId} {p : Program} {l : Launch} {e : Env} {s : State} {m : MethodId} {args : Array Value} {below : List Frame} {meth : Method} {c : Code} {res : (Int32 × mz_St)} (E : mz_En SX 80 mz_cl dC dI ad ca p s m meth c prog_6_method_13_code 1 "MacroHouse$Expander" (some (.boolean))) (n : Nat) : ∀ (t : mz_St), f_EX_isValueGood_20 n t = some res → ∀ (H : Heap) (locs : List Loc) (ls : Array Slot), mz_Wd mz_tC 80 mz_cl dC dI ad en ca s t H locs → lv_has ls 1 [(0, .ref (ad 5))] → W p l e r_EX_isValueGood s m args below meth c H locs 0 0 (MQ below (mz_Q SX mz_tC 80 mz_cl dC dI ad en ca (some (.int res.1)) res.2) args s 0 0 (mz_A ad 80)) (F0 m 20 ls []) := by
  obtain ⟨hx, hb, hml, hown, hcx, -, -, hSX, -, -, hSK⟩ := id E
  intro t hf H locs ls w hl
  unfold f_EX_isValueGood_20 at hf
  refine lv_aload_n hx hb d_EX_isValueGood_20 rfl (lv_at hl 0 rfl) ?_
  refine lv_iconst (v := (1 : Int32)) hx hb d_EX_isValueGood_21 (by decide) ?_
  obtain ⟨q2, hq3, hf⟩ := mz_bd hf
  refine mz_callV E w (k := 5) (As := [.int (1 : Int32)]) (rest := []) (c_EX_fail hSK l n (1 : Int32) t q2 hq3) (by decide) rfl rfl k_537 k_3 k_534 k_536 ks_7 hm_EX_fail ⟨⟨rfl, rfl⟩, Nat.le_of_ble_eq_true rfl, Nat.le_of_ble_eq_true rfl⟩ rfl hl.1 rfl (Nat.le_of_ble_eq_true rfl) d_EX_isValueGood_22 ⟨Nat.zero_le _, Nat.zero_le _⟩ (st1 := [.int q2.1]) rfl (fun H locs w => ?_)
  obtain ⟨hz4, hf⟩ := mz_gd hf
  obtain rfl := Option.some.inj hf
  exact mz_zret E w (mz_b01 hz4) rfl d_EX_isValueGood_25
set_option maxRecDepth 100000 in
set_option maxHeartbeats 4000000 in
theorem b_EX_isValueGood_50 {SX : State → Heap → Prop} {dC : Nat → ClassId} {dI : Nat → Nat → Nat} {ad en : Nat → Nat} {ca : Nat → ClassId} {p : Program} {l : Launch} {e : Env} {s : State} {m : MethodId} {args : Array Value} {below : List Frame} {meth : Method} {c : Code} {res : (Int32 × mz_St)} (E : mz_En SX 80 mz_cl dC dI ad ca p s m meth c prog_6_method_13_code 1 "MacroHouse$Expander" (some (.boolean))) (n : Nat) : ∀ (t : mz_St), f_EX_isValueGood_50 n t = some res → ∀ (H : Heap) (locs : List Loc) (ls : Array Slot), mz_Wd mz_tC 80 mz_cl dC dI ad en ca s t H locs → lv_has ls 1 [] → W p l e r_EX_isValueGood s m args below meth c H locs 0 0 (MQ below (mz_Q SX mz_tC 80 mz_cl dC dI ad en ca (some (.int res.1)) res.2) args s 0 0 (mz_A ad 80)) (F0 m 50 ls []) := by
  obtain ⟨hx, hb, hml, hown, hcx, -, -, hSX, -, -, hSK⟩ := id E
  intro t hf H locs ls w hl
  unfold f_EX_isValueGood_50 at hf
  refine lv_iconst (v := (1 : Int32)) hx hb d_EX_isValueGood_50 (by decide) ?_
  refine lv_goto (tgt := 55) hx hb d_EX_isValueGood_51 (by decide) ?_
  obtain rfl := Option.some.inj hf
  exact mz_zret E w (by decide) rfl d_EX_isValueGood_55
set_option maxRecDepth 100000 in
set_option maxHeartbeats 4000000 in
theorem c_EX_isValueGood {SX : State → Heap → Prop} {dC : Nat → ClassId} {dI : Nat → Nat → Nat} {ad en : Nat → Nat} {ca : Nat → ClassId} (hSK : mz_SK SX ad 80) (l : Launch) (n : Nat) (t : mz_St) (res : (Int32 × mz_St)) (hf : f_EX_isValueGood n t = some res) : mz_C SX mz_tC 80 mz_cl dC dI ad en ca l y_EX_isValueGood prog_6_method_13_code 1 (some (.boolean)) r_EX_isValueGood [.ref (ad 5)] t (some (.int res.1)) res.2 := by
  unfold f_EX_isValueGood at hf
  refine mz_met hSK (by decide) (Nat.le_of_ble_eq_true rfl) ?_
  intro p e s m args below meth c ls E w hl
  obtain ⟨hx, hb, hml, hown, hcx, -, -, hSX, -, -, -⟩ := id E
  have hl : lv_has ls 1 [(0, .ref (ad 5))] := hl
  refine lv_aload_n hx hb d_EX_isValueGood_0 rfl (lv_at hl 0 rfl) ?_
  refine mz_get E w 5 1 (v := .ref (ad 6)) (by decide) rfl rfl ii_2 (by decide) (Nat.le_of_ble_eq_true rfl) k_371 rfl d_EX_isValueGood_1 ?_
  refine mz_get E w 6 6 (v := .int (mz_gI t 6 6)) (by decide) rfl rfl ii_3 (by decide) (Nat.le_of_ble_eq_true rfl) k_191 rfl d_EX_isValueGood_4 ?_
  refine lv_if_ne (tgt := 20) hx hb d_EX_isValueGood_7 (by decide) (fun hc1 => ?_) (fun hc1 => ?_)
  · have hf := mz_f hc1 hf
    exact b_EX_isValueGood_20 E n  t hf _ _ _ w (lv_sub hl [0] rfl)
  · have hf := mz_t hc1 hf
    refine lv_aload_n hx hb d_EX_isValueGood_10 rfl (lv_at hl 0 rfl) ?_
    refine mz_get E w 5 1 (v := .ref (ad 6)) (by decide) rfl rfl ii_2 (by decide) (Nat.le_of_ble_eq_true rfl) k_371 rfl d_EX_isValueGood_11 ?_
    obtain ⟨q5, hq6, hf⟩ := mz_bd hf
    refine mz_callV E w (k := 6) (As := []) (rest := []) (c_RE_isDone hSK l n t q5 hq6) (by decide) rfl rfl k_862 k_11 k_859 k_860 k_861 hm_RE_isDone ⟨⟨rfl, rfl⟩, Nat.le_of_ble_eq_true rfl, Nat.le_of_ble_eq_true rfl⟩ rfl hl.1 rfl (Nat.le_of_ble_eq_true rfl) d_EX_isValueGood_14 ⟨Nat.zero_le _, Nat.zero_le _⟩ (st1 := [.int q5.1]) rfl (fun H locs w => ?_)
    refine lv_if_ne (tgt := 26) hx hb d_EX_isValueGood_17 (by decide) (fun hc7 => ?_) (fun hc7 => ?_)
    · have hf := mz_f hc7 hf
      refine lv_aload_n hx hb d_EX_isValueGood_26 rfl (lv_at hl 0 rfl) ?_
      refine mz_get E w 5 1 (v := .ref (ad 6)) (by decide) rfl rfl ii_2 (by decide) (Nat.le_of_ble_eq_true rfl) k_371 rfl d_EX_isValueGood_27 ?_
      refine mz_get E w 6 7 (v := .int (mz_gI q5.2 6 7)) (by decide) rfl rfl ii_3 (by decide) (Nat.le_of_ble_eq_true rfl) k_193 rfl d_EX_isValueGood_30 ?_
      refine lv_if_eq (tgt := 50) hx hb d_EX_isValueGood_33 (by decide) (fun hc8 => ?_) (fun hc8 => ?_)
      · have hf := mz_t hc8 hf
        exact b_EX_isValueGood_50 E n  q5.2 hf _ _ _ w (lv_sub hl [] rfl)
      · have hf := mz_f hc8 hf
        refine lv_aload_n hx hb d_EX_isValueGood_36 rfl (lv_at hl 0 rfl) ?_
        refine lv_aload_n hx hb d_EX_isValueGood_37 rfl (lv_at hl 0 rfl) ?_
        refine mz_get E w 5 1 (v := .ref (ad 6)) (by decide) rfl rfl ii_2 (by decide) (Nat.le_of_ble_eq_true rfl) k_371 rfl d_EX_isValueGood_38 ?_
        refine mz_get E w 6 7 (v := .int (mz_gI q5.2 6 7)) (by decide) rfl rfl ii_3 (by decide) (Nat.le_of_ble_eq_true rfl) k_193 rfl d_EX_isValueGood_41 ?_
        obtain ⟨q9, hq10, hf⟩ := mz_bd hf
        refine mz_callV E w (k := 5) (As := [.int (mz_gI q5.2 6 7)]) (rest := []) (c_EX_fail hSK l n (mz_gI q5.2 6 7) q5.2 q9 hq10) (by decide) rfl rfl k_537 k_3 k_534 k_536 ks_7 hm_EX_fail ⟨⟨rfl, rfl⟩, Nat.le_of_ble_eq_true rfl, Nat.le_of_ble_eq_true rfl⟩ rfl hl.1 rfl (Nat.le_of_ble_eq_true rfl) d_EX_isValueGood_44 ⟨Nat.zero_le _, Nat.zero_le _⟩ (st1 := [.int q9.1]) rfl (fun H locs w => ?_)
        refine lv_if_eq (tgt := 54) hx hb d_EX_isValueGood_47 (by decide) (fun hc11 => ?_) (fun hc11 => ?_)
        · have hf := mz_t hc11 hf
          refine lv_iconst (v := (0 : Int32)) hx hb d_EX_isValueGood_54 (by decide) ?_
          obtain rfl := Option.some.inj hf
          exact mz_zret E w (by decide) rfl d_EX_isValueGood_55
        · have hf := mz_f hc11 hf
          exact b_EX_isValueGood_50 E n  q9.2 hf _ _ _ w (lv_sub hl [] rfl)
    · have hf := mz_t hc7 hf
      exact b_EX_isValueGood_20 E n  q5.2 hf _ _ _ w (lv_sub hl [0] rfl)

/-! MacroHouse$Expander.forgetConstant()V -/
abbrev r_EX_forgetConstant : Room := { frames := 4, cells := 0, slots := 0, locals := 94 }
def f_EX_forgetConstant_20 (n : Nat) (t : mz_St) : Option mz_St := (f_EX_fail n (1 : Int32) t).bind fun q4 => some q4.2
def f_EX_forgetConstant (n : Nat) (t : mz_St) : Option mz_St := (f_RE_takeWord n t).bind fun q1 => if q1.1 = 0 then (f_EX_forgetConstant_20 n  q1.2) else ((f_RE_isDone n q1.2).bind fun q6 => if q6.1 = 0 then (f_EX_forgetConstant_20 n  q6.2) else ((f_CN_forget n (mz_gI q6.2 6 4) (mz_gI q6.2 6 5) q6.2).bind fun q9 => if q9.1 = 0 then ((f_EX_fail n (3 : Int32) q9.2).bind fun q12 => some q12.2) else (some q9.2)))
set_option maxRecDepth 100000 in
set_option maxHeartbeats 4000000 in
theorem b_EX_forgetConstant_20 {SX : State → Heap → Prop} {dC : Nat → ClassId} {dI : Nat → Nat → Nat} {ad en : Nat → Nat} {ca : Nat → ClassId} {p : Program} {l : Launch} {e : Env} {s : State} {m : MethodId} {args : Array Value} {below : List Frame} {meth : Method} {c : Code} {res : mz_St} (E : mz_En SX 80 mz_cl dC dI ad ca p s m meth c prog_6_method_15_code 1 "MacroHouse$Expander" none) (n : Nat) : ∀ (t : mz_St), f_EX_forgetConstant_20 n t = some res → ∀ (H : Heap) (locs : List Loc) (ls : Array Slot), mz_Wd mz_tC 80 mz_cl dC dI ad en ca s t H locs → lv_has ls 1 [(0, .ref (ad 5))] → W p l e r_EX_forgetConstant s m args below meth c H locs 0 0 (MQ below (mz_Q SX mz_tC 80 mz_cl dC dI ad en ca none res) args s 0 0 (mz_A ad 80)) (F0 m 20 ls []) := by
  obtain ⟨hx, hb, hml, hown, hcx, -, -, hSX, -, -, hSK⟩ := id E
  intro t hf H locs ls w hl
  unfold f_EX_forgetConstant_20 at hf
  refine lv_aload_n hx hb d_EX_forgetConstant_20 rfl (lv_at hl 0 rfl) ?_
  refine lv_iconst (v := (1 : Int32)) hx hb d_EX_forgetConstant_21 (by decide) ?_
  obtain ⟨q4, hq5, hf⟩ := mz_bd hf
  refine mz_callV E w (k := 5) (As := [.int (1 : Int32)]) (rest := []) (c_EX_fail hSK l n (1 : Int32) t q4 hq5) (by decide) rfl rfl k_537 k_3 k_534 k_536 ks_7 hm_EX_fail ⟨⟨rfl, rfl⟩, Nat.le_of_ble_eq_true rfl, Nat.le_of_ble_eq_true rfl⟩ rfl hl.1 rfl (Nat.le_of_ble_eq_true rfl) d_EX_forgetConstant_22 ⟨Nat.zero_le _, Nat.zero_le _⟩ (st1 := [.int q4.1]) rfl (fun H locs w => ?_)
  refine lv_pop hx hb d_EX_forgetConstant_25 rfl ?_
  refine lv_goto (tgt := 59) hx hb d_EX_forgetConstant_26 (by decide) ?_
  obtain rfl := Option.some.inj hf
  exact mz_vret E w rfl d_EX_forgetConstant_59
set_option maxRecDepth 100000 in
set_option maxHeartbeats 4000000 in
theorem c_EX_forgetConstant {SX : State → Heap → Prop} {dC : Nat → ClassId} {dI : Nat → Nat → Nat} {ad en : Nat → Nat} {ca : Nat → ClassId} (hSK : mz_SK SX ad 80) (l : Launch) (n : Nat) (t : mz_St) (res : mz_St) (hf : f_EX_forgetConstant n t = some res) : mz_C SX mz_tC 80 mz_cl dC dI ad en ca l y_EX_forgetConstant prog_6_method_15_code 1 none r_EX_forgetConstant [.ref (ad 5)] t none res := by
  unfold f_EX_forgetConstant at hf
  refine mz_met hSK (by decide) (Nat.le_of_ble_eq_true rfl) ?_
  intro p e s m args below meth c ls E w hl
  obtain ⟨hx, hb, hml, hown, hcx, -, -, hSX, -, -, -⟩ := id E
  have hl : lv_has ls 1 [(0, .ref (ad 5))] := hl
  refine lv_aload_n hx hb d_EX_forgetConstant_0 rfl (lv_at hl 0 rfl) ?_
  refine mz_get E w 5 1 (v := .ref (ad 6)) (by decide) rfl rfl ii_2 (by decide) (Nat.le_of_ble_eq_true rfl) k_371 rfl d_EX_forgetConstant_1 ?_
  obtain ⟨q1, hq2, hf⟩ := mz_bd hf
  refine mz_callV E w (k := 6) (As := []) (rest := []) (c_RE_takeWord hSK l n t q1 hq2) (by decide) rfl rfl k_793 k_11 k_790 k_791 k_792 hm_RE_takeWord ⟨⟨rfl, rfl⟩, Nat.le_of_ble_eq_true rfl, Nat.le_of_ble_eq_true rfl⟩ rfl hl.1 rfl (Nat.le_of_ble_eq_true rfl) d_EX_forgetConstant_4 ⟨Nat.zero_le _, Nat.zero_le _⟩ (st1 := [.int q1.1]) rfl (fun H locs w => ?_)
  refine lv_if_eq (tgt := 20) hx hb d_EX_forgetConstant_7 (by decide) (fun hc3 => ?_) (fun hc3 => ?_)
  · have hf := mz_t hc3 hf
    exact b_EX_forgetConstant_20 E n  q1.2 hf _ _ _ w (lv_sub hl [0] rfl)
  · have hf := mz_f hc3 hf
    refine lv_aload_n hx hb d_EX_forgetConstant_10 rfl (lv_at hl 0 rfl) ?_
    refine mz_get E w 5 1 (v := .ref (ad 6)) (by decide) rfl rfl ii_2 (by decide) (Nat.le_of_ble_eq_true rfl) k_371 rfl d_EX_forgetConstant_11 ?_
    obtain ⟨q6, hq7, hf⟩ := mz_bd hf
    refine mz_callV E w (k := 6) (As := []) (rest := []) (c_RE_isDone hSK l n q1.2 q6 hq7) (by decide) rfl rfl k_862 k_11 k_859 k_860 k_861 hm_RE_isDone ⟨⟨rfl, rfl⟩, Nat.le_of_ble_eq_true rfl, Nat.le_of_ble_eq_true rfl⟩ rfl hl.1 rfl (Nat.le_of_ble_eq_true rfl) d_EX_forgetConstant_14 ⟨Nat.zero_le _, Nat.zero_le _⟩ (st1 := [.int q6.1]) rfl (fun H locs w => ?_)
    refine lv_if_ne (tgt := 29) hx hb d_EX_forgetConstant_17 (by decide) (fun hc8 => ?_) (fun hc8 => ?_)
    · have hf := mz_f hc8 hf
      refine lv_aload_n hx hb d_EX_forgetConstant_29 rfl (lv_at hl 0 rfl) ?_
      refine mz_get E w 5 3 (v := .ref (ad 13)) (by decide) rfl rfl ii_2 (by decide) (Nat.le_of_ble_eq_true rfl) k_373 rfl d_EX_forgetConstant_30 ?_
      refine lv_aload_n hx hb d_EX_forgetConstant_33 rfl (lv_at hl 0 rfl) ?_
      refine mz_get E w 5 1 (v := .ref (ad 6)) (by decide) rfl rfl ii_2 (by decide) (Nat.le_of_ble_eq_true rfl) k_371 rfl d_EX_forgetConstant_34 ?_
      refine mz_get E w 6 4 (v := .int (mz_gI q6.2 6 4)) (by decide) rfl rfl ii_3 (by decide) (Nat.le_of_ble_eq_true rfl) k_186 rfl d_EX_forgetConstant_37 ?_
      refine lv_aload_n hx hb d_EX_forgetConstant_40 rfl (lv_at hl 0 rfl) ?_
      refine mz_get E w 5 1 (v := .ref (ad 6)) (by decide) rfl rfl ii_2 (by decide) (Nat.le_of_ble_eq_true rfl) k_371 rfl d_EX_forgetConstant_41 ?_
      refine mz_get E w 6 5 (v := .int (mz_gI q6.2 6 5)) (by decide) rfl rfl ii_3 (by decide) (Nat.le_of_ble_eq_true rfl) k_189 rfl d_EX_forgetConstant_44 ?_
      obtain ⟨q9, hq10, hf⟩ := mz_bd hf
      refine mz_callV E w (k := 13) (As := [.int (mz_gI q6.2 6 4), .int (mz_gI q6.2 6 5)]) (rest := []) (c_CN_forget hSK l n (mz_gI q6.2 6 4) (mz_gI q6.2 6 5) q6.2 q9 hq10) (by decide) rfl rfl k_889 k_8 k_886 k_887 k_888 hm_CN_forget ⟨⟨rfl, rfl⟩, Nat.le_of_ble_eq_true rfl, Nat.le_of_ble_eq_true rfl⟩ rfl hl.1 rfl (Nat.le_of_ble_eq_true rfl) d_EX_forgetConstant_47 ⟨Nat.zero_le _, Nat.zero_le _⟩ (st1 := [.int q9.1]) rfl (fun H locs w => ?_)
      refine lv_if_ne (tgt := 59) hx hb d_EX_forgetConstant_50 (by decide) (fun hc11 => ?_) (fun hc11 => ?_)
      · have hf := mz_f hc11 hf
        obtain rfl := Option.some.inj hf
        exact mz_vret E w rfl d_EX_forgetConstant_59
      · have hf := mz_t hc11 hf
        refine lv_aload_n hx hb d_EX_forgetConstant_53 rfl (lv_at hl 0 rfl) ?_
        refine lv_iconst (v := (3 : Int32)) hx hb d_EX_forgetConstant_54 (by decide) ?_
        obtain ⟨q12, hq13, hf⟩ := mz_bd hf
        refine mz_callV E w (k := 5) (As := [.int (3 : Int32)]) (rest := []) (c_EX_fail hSK l n (3 : Int32) q9.2 q12 hq13) (by decide) rfl rfl k_537 k_3 k_534 k_536 ks_7 hm_EX_fail ⟨⟨rfl, rfl⟩, Nat.le_of_ble_eq_true rfl, Nat.le_of_ble_eq_true rfl⟩ rfl hl.1 rfl (Nat.le_of_ble_eq_true rfl) d_EX_forgetConstant_55 ⟨Nat.zero_le _, Nat.zero_le _⟩ (st1 := [.int q12.1]) rfl (fun H locs w => ?_)
        refine lv_pop hx hb d_EX_forgetConstant_58 rfl ?_
        obtain rfl := Option.some.inj hf
        exact mz_vret E w rfl d_EX_forgetConstant_59
    · have hf := mz_t hc8 hf
      exact b_EX_forgetConstant_20 E n  q6.2 hf _ _ _ w (lv_sub hl [0] rfl)

/-! MacroHouse$Expander.openCondition(ZZ)V -/
abbrev r_EX_openCondition : Room := { frames := 2, cells := 0, slots := 0, locals := 41 }
def f_EX_openCondition (n : Nat) (x1 : Int32) (x2 : Int32) (t : mz_St) : Option mz_St := (f_EX_toldLine n t).bind fun q1 => (f_CO_open n x1 x2 q1.1 q1.2).bind fun q3 => if q3.1 = 0 then ((f_EX_fail n (6 : Int32) q3.2).bind fun q6 => some q6.2) else (some q3.2)
set_option maxRecDepth 100000 in
set_option maxHeartbeats 4000000 in
theorem c_EX_openCondition {SX : State → Heap → Prop} {dC : Nat → ClassId} {dI : Nat → Nat → Nat} {ad en : Nat → Nat} {ca : Nat → ClassId} (hSK : mz_SK SX ad 80) (l : Launch) (n : Nat) (x1 : Int32) (x2 : Int32) (t : mz_St) (res : mz_St) (hf : f_EX_openCondition n x1 x2 t = some res) : mz_C SX mz_tC 80 mz_cl dC dI ad en ca l y_EX_openCondition prog_6_method_18_code 3 none r_EX_openCondition [.ref (ad 5), .int x1, .int x2] t none res := by
  unfold f_EX_openCondition at hf
  refine mz_met hSK (by decide) (Nat.le_of_ble_eq_true rfl) ?_
  intro p e s m args below meth c ls E w hl
  obtain ⟨hx, hb, hml, hown, hcx, -, -, hSX, -, -, -⟩ := id E
  have hl : lv_has ls 3 [(0, .ref (ad 5)), (1, .int x1), (2, .int x2)] := hl
  refine lv_aload_n hx hb d_EX_openCondition_0 rfl (lv_at hl 0 rfl) ?_
  refine mz_get E w 5 2 (v := .ref (ad 7)) (by decide) rfl rfl ii_2 (by decide) (Nat.le_of_ble_eq_true rfl) k_372 rfl d_EX_openCondition_1 ?_
  refine lv_iload_n hx hb d_EX_openCondition_4 rfl (lv_at hl 1 rfl) ?_
  refine lv_iload_n hx hb d_EX_openCondition_5 rfl (lv_at hl 2 rfl) ?_
  refine lv_aload_n hx hb d_EX_openCondition_6 rfl (lv_at hl 0 rfl) ?_
  obtain ⟨q1, hq2, hf⟩ := mz_bd hf
  refine mz_callV E w (k := 5) (As := []) (rest := [.int x2, .int x1, .ref (ad 7)]) (c_EX_toldLine hSK l n t q1 hq2) (by decide) rfl rfl k_541 k_3 k_538 k_540 ks_8 hm_EX_toldLine ⟨⟨rfl, rfl⟩, Nat.le_of_ble_eq_true rfl, Nat.le_of_ble_eq_true rfl⟩ rfl hl.1 rfl (Nat.le_of_ble_eq_true rfl) d_EX_openCondition_7 ⟨Nat.zero_le _, Nat.zero_le _⟩ (st1 := [.int q1.1, .int x2, .int x1, .ref (ad 7)]) rfl (fun H locs w => ?_)
  obtain ⟨q3, hq4, hf⟩ := mz_bd hf
  refine mz_callV E w (k := 7) (As := [.int x1, .int x2, .int q1.1]) (rest := []) (c_CO_open hSK l n x1 x2 q1.1 q1.2 q3 hq4) (by decide) rfl rfl k_909 k_4 k_906 k_907 k_908 hm_CO_open ⟨⟨rfl, rfl⟩, Nat.le_of_ble_eq_true rfl, Nat.le_of_ble_eq_true rfl⟩ rfl hl.1 rfl (Nat.le_of_ble_eq_true rfl) d_EX_openCondition_10 ⟨Nat.zero_le _, Nat.zero_le _⟩ (st1 := [.int q3.1]) rfl (fun H locs w => ?_)
  refine lv_if_ne (tgt := 23) hx hb d_EX_openCondition_13 (by decide) (fun hc5 => ?_) (fun hc5 => ?_)
  · have hf := mz_f hc5 hf
    obtain rfl := Option.some.inj hf
    exact mz_vret E w rfl d_EX_openCondition_23
  · have hf := mz_t hc5 hf
    refine lv_aload_n hx hb d_EX_openCondition_16 rfl (lv_at hl 0 rfl) ?_
    refine lv_bipush (v := (6 : Int32)) hx hb d_EX_openCondition_17 (by decide) ?_
    obtain ⟨q6, hq7, hf⟩ := mz_bd hf
    refine mz_callV E w (k := 5) (As := [.int (6 : Int32)]) (rest := []) (c_EX_fail hSK l n (6 : Int32) q3.2 q6 hq7) (by decide) rfl rfl k_537 k_3 k_534 k_536 ks_7 hm_EX_fail ⟨⟨rfl, rfl⟩, Nat.le_of_ble_eq_true rfl, Nat.le_of_ble_eq_true rfl⟩ rfl hl.1 rfl (Nat.le_of_ble_eq_true rfl) d_EX_openCondition_19 ⟨Nat.zero_le _, Nat.zero_le _⟩ (st1 := [.int q6.1]) rfl (fun H locs w => ?_)
    refine lv_pop hx hb d_EX_openCondition_22 rfl ?_
    obtain rfl := Option.some.inj hf
    exact mz_vret E w rfl d_EX_openCondition_23

/-! MacroHouse$Expander.openIfSame()V -/
abbrev r_EX_openIfSame : Room := { frames := 3, cells := 0, slots := 0, locals := 63 }
def f_EX_openIfSame (n : Nat) (t : mz_St) : Option mz_St := (f_SI_find n (44 : Int32) (mz_gI t 6 2) (mz_gI t 5 13) t).bind fun q1 => if q1.1 < (mz_gI q1.2 5 13) then ((f_SI_behindBlanks n (mz_gI q1.2 6 2) q1.1 q1.2).bind fun q4 => (f_SI_aheadOfBlanks n q4.1 q1.1 q4.2).bind fun q6 => (f_SI_behindBlanks n (q1.1 + (1 : Int32)) (mz_gI q6.2 5 13) q6.2).bind fun q8 => (f_SI_same n q4.1 q6.1 q8.1 (mz_gI q8.2 5 13) q8.2).bind fun q10 => (f_EX_openCondition n (1 : Int32) q10.1 q10.2).bind fun q12 => some q12) else ((f_EX_fail n (1 : Int32) q1.2).bind fun q14 => some q14.2)
set_option maxRecDepth 100000 in
set_option maxHeartbeats 4000000 in
theorem c_EX_openIfSame {SX : State → Heap → Prop} {dC : Nat → ClassId} {dI : Nat → Nat → Nat} {ad en : Nat → Nat} {ca : Nat → ClassId} (hSK : mz_SK SX ad 80) (l : Launch) (n : Nat) (t : mz_St) (res : mz_St) (hf : f_EX_openIfSame n t = some res) : mz_C SX mz_tC 80 mz_cl dC dI ad en ca l y_EX_openIfSame prog_6_method_17_code 5 none r_EX_openIfSame [.ref (ad 5)] t none res := by
  unfold f_EX_openIfSame at hf
  refine mz_met hSK (by decide) (Nat.le_of_ble_eq_true rfl) ?_
  intro p e s m args below meth c ls E w hl
  obtain ⟨hx, hb, hml, hown, hcx, -, -, hSX, -, -, -⟩ := id E
  have hl : lv_has ls 5 [(0, .ref (ad 5))] := hl
  refine lv_aload_n hx hb d_EX_openIfSame_0 rfl (lv_at hl 0 rfl) ?_
  refine mz_get E w 5 0 (v := .ref (ad 1)) (by decide) rfl rfl ii_2 (by decide) (Nat.le_of_ble_eq_true rfl) k_370 rfl d_EX_openIfSame_1 ?_
  refine lv_bipush (v := (44 : Int32)) hx hb d_EX_openIfSame_4 (by decide) ?_
  refine lv_aload_n hx hb d_EX_openIfSame_6 rfl (lv_at hl 0 rfl) ?_
  refine mz_get E w 5 1 (v := .ref (ad 6)) (by decide) rfl rfl ii_2 (by decide) (Nat.le_of_ble_eq_true rfl) k_371 rfl d_EX_openIfSame_7 ?_
  refine mz_get E w 6 2 (v := .int (mz_gI t 6 2)) (by decide) rfl rfl ii_3 (by decide) (Nat.le_of_ble_eq_true rfl) k_181 rfl d_EX_openIfSame_10 ?_
  refine lv_aload_n hx hb d_EX_openIfSame_13 rfl (lv_at hl 0 rfl) ?_
  refine mz_get E w 5 13 (v := .int (mz_gI t 5 13)) (by decide) rfl rfl ii_2 (by decide) (Nat.le_of_ble_eq_true rfl) k_391 rfl d_EX_openIfSame_14 ?_
  obtain ⟨q1, hq2, hf⟩ := mz_bd hf
  refine mz_callV E w (k := 1) (As := [.int (44 : Int32), .int (mz_gI t 6 2), .int (mz_gI t 5 13)]) (rest := []) (c_SI_find hSK l n (44 : Int32) (mz_gI t 6 2) (mz_gI t 5 13) t q1 hq2) (by decide) rfl rfl k_458 k_2 k_914 k_456 k_457 hm_SI_find ⟨⟨rfl, rfl⟩, Nat.le_of_ble_eq_true rfl, Nat.le_of_ble_eq_true rfl⟩ rfl hl.1 rfl (Nat.le_of_ble_eq_true rfl) d_EX_openIfSame_17 ⟨Nat.zero_le _, Nat.zero_le _⟩ (st1 := [.int q1.1]) rfl (fun H locs w => ?_)
  refine lv_istore_n (lv' := [(1, .int q1.1), (0, .ref (ad 5))]) hx hb d_EX_openIfSame_20 rfl hl (by decide) rfl (fun ls hl => ?_)
  refine lv_iload_n hx hb d_EX_openIfSame_21 rfl (lv_at hl 0 rfl) ?_
  refine lv_aload_n hx hb d_EX_openIfSame_22 rfl (lv_at hl 1 rfl) ?_
  refine mz_get E w 5 13 (v := .int (mz_gI q1.2 5 13)) (by decide) rfl rfl ii_2 (by decide) (Nat.le_of_ble_eq_true rfl) k_391 rfl d_EX_openIfSame_23 ?_
  refine lv_icmp_lt (tgt := 36) hx hb d_EX_openIfSame_26 (by decide) (fun hc3 => ?_) (fun hc3 => ?_)
  · have hf := mz_t hc3 hf
    refine lv_aload_n hx hb d_EX_openIfSame_36 rfl (lv_at hl 1 rfl) ?_
    refine mz_get E w 5 0 (v := .ref (ad 1)) (by decide) rfl rfl ii_2 (by decide) (Nat.le_of_ble_eq_true rfl) k_370 rfl d_EX_openIfSame_37 ?_
    refine lv_aload_n hx hb d_EX_openIfSame_40 rfl (lv_at hl 1 rfl) ?_
    refine mz_get E w 5 1 (v := .ref (ad 6)) (by decide) rfl rfl ii_2 (by decide) (Nat.le_of_ble_eq_true rfl) k_371 rfl d_EX_openIfSame_41 ?_
    refine mz_get E w 6 2 (v := .int (mz_gI q1.2 6 2)) (by decide) rfl rfl ii_3 (by decide) (Nat.le_of_ble_eq_true rfl) k_181 rfl d_EX_openIfSame_44 ?_
    refine lv_iload_n hx hb d_EX_openIfSame_47 rfl (lv_at hl 0 rfl) ?_
    obtain ⟨q4, hq5, hf⟩ := mz_bd hf
    refine mz_callV E w (k := 1) (As := [.int (mz_gI q1.2 6 2), .int q1.1]) (rest := []) (c_SI_behindBlanks hSK l n (mz_gI q1.2 6 2) q1.1 q1.2 q4 hq5) (by decide) rfl rfl k_462 k_2 k_700 k_460 k_461 hm_SI_behindBlanks ⟨⟨rfl, rfl⟩, Nat.le_of_ble_eq_true rfl, Nat.le_of_ble_eq_true rfl⟩ rfl hl.1 rfl (Nat.le_of_ble_eq_true rfl) d_EX_openIfSame_48 ⟨Nat.zero_le _, Nat.zero_le _⟩ (st1 := [.int q4.1]) rfl (fun H locs w => ?_)
    refine lv_istore_n (lv' := [(2, .int q4.1), (1, .int q1.1), (0, .ref (ad 5))]) hx hb d_EX_openIfSame_51 rfl hl (by decide) rfl (fun ls hl => ?_)
    refine lv_aload_n hx hb d_EX_openIfSame_52 rfl (lv_at hl 2 rfl) ?_
    refine mz_get E w 5 0 (v := .ref (ad 1)) (by decide) rfl rfl ii_2 (by decide) (Nat.le_of_ble_eq_true rfl) k_370 rfl d_EX_openIfSame_53 ?_
    refine lv_iload_n hx hb d_EX_openIfSame_56 rfl (lv_at hl 0 rfl) ?_
    refine lv_iload_n hx hb d_EX_openIfSame_57 rfl (lv_at hl 1 rfl) ?_
    obtain ⟨q6, hq7, hf⟩ := mz_bd hf
    refine mz_callV E w (k := 1) (As := [.int q4.1, .int q1.1]) (rest := []) (c_SI_aheadOfBlanks hSK l n q4.1 q1.1 q4.2 q6 hq7) (by decide) rfl rfl k_466 k_2 k_701 k_464 k_465 hm_SI_aheadOfBlanks ⟨⟨rfl, rfl⟩, Nat.le_of_ble_eq_true rfl, Nat.le_of_ble_eq_true rfl⟩ rfl hl.1 rfl (Nat.le_of_ble_eq_true rfl) d_EX_openIfSame_58 ⟨Nat.zero_le _, Nat.zero_le _⟩ (st1 := [.int q6.1]) rfl (fun H locs w => ?_)
    refine lv_istore_n (lv' := [(3, .int q6.1), (2, .int q4.1), (1, .int q1.1), (0, .ref (ad 5))]) hx hb d_EX_openIfSame_61 rfl hl (by decide) rfl (fun ls hl => ?_)
    refine lv_aload_n hx hb d_EX_openIfSame_62 rfl (lv_at hl 3 rfl) ?_
    refine mz_get E w 5 0 (v := .ref (ad 1)) (by decide) rfl rfl ii_2 (by decide) (Nat.le_of_ble_eq_true rfl) k_370 rfl d_EX_openIfSame_63 ?_
    refine lv_iload_n hx hb d_EX_openIfSame_66 rfl (lv_at hl 2 rfl) ?_
    refine lv_iconst (v := (1 : Int32)) hx hb d_EX_openIfSame_67 (by decide) ?_
    refine lv_iadd hx hb d_EX_openIfSame_68 ?_
    refine lv_aload_n hx hb d_EX_openIfSame_69 rfl (lv_at hl 3 rfl) ?_
    refine mz_get E w 5 13 (v := .int (mz_gI q6.2 5 13)) (by decide) rfl rfl ii_2 (by decide) (Nat.le_of_ble_eq_true rfl) k_391 rfl d_EX_openIfSame_70 ?_
    obtain ⟨q8, hq9, hf⟩ := mz_bd hf
    refine mz_callV E w (k := 1) (As := [.int (q1.1 + (1 : Int32)), .int (mz_gI q6.2 5 13)]) (rest := []) (c_SI_behindBlanks hSK l n (q1.1 + (1 : Int32)) (mz_gI q6.2 5 13) q6.2 q8 hq9) (by decide) rfl rfl k_462 k_2 k_700 k_460 k_461 hm_SI_behindBlanks ⟨⟨rfl, rfl⟩, Nat.le_of_ble_eq_true rfl, Nat.le_of_ble_eq_true rfl⟩ rfl hl.1 rfl (Nat.le_of_ble_eq_true rfl) d_EX_openIfSame_73 ⟨Nat.zero_le _, Nat.zero_le _⟩ (st1 := [.int q8.1]) rfl (fun H locs w => ?_)
    refine lv_istore (lv' := [(4, .int q8.1), (3, .int q6.1), (2, .int q4.1), (1, .int q1.1), (0, .ref (ad 5))]) hx hb d_EX_openIfSame_76 hl (by decide) rfl (fun ls hl => ?_)
    refine lv_aload_n hx hb d_EX_openIfSame_78 rfl (lv_at hl 4 rfl) ?_
    refine lv_iconst (v := (1 : Int32)) hx hb d_EX_openIfSame_79 (by decide) ?_
    refine lv_aload_n hx hb d_EX_openIfSame_80 rfl (lv_at hl 4 rfl) ?_
    refine mz_get E w 5 0 (v := .ref (ad 1)) (by decide) rfl rfl ii_2 (by decide) (Nat.le_of_ble_eq_true rfl) k_370 rfl d_EX_openIfSame_81 ?_
    refine lv_iload_n hx hb d_EX_openIfSame_84 rfl (lv_at hl 2 rfl) ?_
    refine lv_iload_n hx hb d_EX_openIfSame_85 rfl (lv_at hl 1 rfl) ?_
    refine lv_iload hx hb d_EX_openIfSame_86 (lv_at hl 0 rfl) ?_
    refine lv_aload_n hx hb d_EX_openIfSame_88 rfl (lv_at hl 4 rfl) ?_
    refine mz_get E w 5 13 (v := .int (mz_gI q8.2 5 13)) (by decide) rfl rfl ii_2 (by decide) (Nat.le_of_ble_eq_true rfl) k_391 rfl d_EX_openIfSame_89 ?_
    obtain ⟨q10, hq11, hf⟩ := mz_bd hf
    refine mz_callV E w (k := 1) (As := [.int q4.1, .int q6.1, .int q8.1, .int (mz_gI q8.2 5 13)]) (rest := [.int (1 : Int32), .ref (ad 5)]) (c_SI_same hSK l n q4.1 q6.1 q8.1 (mz_gI q8.2 5 13) q8.2 q10 hq11) (by decide) rfl rfl k_678 k_2 k_915 k_676 k_677 hm_SI_same ⟨⟨rfl, rfl⟩, Nat.le_of_ble_eq_true rfl, Nat.le_of_ble_eq_true rfl⟩ rfl hl.1 rfl (Nat.le_of_ble_eq_true rfl) d_EX_openIfSame_92 ⟨Nat.zero_le _, Nat.zero_le _⟩ (st1 := [.int q10.1, .int (1 : Int32), .ref (ad 5)]) rfl (fun H locs w => ?_)
    obtain ⟨q12, hq13, hf⟩ := mz_bd hf
    refine mz_callV E w (k := 5) (As := [.int (1 : Int32), .int q10.1]) (rest := []) (c_EX_openCondition hSK l n (1 : Int32) q10.1 q10.2 q12 hq13) (by decide) rfl rfl k_905 k_3 k_902 k_904 ks_34 hm_EX_openCondition ⟨⟨rfl, rfl⟩, Nat.le_of_ble_eq_true rfl, Nat.le_of_ble_eq_true rfl⟩ rfl hl.1 rfl (Nat.le_of_ble_eq_true rfl) d_EX_openIfSame_95 ⟨Nat.zero_le _, Nat.zero_le _⟩ (st1 := []) rfl (fun H locs w => ?_)
    obtain rfl := Option.some.inj hf
    exact mz_vret E w rfl d_EX_openIfSame_98
  · have hf := mz_f hc3 hf
    refine lv_aload_n hx hb d_EX_openIfSame_29 rfl (lv_at hl 1 rfl) ?_
    refine lv_iconst (v := (1 : Int32)) hx hb d_EX_openIfSame_30 (by decide) ?_
    obtain ⟨q14, hq15, hf⟩ := mz_bd hf
    refine mz_callV E w (k := 5) (As := [.int (1 : Int32)]) (rest := []) (c_EX_fail hSK l n (1 : Int32) q1.2 q14 hq15) (by decide) rfl rfl k_537 k_3 k_534 k_536 ks_7 hm_EX_fail ⟨⟨rfl, rfl⟩, Nat.le_of_ble_eq_true rfl, Nat.le_of_ble_eq_true rfl⟩ rfl hl.1 rfl (Nat.le_of_ble_eq_true rfl) d_EX_openIfSame_31 ⟨Nat.zero_le _, Nat.zero_le _⟩ (st1 := [.int q14.1]) rfl (fun H locs w => ?_)
    refine lv_pop hx hb d_EX_openIfSame_34 rfl ?_
    obtain rfl := Option.some.inj hf
    exact mz_vret E w rfl d_EX_openIfSame_35

/-! MacroHouse$Expander.openRepeated(LMacroHouse$Directive;II)V -/
abbrev r_EX_openRepeated : Room := { frames := 2, cells := 0, slots := 0, locals := 42 }
def f_EX_openRepeated (n : Nat) (x1 : Int32) (x2 : Int32) (x3 : Int32) (t : mz_St) : Option mz_St := mz_let (mz_pI t 5 11 x2) fun t1 => if x3 = 0 then (some t1) else ((f_SK_spare n t1).bind fun q3 => if mz_fr q3.1 then ((f_FR_begin n q3.1 x1 (x2 + (1 : Int32)) (mz_gI t 5 11) x3 (mz_gI q3.2 7 5) q3.2).bind fun q6 => (f_SK_open n x2 q6).bind fun q8 => if q8.1 = 0 then ((f_EX_fail n (6 : Int32) q8.2).bind fun q11 => some q11.2) else (some q8.2)) else none)
set_option maxRecDepth 100000 in
set_option maxHeartbeats 4000000 in
theorem c_EX_openRepeated {SX : State → Heap → Prop} {dC : Nat → ClassId} {dI : Nat → Nat → Nat} {ad en : Nat → Nat} {ca : Nat → ClassId} (hSK : mz_SK SX ad 80) (l : Launch) (n : Nat) (x1 : Int32) (x2 : Int32) (x3 : Int32) (t : mz_St) (res : mz_St) (hf : f_EX_openRepeated n x1 x2 x3 t = some res) : mz_C SX mz_tC 80 mz_cl dC dI ad en ca l y_EX_openRepeated prog_6_method_25_code 5 none r_EX_openRepeated [.ref (ad 5), .ref (en x1.toNatClampNeg), .int x2, .int x3] t none res := by
  unfold f_EX_openRepeated at hf
  refine mz_met hSK (by decide) (Nat.le_of_ble_eq_true rfl) ?_
  intro p e s m args below meth c ls E w hl
  obtain ⟨hx, hb, hml, hown, hcx, -, -, hSX, -, -, -⟩ := id E
  have hl : lv_has ls 5 [(0, .ref (ad 5)), (1, .ref (en x1.toNatClampNeg)), (2, .int x2), (3, .int x3)] := hl
  refine lv_aload_n hx hb d_EX_openRepeated_0 rfl (lv_at hl 0 rfl) ?_
  refine mz_get E w 5 11 (v := .int (mz_gI t 5 11)) (by decide) rfl rfl ii_2 (by decide) (Nat.le_of_ble_eq_true rfl) k_389 rfl d_EX_openRepeated_1 ?_
  refine lv_istore (lv' := [(4, .int (mz_gI t 5 11)), (0, .ref (ad 5)), (1, .ref (en x1.toNatClampNeg)), (2, .int x2), (3, .int x3)]) hx hb d_EX_openRepeated_4 hl (by decide) rfl (fun ls hl => ?_)
  refine lv_aload_n hx hb d_EX_openRepeated_6 rfl (lv_at hl 1 rfl) ?_
  refine lv_iload_n hx hb d_EX_openRepeated_7 rfl (lv_at hl 3 rfl) ?_
  refine mz_put E w 5 11 (v := x2) (by decide) rfl rfl ii_2 tk_2 nm_2 (by decide) (Nat.le_of_ble_eq_true rfl) k_389 rfl (tk_2 11 (by decide)) rfl rfl rfl d_EX_openRepeated_8 (fun H locs w => ?_)
  obtain ⟨t1, e_t1, hf⟩ := mz_lt hf
  rw [← e_t1] at w
  refine lv_iload_n hx hb d_EX_openRepeated_11 rfl (lv_at hl 4 rfl) ?_
  refine lv_if_ne (tgt := 16) hx hb d_EX_openRepeated_12 (by decide) (fun hc2 => ?_) (fun hc2 => ?_)
  · have hf := mz_f hc2 hf
    refine lv_aload_n hx hb d_EX_openRepeated_16 rfl (lv_at hl 1 rfl) ?_
    refine mz_get E w 5 5 (v := .ref (ad 30)) (by decide) rfl rfl ii_2 (by decide) (Nat.le_of_ble_eq_true rfl) k_377 rfl d_EX_openRepeated_17 ?_
    obtain ⟨q3, hq4, hf⟩ := mz_bd hf
    refine mz_callV E w (k := 30) (As := []) (rest := []) (c_SK_spare hSK l n t1 q3 hq4) (by decide) rfl rfl k_753 k_13 k_767 k_751 k_752 hm_SK_spare ⟨⟨rfl, rfl⟩, Nat.le_of_ble_eq_true rfl, Nat.le_of_ble_eq_true rfl⟩ rfl hl.1 rfl (Nat.le_of_ble_eq_true rfl) d_EX_openRepeated_20 ⟨Nat.zero_le _, Nat.zero_le _⟩ (st1 := [.ref (ad q3.1)]) rfl (fun H locs w => ?_)
    obtain ⟨hr5, hf⟩ := mz_gd hf
    refine lv_aload_n hx hb d_EX_openRepeated_23 rfl (lv_at hl 2 rfl) ?_
    refine lv_iload_n hx hb d_EX_openRepeated_24 rfl (lv_at hl 3 rfl) ?_
    refine lv_iconst (v := (1 : Int32)) hx hb d_EX_openRepeated_25 (by decide) ?_
    refine lv_iadd hx hb d_EX_openRepeated_26 ?_
    refine lv_iload hx hb d_EX_openRepeated_27 (lv_at hl 0 rfl) ?_
    refine lv_iload_n hx hb d_EX_openRepeated_29 rfl (lv_at hl 4 rfl) ?_
    refine lv_aload_n hx hb d_EX_openRepeated_30 rfl (lv_at hl 1 rfl) ?_
    refine mz_get E w 5 2 (v := .ref (ad 7)) (by decide) rfl rfl ii_2 (by decide) (Nat.le_of_ble_eq_true rfl) k_372 rfl d_EX_openRepeated_31 ?_
    refine mz_get E w 7 5 (v := .int (mz_gI q3.2 7 5)) (by decide) rfl rfl ii_4 (by decide) (Nat.le_of_ble_eq_true rfl) k_79 rfl d_EX_openRepeated_34 ?_
    obtain ⟨q6, hq7, hf⟩ := mz_bd hf
    refine mz_callV E w (k := q3.1) (As := [.ref (en x1.toNatClampNeg), .int (x2 + (1 : Int32)), .int (mz_gI t 5 11), .int x3, .int (mz_gI q3.2 7 5)]) (rest := []) (c_FR_begin hSK l n q3.1 x1 (x2 + (1 : Int32)) (mz_gI t 5 11) x3 (mz_gI q3.2 7 5) q3.2 q6 hq7) (mz_fN hr5) (mz_tC_f hr5) rfl k_475 k_14 k_777 k_473 k_474 hm_FR_begin ⟨⟨rfl, rfl⟩, Nat.le_of_ble_eq_true rfl, Nat.le_of_ble_eq_true rfl⟩ rfl hl.1 rfl (Nat.le_of_ble_eq_true rfl) d_EX_openRepeated_37 ⟨Nat.zero_le _, Nat.zero_le _⟩ (st1 := []) rfl (fun H locs w => ?_)
    refine lv_aload_n hx hb d_EX_openRepeated_40 rfl (lv_at hl 1 rfl) ?_
    refine mz_get E w 5 5 (v := .ref (ad 30)) (by decide) rfl rfl ii_2 (by decide) (Nat.le_of_ble_eq_true rfl) k_377 rfl d_EX_openRepeated_41 ?_
    refine lv_iload_n hx hb d_EX_openRepeated_44 rfl (lv_at hl 3 rfl) ?_
    obtain ⟨q8, hq9, hf⟩ := mz_bd hf
    refine mz_callV E w (k := 30) (As := [.int x2]) (rest := []) (c_SK_open hSK l n x2 q6 q8 hq9) (by decide) rfl rfl k_781 k_13 k_778 k_779 k_780 hm_SK_open ⟨⟨rfl, rfl⟩, Nat.le_of_ble_eq_true rfl, Nat.le_of_ble_eq_true rfl⟩ rfl hl.1 rfl (Nat.le_of_ble_eq_true rfl) d_EX_openRepeated_45 ⟨Nat.zero_le _, Nat.zero_le _⟩ (st1 := [.int q8.1]) rfl (fun H locs w => ?_)
    refine lv_if_ne (tgt := 58) hx hb d_EX_openRepeated_48 (by decide) (fun hc10 => ?_) (fun hc10 => ?_)
    · have hf := mz_f hc10 hf
      obtain rfl := Option.some.inj hf
      exact mz_vret E w rfl d_EX_openRepeated_58
    · have hf := mz_t hc10 hf
      refine lv_aload_n hx hb d_EX_openRepeated_51 rfl (lv_at hl 1 rfl) ?_
      refine lv_bipush (v := (6 : Int32)) hx hb d_EX_openRepeated_52 (by decide) ?_
      obtain ⟨q11, hq12, hf⟩ := mz_bd hf
      refine mz_callV E w (k := 5) (As := [.int (6 : Int32)]) (rest := []) (c_EX_fail hSK l n (6 : Int32) q8.2 q11 hq12) (by decide) rfl rfl k_537 k_3 k_534 k_536 ks_7 hm_EX_fail ⟨⟨rfl, rfl⟩, Nat.le_of_ble_eq_true rfl, Nat.le_of_ble_eq_true rfl⟩ rfl hl.1 rfl (Nat.le_of_ble_eq_true rfl) d_EX_openRepeated_54 ⟨Nat.zero_le _, Nat.zero_le _⟩ (st1 := [.int q11.1]) rfl (fun H locs w => ?_)
      refine lv_pop hx hb d_EX_openRepeated_57 rfl ?_
      obtain rfl := Option.some.inj hf
      exact mz_vret E w rfl d_EX_openRepeated_58
  · have hf := mz_t hc2 hf
    obtain rfl := Option.some.inj hf
    exact mz_vret E w rfl d_EX_openRepeated_15
