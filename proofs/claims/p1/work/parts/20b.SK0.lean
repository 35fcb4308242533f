/-! MacroHouse$Stack.startAnew()V -/
abbrev r_SK_startAnew : Room := { frames := 1, cells := 0, slots := 0, locals := 25 }
def f_SK_startAnew (n : Nat) (t : mz_St) : Option mz_St := mz_let (mz_pI t 30 4 (0 : Int32)) fun t1 => mz_let (mz_pI t1 30 5 (0 : Int32)) fun t2 => (f_FR_begin n 51 (0 : Int32) (0 : Int32) (mz_gI t2 1 4) (1 : Int32) (0 : Int32) t2).bind fun q3 => some q3
set_option maxRecDepth 100000 in
set_option maxHeartbeats 4000000 in
theorem c_SK_startAnew {dC : Nat → ClassId} {dI : Nat → Nat → Nat} {ad en adK adV : Nat → Nat} {tA tS : Nat} {oF : Option Nat} {ca : Nat → ClassId} (hSK : mz_SK (mz_SC ad en adK adV tA tS oF) ad 80) (l : Launch) (n : Nat) (t : mz_St) (res : mz_St) (hf : f_SK_startAnew n t = some res) : mz_C (mz_SC ad en adK adV tA tS oF) mz_tC 80 mz_cl dC dI ad en ca l y_SK_startAnew prog_13_method_2_code 1 none (r_SK_startAnew) [.ref (ad 30)] t none res := by
  unfold f_SK_startAnew at hf
  refine mz_met hSK (by decide) (Nat.le_of_ble_eq_true rfl) ?_
  intro p e s m args below meth c ls E w hl
  obtain ⟨hx, hb, hml, hown, hcx, -, -, hSX, -, -, -⟩ := id E
  have hl : lv_has ls 1 [(0, .ref (ad 30))] := hl
  refine lv_aload_n hx hb d_SK_startAnew_0 rfl (lv_at hl 0 rfl) ?_
  refine lv_iconst (v := (0 : Int32)) hx hb d_SK_startAnew_1 (by decide) ?_
  refine mz_put E w 30 4 (v := (0 : Int32)) (by decide) rfl rfl ii_8 tk_8 nm_8 (by decide) (Nat.le_of_ble_eq_true rfl) k_335 rfl (tk_8 4 (by decide)) rfl rfl rfl d_SK_startAnew_2 (fun H locs w => ?_)
  obtain ⟨t1, e_t1, hf⟩ := mz_lt hf
  rw [← e_t1] at w
  refine lv_aload_n hx hb d_SK_startAnew_5 rfl (lv_at hl 0 rfl) ?_
  refine lv_iconst (v := (0 : Int32)) hx hb d_SK_startAnew_6 (by decide) ?_
  refine mz_put E w 30 5 (v := (0 : Int32)) (by decide) rfl rfl ii_8 tk_8 nm_8 (by decide) (Nat.le_of_ble_eq_true rfl) k_337 rfl (tk_8 5 (by decide)) rfl rfl rfl d_SK_startAnew_7 (fun H locs w => ?_)
  obtain ⟨t2, e_t2, hf⟩ := mz_lt hf
  rw [← e_t2] at w
  refine lv_aload_n hx hb d_SK_startAnew_10 rfl (lv_at hl 0 rfl) ?_
  refine mz_get E w 30 2 (v := .ref (ad 51)) (by decide) rfl rfl ii_8 (by decide) (Nat.le_of_ble_eq_true rfl) k_333 rfl d_SK_startAnew_11 ?_
  refine mz_gse E w (0 : Int32) (by decide) rfl k_471 d_SK_startAnew_14 ?_
  refine lv_iconst (v := (0 : Int32)) hx hb d_SK_startAnew_17 (by decide) ?_
  refine lv_aload_n hx hb d_SK_startAnew_18 rfl (lv_at hl 0 rfl) ?_
  refine mz_get E w 30 0 (v := .ref (ad 1)) (by decide) rfl rfl ii_8 (by decide) (Nat.le_of_ble_eq_true rfl) k_331 rfl d_SK_startAnew_19 ?_
  refine mz_get E w 1 4 (v := .int (mz_gI t2 1 4)) (by decide) rfl rfl ii_1 (by decide) (Nat.le_of_ble_eq_true rfl) k_46 rfl d_SK_startAnew_22 ?_
  refine lv_iconst (v := (1 : Int32)) hx hb d_SK_startAnew_25 (by decide) ?_
  refine lv_iconst (v := (0 : Int32)) hx hb d_SK_startAnew_26 (by decide) ?_
  obtain ⟨q3, hq4, hf⟩ := mz_bd hf
  refine mz_callV E w (k := 51) (As := [.ref (en (0 : Int32).toNatClampNeg), .int (0 : Int32), .int (mz_gI t2 1 4), .int (1 : Int32), .int (0 : Int32)]) (rest := []) (c_FR_begin hSK l n 51 (0 : Int32) (0 : Int32) (mz_gI t2 1 4) (1 : Int32) (0 : Int32) t2 q3 hq4) (by decide) (mz_tC_f (by decide)) rfl k_475 k_14 k_472 k_473 k_474 hm_FR_begin ⟨⟨rfl, rfl⟩, Nat.le_of_ble_eq_true rfl, Nat.le_of_ble_eq_true rfl⟩ rfl hl.1 rfl (Nat.le_of_ble_eq_true rfl) d_SK_startAnew_27 ⟨Nat.zero_le _, Nat.zero_le _⟩ (st1 := []) rfl (fun H locs w => ?_)
  obtain rfl := Option.some.inj hf
  exact mz_vret E w rfl d_SK_startAnew_30

/-! MacroHouse$Stack.frameAt(I)LMacroHouse$Frame; -/
abbrev r_SK_frameAt : Room := { frames := 0, cells := 0, slots := 0, locals := 0 }
def f_SK_frameAt (n : Nat) (x1 : Int32) (t : mz_St) : Option (Nat × mz_St) := if x1 < (1 : Int32) then (some (51, t)) else (if (13 : Int32) < x1 then (some (51, t)) else (if ¬ ((x1 - (1 : Int32)) < 0 ∨ 13 ≤ (x1 - (1 : Int32)).toNatClampNeg) then (if mz_fr (38 + (x1 - (1 : Int32)).toNatClampNeg) then (some ((38 + (x1 - (1 : Int32)).toNatClampNeg), t)) else none) else none))
set_option maxRecDepth 100000 in
set_option maxHeartbeats 4000000 in
theorem c_SK_frameAt {SX : State → Heap → Prop} {dC : Nat → ClassId} {dI : Nat → Nat → Nat} {ad en : Nat → Nat} {ca : Nat → ClassId} (hSK : mz_SK SX ad 80) (l : Launch) (n : Nat) (x1 : Int32) (t : mz_St) (res : (Nat × mz_St)) (hf : f_SK_frameAt n x1 t = some res) : mz_C SX mz_tC 80 mz_cl dC dI ad en ca l y_SK_frameAt prog_13_method_3_code 2 (some (.object "MacroHouse$Frame")) (r_SK_frameAt) [.ref (ad 30), .int x1] t (some (.ref (ad res.1))) res.2 := by
  unfold f_SK_frameAt at hf
  refine mz_met hSK (by decide) (Nat.le_of_ble_eq_true rfl) ?_
  intro p e s m args below meth c ls E w hl
  obtain ⟨hx, hb, hml, hown, hcx, -, -, hSX, -, -, -⟩ := id E
  have hl : lv_has ls 2 [(0, .ref (ad 30)), (1, .int x1)] := hl
  refine lv_iload_n hx hb d_SK_frameAt_0 rfl (lv_at hl 1 rfl) ?_
  refine lv_iconst (v := (1 : Int32)) hx hb d_SK_frameAt_1 (by decide) ?_
  refine lv_icmp_lt (tgt := 25) hx hb d_SK_frameAt_2 (by decide) (fun hc1 => ?_) (fun hc1 => ?_)
  · have hf := mz_t hc1 hf
    refine lv_aload_n hx hb d_SK_frameAt_25 rfl (lv_at hl 0 rfl) ?_
    refine mz_get E w 30 2 (v := .ref (ad 51)) (by decide) rfl rfl ii_8 (by decide) (Nat.le_of_ble_eq_true rfl) k_333 rfl d_SK_frameAt_26 ?_
    obtain rfl := Option.some.inj hf
    exact mz_aret E w ⟨_, rfl⟩ rfl d_SK_frameAt_29
  · have hf := mz_f hc1 hf
    refine lv_iload_n hx hb d_SK_frameAt_5 rfl (lv_at hl 1 rfl) ?_
    refine lv_aload_n hx hb d_SK_frameAt_6 rfl (lv_at hl 0 rfl) ?_
    refine mz_get E w 30 3 (v := .ref (ad 31)) (by decide) rfl rfl ii_8 (by decide) (Nat.le_of_ble_eq_true rfl) k_334 rfl d_SK_frameAt_7 ?_
    refine mz_alen E w 31 (v := (13 : Int32)) (by decide) rfl (by decide) rfl d_SK_frameAt_10 ?_
    refine lv_icmp_gt (tgt := 25) hx hb d_SK_frameAt_11 (by decide) (fun hc2 => ?_) (fun hc2 => ?_)
    · have hf := mz_t hc2 hf
      refine lv_aload_n hx hb d_SK_frameAt_25 rfl (lv_at hl 0 rfl) ?_
      refine mz_get E w 30 2 (v := .ref (ad 51)) (by decide) rfl rfl ii_8 (by decide) (Nat.le_of_ble_eq_true rfl) k_333 rfl d_SK_frameAt_26 ?_
      obtain rfl := Option.some.inj hf
      exact mz_aret E w ⟨_, rfl⟩ rfl d_SK_frameAt_29
    · have hf := mz_f hc2 hf
      refine lv_aload_n hx hb d_SK_frameAt_14 rfl (lv_at hl 0 rfl) ?_
      refine mz_get E w 30 3 (v := .ref (ad 31)) (by decide) rfl rfl ii_8 (by decide) (Nat.le_of_ble_eq_true rfl) k_334 rfl d_SK_frameAt_15 ?_
      refine lv_iload_n hx hb d_SK_frameAt_18 rfl (lv_at hl 1 rfl) ?_
      refine lv_iconst (v := (1 : Int32)) hx hb d_SK_frameAt_19 (by decide) ?_
      refine lv_isub hx hb d_SK_frameAt_20 ?_
      obtain ⟨hi3, hf⟩ := mz_gd hf
      refine mz_aald E w 31 (by decide) rfl hi3 d_SK_frameAt_21 ?_
      obtain ⟨hr4, hf⟩ := mz_gd hf
      refine lv_goto (tgt := 29) hx hb d_SK_frameAt_22 (by decide) ?_
      obtain rfl := Option.some.inj hf
      exact mz_aret E w ⟨_, rfl⟩ rfl d_SK_frameAt_29

/-! MacroHouse$Stack.top()LMacroHouse$Frame; -/
abbrev r_SK_top : Room := { frames := 1, cells := 0, slots := 0, locals := 21 }
def f_SK_top (n : Nat) (t : mz_St) : Option (Nat × mz_St) := (f_SK_frameAt n (mz_gI t 30 4) t).bind fun q1 => if mz_fr q1.1 then (some (q1.1, q1.2)) else none
set_option maxRecDepth 100000 in
set_option maxHeartbeats 4000000 in
theorem c_SK_top {SX : State → Heap → Prop} {dC : Nat → ClassId} {dI : Nat → Nat → Nat} {ad en : Nat → Nat} {ca : Nat → ClassId} (hSK : mz_SK SX ad 80) (l : Launch) (n : Nat) (t : mz_St) (res : (Nat × mz_St)) (hf : f_SK_top n t = some res) : mz_C SX mz_tC 80 mz_cl dC dI ad en ca l y_SK_top prog_13_method_4_code 1 (some (.object "MacroHouse$Frame")) (r_SK_top) [.ref (ad 30)] t (some (.ref (ad res.1))) res.2 := by
  unfold f_SK_top at hf
  refine mz_met hSK (by decide) (Nat.le_of_ble_eq_true rfl) ?_
  intro p e s m args below meth c ls E w hl
  obtain ⟨hx, hb, hml, hown, hcx, -, -, hSX, -, -, -⟩ := id E
  have hl : lv_has ls 1 [(0, .ref (ad 30))] := hl
  refine lv_aload_n hx hb d_SK_top_0 rfl (lv_at hl 0 rfl) ?_
  refine lv_aload_n hx hb d_SK_top_1 rfl (lv_at hl 0 rfl) ?_
  refine mz_get E w 30 4 (v := .int (mz_gI t 30 4)) (by decide) rfl rfl ii_8 (by decide) (Nat.le_of_ble_eq_true rfl) k_335 rfl d_SK_top_2 ?_
  obtain ⟨q1, hq2, hf⟩ := mz_bd hf
  refine mz_callV E w (k := 30) (As := [.int (mz_gI t 30 4)]) (rest := []) (c_SK_frameAt hSK l n (mz_gI t 30 4) t q1 hq2) (by decide) rfl rfl k_488 k_13 k_485 k_486 k_487 hm_SK_frameAt ⟨⟨rfl, rfl⟩, Nat.le_of_ble_eq_true rfl, Nat.le_of_ble_eq_true rfl⟩ rfl hl.1 rfl (Nat.le_of_ble_eq_true rfl) d_SK_top_5 ⟨Nat.zero_le _, Nat.zero_le _⟩ (st1 := [.ref (ad q1.1)]) rfl (fun H locs w => ?_)
  obtain ⟨hr3, hf⟩ := mz_gd hf
  obtain rfl := Option.some.inj hf
  exact mz_aret E w ⟨_, rfl⟩ rfl d_SK_top_8

/-! MacroHouse$Stack.setTrimmed(LMacroHouse$Frame;III)V -/
abbrev r_SK_setTrimmed : Room := { frames := 1, cells := 0, slots := 0, locals := 23 }
def f_SK_setTrimmed (n : Nat) (x1 : Nat) (x2 : Int32) (x3 : Int32) (x4 : Int32) (t : mz_St) : Option mz_St := if mz_fr x1 then ((f_SI_behindBlanks n x3 x4 t).bind fun q1 => (f_SI_aheadOfBlanks n q1.1 x4 q1.2).bind fun q3 => (f_FR_setArgument n x1 x2 q1.1 q3.1 q3.2).bind fun q5 => some q5) else none
set_option maxRecDepth 100000 in
set_option maxHeartbeats 4000000 in
theorem c_SK_setTrimmed {SX : State → Heap → Prop} {dC : Nat → ClassId} {dI : Nat → Nat → Nat} {ad en : Nat → Nat} {ca : Nat → ClassId} (hSK : mz_SK SX ad 80) (l : Launch) (n : Nat) (x1 : Nat) (x2 : Int32) (x3 : Int32) (x4 : Int32) (t : mz_St) (res : mz_St) (hf : f_SK_setTrimmed n x1 x2 x3 x4 t = some res) : mz_C SX mz_tC 80 mz_cl dC dI ad en ca l y_SK_setTrimmed prog_13_method_9_code 6 none (r_SK_setTrimmed) [.ref (ad 30), .ref (ad x1), .int x2, .int x3, .int x4] t none res := by
  unfold f_SK_setTrimmed at hf
  obtain ⟨h_x1, hf⟩ := mz_gd hf
  refine mz_met hSK (by decide) (Nat.le_of_ble_eq_true rfl) ?_
  intro p e s m args below meth c ls E w hl
  obtain ⟨hx, hb, hml, hown, hcx, -, -, hSX, -, -, -⟩ := id E
  have hl : lv_has ls 6 [(0, .ref (ad 30)), (1, .ref (ad x1)), (2, .int x2), (3, .int x3), (4, .int x4)] := hl
  refine lv_aload_n hx hb d_SK_setTrimmed_0 rfl (lv_at hl 0 rfl) ?_
  refine mz_get E w 30 0 (v := .ref (ad 1)) (by decide) rfl rfl ii_8 (by decide) (Nat.le_of_ble_eq_true rfl) k_331 rfl d_SK_setTrimmed_1 ?_
  refine lv_iload_n hx hb d_SK_setTrimmed_4 rfl (lv_at hl 3 rfl) ?_
  refine lv_iload hx hb d_SK_setTrimmed_5 (lv_at hl 4 rfl) ?_
  obtain ⟨q1, hq2, hf⟩ := mz_bd hf
  refine mz_callV E w (k := 1) (As := [.int x3, .int x4]) (rest := []) (c_SI_behindBlanks hSK l n x3 x4 t q1 hq2) (by decide) rfl rfl k_462 k_2 k_521 k_460 k_461 hm_SI_behindBlanks ⟨⟨rfl, rfl⟩, Nat.le_of_ble_eq_true rfl, Nat.le_of_ble_eq_true rfl⟩ rfl hl.1 rfl (Nat.le_of_ble_eq_true rfl) d_SK_setTrimmed_7 ⟨Nat.zero_le _, Nat.zero_le _⟩ (st1 := [.int q1.1]) rfl (fun H locs w => ?_)
  refine lv_istore (lv' := [(5, .int q1.1), (0, .ref (ad 30)), (1, .ref (ad x1)), (2, .int x2), (3, .int x3), (4, .int x4)]) hx hb d_SK_setTrimmed_10 hl (by decide) rfl (fun ls hl => ?_)
  refine lv_aload_n hx hb d_SK_setTrimmed_12 rfl (lv_at hl 2 rfl) ?_
  refine lv_iload_n hx hb d_SK_setTrimmed_13 rfl (lv_at hl 3 rfl) ?_
  refine lv_iload hx hb d_SK_setTrimmed_14 (lv_at hl 0 rfl) ?_
  refine lv_aload_n hx hb d_SK_setTrimmed_16 rfl (lv_at hl 1 rfl) ?_
  refine mz_get E w 30 0 (v := .ref (ad 1)) (by decide) rfl rfl ii_8 (by decide) (Nat.le_of_ble_eq_true rfl) k_331 rfl d_SK_setTrimmed_17 ?_
  refine lv_iload hx hb d_SK_setTrimmed_20 (lv_at hl 0 rfl) ?_
  refine lv_iload hx hb d_SK_setTrimmed_22 (lv_at hl 5 rfl) ?_
  obtain ⟨q3, hq4, hf⟩ := mz_bd hf
  refine mz_callV E w (k := 1) (As := [.int q1.1, .int x4]) (rest := [.int q1.1, .int x2, .ref (ad x1)]) (c_SI_aheadOfBlanks hSK l n q1.1 x4 q1.2 q3 hq4) (by decide) rfl rfl k_466 k_2 k_522 k_464 k_465 hm_SI_aheadOfBlanks ⟨⟨rfl, rfl⟩, Nat.le_of_ble_eq_true rfl, Nat.le_of_ble_eq_true rfl⟩ rfl hl.1 rfl (Nat.le_of_ble_eq_true rfl) d_SK_setTrimmed_24 ⟨Nat.zero_le _, Nat.zero_le _⟩ (st1 := [.int q3.1, .int q1.1, .int x2, .ref (ad x1)]) rfl (fun H locs w => ?_)
  obtain ⟨q5, hq6, hf⟩ := mz_bd hf
  refine mz_callV E w (k := x1) (As := [.int x2, .int q1.1, .int q3.1]) (rest := []) (c_FR_setArgument hSK l n x1 x2 q1.1 q3.1 q3.2 q5 hq6) (mz_fN h_x1) (mz_tC_f h_x1) rfl k_526 k_14 k_523 k_524 k_525 hm_FR_setArgument ⟨⟨rfl, rfl⟩, Nat.le_of_ble_eq_true rfl, Nat.le_of_ble_eq_true rfl⟩ rfl hl.1 rfl (Nat.le_of_ble_eq_true rfl) d_SK_setTrimmed_27 ⟨Nat.zero_le _, Nat.zero_le _⟩ (st1 := []) rfl (fun H locs w => ?_)
  obtain rfl := Option.some.inj hf
  exact mz_vret E w rfl d_SK_setTrimmed_30

/-! MacroHouse$Stack.nextText(LMacroHouse$Frame;)V -/
abbrev r_SK_nextText : Room := { frames := 2, cells := 0, slots := 0, locals := 48 }
def f_SK_nextText_26 (n : Nat) (x1 : Nat) (x2 : Int32) (t : mz_St) : Option mz_St := if mz_fr x1 then ((f_SK_setTrimmed n x1 (0 : Int32) (mz_gI t x1 11) x2 t).bind fun q4 => mz_let (mz_pI q4 x1 11 (if (mz_gI q4 x1 12) < (x2 + (1 : Int32)) then (mz_gI q4 x1 12) else (x2 + (1 : Int32)))) fun t6 => some t6) else none
def f_SK_nextText (n : Nat) (x1 : Nat) (t : mz_St) : Option mz_St := if mz_fr x1 then ((f_SI_argumentEnd n (mz_gI t x1 11) (mz_gI t x1 12) t).bind fun q1 => if q1.1 = (-1 : Int32) then (f_SK_nextText_26 n x1 (mz_gI q1.2 x1 12) q1.2) else (f_SK_nextText_26 n x1 q1.1 q1.2)) else none
set_option maxRecDepth 100000 in
set_option maxHeartbeats 4000000 in
theorem b_SK_nextText_26 {SX : State → Heap → Prop} {dC : Nat → ClassId} {dI : Nat → Nat → Nat} {ad en : Nat → Nat} {ca : Nat → ClassId} {p : Program} {l : Launch} {e : Env} {s : State} {m : MethodId} {args : Array Value} {below : List Frame} {meth : Method} {c : Code} {res : mz_St} (E : mz_En SX 80 mz_cl dC dI ad ca p s m meth c prog_13_method_8_code 3 "MacroHouse$Stack" none) (n : Nat) : ∀ (x1 : Nat) (x2 : Int32) (t : mz_St), f_SK_nextText_26 n x1 x2 t = some res → ∀ (H : Heap) (locs : List Loc) (ls : Array Slot), mz_Wd mz_tC 80 mz_cl dC dI ad en ca s t H locs → lv_has ls 3 [(0, .ref (ad 30)), (1, .ref (ad x1)), (2, .int x2)] → W p l e (r_SK_nextText) s m args below meth c H locs 0 0 (MQ below (mz_Q SX mz_tC 80 mz_cl dC dI ad en ca none res) args s 0 0 (mz_A ad 80)) (F0 m 26 ls []) := by
  obtain ⟨hx, hb, hml, hown, hcx, -, -, hSX, -, -, hSK⟩ := id E
  intro x1 x2 t hf H locs ls w hl
  unfold f_SK_nextText_26 at hf
  obtain ⟨h_x1, hf⟩ := mz_gd hf
  refine lv_aload_n hx hb d_SK_nextText_26 rfl (lv_at hl 0 rfl) ?_
  refine lv_aload_n hx hb d_SK_nextText_27 rfl (lv_at hl 1 rfl) ?_
  refine lv_iconst (v := (0 : Int32)) hx hb d_SK_nextText_28 (by decide) ?_
  refine lv_aload_n hx hb d_SK_nextText_29 rfl (lv_at hl 1 rfl) ?_
  refine mz_get E w x1 11 (v := .int (mz_gI t x1 11)) (mz_fN h_x1) (mz_tC_f h_x1) rfl ii_10 (by decide) (Nat.le_of_ble_eq_true rfl) k_295 rfl d_SK_nextText_30 ?_
  refine lv_iload_n hx hb d_SK_nextText_33 rfl (lv_at hl 2 rfl) ?_
  obtain ⟨q4, hq5, hf⟩ := mz_bd hf
  refine mz_callV E w (k := 30) (As := [.ref (ad x1), .int (0 : Int32), .int (mz_gI t x1 11), .int x2]) (rest := []) (c_SK_setTrimmed hSK l n x1 (0 : Int32) (mz_gI t x1 11) x2 t q4 hq5) (by decide) rfl rfl k_520 k_13 k_517 k_519 ks_5 hm_SK_setTrimmed ⟨⟨rfl, rfl⟩, Nat.le_of_ble_eq_true rfl, Nat.le_of_ble_eq_true rfl⟩ rfl hl.1 rfl (Nat.le_of_ble_eq_true rfl) d_SK_nextText_34 ⟨Nat.zero_le _, Nat.zero_le _⟩ (st1 := []) rfl (fun H locs w => ?_)
  refine lv_aload_n hx hb d_SK_nextText_37 rfl (lv_at hl 1 rfl) ?_
  refine lv_iload_n hx hb d_SK_nextText_38 rfl (lv_at hl 2 rfl) ?_
  refine lv_iconst (v := (1 : Int32)) hx hb d_SK_nextText_39 (by decide) ?_
  refine lv_iadd hx hb d_SK_nextText_40 ?_
  refine lv_aload_n hx hb d_SK_nextText_41 rfl (lv_at hl 1 rfl) ?_
  refine mz_get E w x1 12 (v := .int (mz_gI q4 x1 12)) (mz_fN h_x1) (mz_tC_f h_x1) rfl ii_10 (by decide) (Nat.le_of_ble_eq_true rfl) k_296 rfl d_SK_nextText_42 ?_
  refine va_mmin hx hb (hml.trans hl.1.symm) hown (hcx.at args _ k_527) (hcx.at args _ k_528) (hcx.at args _ k_10) (hcx.at args _ k_529) (Nat.le_of_ble_eq_true rfl) (Nat.le_of_ble_eq_true rfl) (Nat.zero_le _) (Nat.zero_le _) d_SK_nextText_45 ?_
  refine mz_put E w x1 11 (v := (if (mz_gI q4 x1 12) < (x2 + (1 : Int32)) then (mz_gI q4 x1 12) else (x2 + (1 : Int32)))) (mz_fN h_x1) (mz_tC_f h_x1) rfl ii_10 tk_10 nm_10 (by decide) (Nat.le_of_ble_eq_true rfl) k_295 rfl (tk_10 11 (by decide)) rfl rfl rfl d_SK_nextText_48 (fun H locs w => ?_)
  obtain ⟨t6, e_t6, hf⟩ := mz_lt hf
  rw [← e_t6] at w
  obtain rfl := Option.some.inj hf
  exact mz_vret E w rfl d_SK_nextText_51
set_option maxRecDepth 100000 in
set_option maxHeartbeats 4000000 in
theorem c_SK_nextText {SX : State → Heap → Prop} {dC : Nat → ClassId} {dI : Nat → Nat → Nat} {ad en : Nat → Nat} {ca : Nat → ClassId} (hSK : mz_SK SX ad 80) (l : Launch) (n : Nat) (x1 : Nat) (t : mz_St) (res : mz_St) (hf : f_SK_nextText n x1 t = some res) : mz_C SX mz_tC 80 mz_cl dC dI ad en ca l y_SK_nextText prog_13_method_8_code 3 none (r_SK_nextText) [.ref (ad 30), .ref (ad x1)] t none res := by
  unfold f_SK_nextText at hf
  obtain ⟨h_x1, hf⟩ := mz_gd hf
  refine mz_met hSK (by decide) (Nat.le_of_ble_eq_true rfl) ?_
  intro p e s m args below meth c ls E w hl
  obtain ⟨hx, hb, hml, hown, hcx, -, -, hSX, -, -, -⟩ := id E
  have hl : lv_has ls 3 [(0, .ref (ad 30)), (1, .ref (ad x1))] := hl
  refine lv_aload_n hx hb d_SK_nextText_0 rfl (lv_at hl 0 rfl) ?_
  refine mz_get E w 30 0 (v := .ref (ad 1)) (by decide) rfl rfl ii_8 (by decide) (Nat.le_of_ble_eq_true rfl) k_331 rfl d_SK_nextText_1 ?_
  refine lv_aload_n hx hb d_SK_nextText_4 rfl (lv_at hl 1 rfl) ?_
  refine mz_get E w x1 11 (v := .int (mz_gI t x1 11)) (mz_fN h_x1) (mz_tC_f h_x1) rfl ii_10 (by decide) (Nat.le_of_ble_eq_true rfl) k_295 rfl d_SK_nextText_5 ?_
  refine lv_aload_n hx hb d_SK_nextText_8 rfl (lv_at hl 1 rfl) ?_
  refine mz_get E w x1 12 (v := .int (mz_gI t x1 12)) (mz_fN h_x1) (mz_tC_f h_x1) rfl ii_10 (by decide) (Nat.le_of_ble_eq_true rfl) k_296 rfl d_SK_nextText_9 ?_
  obtain ⟨q1, hq2, hf⟩ := mz_bd hf
  refine mz_callV E w (k := 1) (As := [.int (mz_gI t x1 11), .int (mz_gI t x1 12)]) (rest := []) (c_SI_argumentEnd hSK l n (mz_gI t x1 11) (mz_gI t x1 12) t q1 hq2) (by decide) rfl rfl k_516 k_2 k_513 k_514 k_515 hm_SI_argumentEnd ⟨⟨rfl, rfl⟩, Nat.le_of_ble_eq_true rfl, Nat.le_of_ble_eq_true rfl⟩ rfl hl.1 rfl (Nat.le_of_ble_eq_true rfl) d_SK_nextText_12 ⟨Nat.zero_le _, Nat.zero_le _⟩ (st1 := [.int q1.1]) rfl (fun H locs w => ?_)
  refine lv_istore_n (lv' := [(2, .int q1.1), (0, .ref (ad 30)), (1, .ref (ad x1))]) hx hb d_SK_nextText_15 rfl hl (by decide) rfl (fun ls hl => ?_)
  refine lv_iload_n hx hb d_SK_nextText_16 rfl (lv_at hl 0 rfl) ?_
  refine lv_iconst (v := (-1 : Int32)) hx hb d_SK_nextText_17 (by decide) ?_
  refine lv_icmp_ne (tgt := 26) hx hb d_SK_nextText_18 (by decide) (fun hc3 => ?_) (fun hc3 => ?_)
  · have hf := mz_f hc3 hf
    exact b_SK_nextText_26 E n x1 q1.1 q1.2 hf _ _ _ w (lv_sub hl [1, 2, 0] rfl)
  · have hf := mz_t hc3 hf
    refine lv_aload_n hx hb d_SK_nextText_21 rfl (lv_at hl 2 rfl) ?_
    refine mz_get E w x1 12 (v := .int (mz_gI q1.2 x1 12)) (mz_fN h_x1) (mz_tC_f h_x1) rfl ii_10 (by decide) (Nat.le_of_ble_eq_true rfl) k_296 rfl d_SK_nextText_22 ?_
    refine lv_istore_n (lv' := [(2, .int (mz_gI q1.2 x1 12)), (0, .ref (ad 30)), (1, .ref (ad x1))]) hx hb d_SK_nextText_25 rfl hl (by decide) rfl (fun ls hl => ?_)
    exact b_SK_nextText_26 E n x1 (mz_gI q1.2 x1 12) q1.2 hf _ _ _ w (lv_sub hl [1, 2, 0] rfl)

/-! MacroHouse$Stack.turn()V -/
abbrev r_SK_turn : Room := { frames := 3, cells := 0, slots := 0, locals := 70 }
def f_SK_turn_37 (n : Nat) (t : mz_St) : Option mz_St := mz_let (mz_pI t 30 4 (if (0 : Int32) < ((mz_gI t 30 4) - (1 : Int32)) then ((mz_gI t 30 4) - (1 : Int32)) else (0 : Int32))) fun t6 => some t6
def f_SK_turn (n : Nat) (t : mz_St) : Option mz_St := (f_SK_top n t).bind fun q1 => if mz_fr q1.1 then (mz_let (mz_pI q1.2 q1.1 5 ((mz_gI q1.2 q1.1 5) + (1 : Int32))) fun t4 => if (mz_gI t4 q1.1 4) ≤ (mz_gI t4 q1.1 5) then (f_SK_turn_37 n  t4) else (if (mz_gI t4 q1.1 1) < (mz_gI t4 q1.1 2) then (mz_let (mz_pI t4 q1.1 3 (mz_gI t4 q1.1 1)) fun t8 => if (mz_gI t8 q1.1 0).toNatClampNeg < 16 ∧ (12 : Int32).toNatClampNeg < 16 then (if (mz_gI t8 q1.1 0).toNatClampNeg = (12 : Int32).toNatClampNeg then ((f_SK_nextText n q1.1 t8).bind fun q11 => some q11) else (some t8)) else none) else (f_SK_turn_37 n  t4))) else none
set_option maxRecDepth 100000 in
set_option maxHeartbeats 4000000 in
theorem b_SK_turn_37 {dC : Nat → ClassId} {dI : Nat → Nat → Nat} {ad en adK adV : Nat → Nat} {tA tS : Nat} {oF : Option Nat} {ca : Nat → ClassId} {p : Program} {l : Launch} {e : Env} {s : State} {m : MethodId} {args : Array Value} {below : List Frame} {meth : Method} {c : Code} {res : mz_St} (E : mz_En (mz_SC ad en adK adV tA tS oF) 80 mz_cl dC dI ad ca p s m meth c prog_13_method_7_code 2 "MacroHouse$Stack" none) (n : Nat) : ∀ (t : mz_St), f_SK_turn_37 n t = some res → ∀ (H : Heap) (locs : List Loc) (ls : Array Slot), mz_Wd mz_tC 80 mz_cl dC dI ad en ca s t H locs → lv_has ls 2 [(0, .ref (ad 30))] → W p l e (r_SK_turn) s m args below meth c H locs 0 0 (MQ below (mz_Q (mz_SC ad en adK adV tA tS oF) mz_tC 80 mz_cl dC dI ad en ca none res) args s 0 0 (mz_A ad 80)) (F0 m 37 ls []) := by
  obtain ⟨hx, hb, hml, hown, hcx, -, -, hSX, -, -, hSK⟩ := id E
  intro t hf H locs ls w hl
  unfold f_SK_turn_37 at hf
  refine lv_aload_n hx hb d_SK_turn_37 rfl (lv_at hl 0 rfl) ?_
  refine lv_iconst (v := (0 : Int32)) hx hb d_SK_turn_38 (by decide) ?_
  refine lv_aload_n hx hb d_SK_turn_39 rfl (lv_at hl 0 rfl) ?_
  refine mz_get E w 30 4 (v := .int (mz_gI t 30 4)) (by decide) rfl rfl ii_8 (by decide) (Nat.le_of_ble_eq_true rfl) k_335 rfl d_SK_turn_40 ?_
  refine lv_iconst (v := (1 : Int32)) hx hb d_SK_turn_43 (by decide) ?_
  refine lv_isub hx hb d_SK_turn_44 ?_
  refine va_mmax hx hb (hml.trans hl.1.symm) hown (hcx.at args _ k_506) (hcx.at args _ k_139) (hcx.at args _ k_10) (hcx.at args _ k_140) (Nat.le_of_ble_eq_true rfl) (Nat.le_of_ble_eq_true rfl) (Nat.zero_le _) (Nat.zero_le _) d_SK_turn_45 ?_
  refine mz_put E w 30 4 (v := (if (0 : Int32) < ((mz_gI t 30 4) - (1 : Int32)) then ((mz_gI t 30 4) - (1 : Int32)) else (0 : Int32))) (by decide) rfl rfl ii_8 tk_8 nm_8 (by decide) (Nat.le_of_ble_eq_true rfl) k_335 rfl (tk_8 4 (by decide)) rfl rfl rfl d_SK_turn_48 (fun H locs w => ?_)
  obtain ⟨t6, e_t6, hf⟩ := mz_lt hf
  rw [← e_t6] at w
  obtain rfl := Option.some.inj hf
  exact mz_vret E w rfl d_SK_turn_51
set_option maxRecDepth 100000 in
set_option maxHeartbeats 4000000 in
theorem c_SK_turn {dC : Nat → ClassId} {dI : Nat → Nat → Nat} {ad en adK adV : Nat → Nat} {tA tS : Nat} {oF : Option Nat} {ca : Nat → ClassId} (hSK : mz_SK (mz_SC ad en adK adV tA tS oF) ad 80) (l : Launch) (n : Nat) (t : mz_St) (res : mz_St) (hf : f_SK_turn n t = some res) : mz_C (mz_SC ad en adK adV tA tS oF) mz_tC 80 mz_cl dC dI ad en ca l y_SK_turn prog_13_method_7_code 2 none (r_SK_turn) [.ref (ad 30)] t none res := by
  unfold f_SK_turn at hf
  refine mz_met hSK (by decide) (Nat.le_of_ble_eq_true rfl) ?_
  intro p e s m args below meth c ls E w hl
  obtain ⟨hx, hb, hml, hown, hcx, -, -, hSX, -, -, -⟩ := id E
  have hl : lv_has ls 2 [(0, .ref (ad 30))] := hl
  refine lv_aload_n hx hb d_SK_turn_0 rfl (lv_at hl 0 rfl) ?_
  obtain ⟨q1, hq2, hf⟩ := mz_bd hf
  refine mz_callV E w (k := 30) (As := []) (rest := []) (c_SK_top hSK l n t q1 hq2) (by decide) rfl rfl k_484 k_13 k_505 k_482 k_483 hm_SK_top ⟨⟨rfl, rfl⟩, Nat.le_of_ble_eq_true rfl, Nat.le_of_ble_eq_true rfl⟩ rfl hl.1 rfl (Nat.le_of_ble_eq_true rfl) d_SK_turn_1 ⟨Nat.zero_le _, Nat.zero_le _⟩ (st1 := [.ref (ad q1.1)]) rfl (fun H locs w => ?_)
  obtain ⟨hr3, hf⟩ := mz_gd hf
  refine lv_astore_n (lv' := [(1, .ref (ad q1.1)), (0, .ref (ad 30))]) hx hb d_SK_turn_4 rfl hl (by decide) rfl (fun ls hl => ?_)
  refine lv_aload_n hx hb d_SK_turn_5 rfl (lv_at hl 0 rfl) ?_
  refine lv_dup hx hb d_SK_turn_6 rfl ?_
  refine mz_get E w q1.1 5 (v := .int (mz_gI q1.2 q1.1 5)) (mz_fN hr3) (mz_tC_f hr3) rfl ii_10 (by decide) (Nat.le_of_ble_eq_true rfl) k_284 rfl d_SK_turn_7 ?_
  refine lv_iconst (v := (1 : Int32)) hx hb d_SK_turn_10 (by decide) ?_
  refine lv_iadd hx hb d_SK_turn_11 ?_
  refine mz_put E w q1.1 5 (v := ((mz_gI q1.2 q1.1 5) + (1 : Int32))) (mz_fN hr3) (mz_tC_f hr3) rfl ii_10 tk_10 nm_10 (by decide) (Nat.le_of_ble_eq_true rfl) k_284 rfl (tk_10 5 (by decide)) rfl rfl rfl d_SK_turn_12 (fun H locs w => ?_)
  obtain ⟨t4, e_t4, hf⟩ := mz_lt hf
  rw [← e_t4] at w
  refine lv_aload_n hx hb d_SK_turn_15 rfl (lv_at hl 0 rfl) ?_
  refine mz_get E w q1.1 5 (v := .int (mz_gI t4 q1.1 5)) (mz_fN hr3) (mz_tC_f hr3) rfl ii_10 (by decide) (Nat.le_of_ble_eq_true rfl) k_284 rfl d_SK_turn_16 ?_
  refine lv_aload_n hx hb d_SK_turn_19 rfl (lv_at hl 0 rfl) ?_
  refine mz_get E w q1.1 4 (v := .int (mz_gI t4 q1.1 4)) (mz_fN hr3) (mz_tC_f hr3) rfl ii_10 (by decide) (Nat.le_of_ble_eq_true rfl) k_282 rfl d_SK_turn_20 ?_
  refine lv_icmp_ge (tgt := 37) hx hb d_SK_turn_23 (by decide) (fun hc5 => ?_) (fun hc5 => ?_)
  · have hf := mz_t hc5 hf
    exact b_SK_turn_37 E n  t4 hf _ _ _ w (lv_sub hl [1] rfl)
  · have hf := mz_f hc5 hf
    refine lv_aload_n hx hb d_SK_turn_26 rfl (lv_at hl 0 rfl) ?_
    refine mz_get E w q1.1 1 (v := .int (mz_gI t4 q1.1 1)) (mz_fN hr3) (mz_tC_f hr3) rfl ii_10 (by decide) (Nat.le_of_ble_eq_true rfl) k_274 rfl d_SK_turn_27 ?_
    refine lv_aload_n hx hb d_SK_turn_30 rfl (lv_at hl 0 rfl) ?_
    refine mz_get E w q1.1 2 (v := .int (mz_gI t4 q1.1 2)) (mz_fN hr3) (mz_tC_f hr3) rfl ii_10 (by decide) (Nat.le_of_ble_eq_true rfl) k_277 rfl d_SK_turn_31 ?_
    refine lv_icmp_lt (tgt := 52) hx hb d_SK_turn_34 (by decide) (fun hc7 => ?_) (fun hc7 => ?_)
    · have hf := mz_t hc7 hf
      refine lv_aload_n hx hb d_SK_turn_52 rfl (lv_at hl 0 rfl) ?_
      refine lv_aload_n hx hb d_SK_turn_53 rfl (lv_at hl 0 rfl) ?_
      refine mz_get E w q1.1 1 (v := .int (mz_gI t4 q1.1 1)) (mz_fN hr3) (mz_tC_f hr3) rfl ii_10 (by decide) (Nat.le_of_ble_eq_true rfl) k_274 rfl d_SK_turn_54 ?_
      refine mz_put E w q1.1 3 (v := (mz_gI t4 q1.1 1)) (mz_fN hr3) (mz_tC_f hr3) rfl ii_10 tk_10 nm_10 (by decide) (Nat.le_of_ble_eq_true rfl) k_280 rfl (tk_10 3 (by decide)) rfl rfl rfl d_SK_turn_57 (fun H locs w => ?_)
      obtain ⟨t8, e_t8, hf⟩ := mz_lt hf
      rw [← e_t8] at w
      refine lv_aload_n hx hb d_SK_turn_60 rfl (lv_at hl 0 rfl) ?_
      refine mz_get E w q1.1 0 (v := .ref (en (mz_gI t8 q1.1 0).toNatClampNeg)) (mz_fN hr3) (mz_tC_f hr3) rfl ii_10 (by decide) (Nat.le_of_ble_eq_true rfl) k_272 rfl d_SK_turn_61 ?_
      refine mz_gse E w (12 : Int32) (by decide) rfl k_507 d_SK_turn_64 ?_
      obtain ⟨hg10, hf⟩ := mz_gd hf
      refine mz_ane E (tgt := 75) hg10 d_SK_turn_67 (by decide) (fun hc9 => ?_) (fun hc9 => ?_)
      · have hf := mz_f hc9 hf
        obtain rfl := Option.some.inj hf
        exact mz_vret E w rfl d_SK_turn_75
      · have hf := mz_t hc9 hf
        refine lv_aload_n hx hb d_SK_turn_70 rfl (lv_at hl 1 rfl) ?_
        refine lv_aload_n hx hb d_SK_turn_71 rfl (lv_at hl 0 rfl) ?_
        obtain ⟨q11, hq12, hf⟩ := mz_bd hf
        refine mz_callV E w (k := 30) (As := [.ref (ad q1.1)]) (rest := []) (c_SK_nextText hSK l n q1.1 t8 q11 hq12) (by decide) rfl rfl k_512 k_13 k_509 k_511 ks_4 hm_SK_nextText ⟨⟨rfl, rfl⟩, Nat.le_of_ble_eq_true rfl, Nat.le_of_ble_eq_true rfl⟩ rfl hl.1 rfl (Nat.le_of_ble_eq_true rfl) d_SK_turn_72 ⟨Nat.zero_le _, Nat.zero_le _⟩ (st1 := []) rfl (fun H locs w => ?_)
        obtain rfl := Option.some.inj hf
        exact mz_vret E w rfl d_SK_turn_75
    · have hf := mz_f hc7 hf
      exact b_SK_turn_37 E n  t4 hf _ _ _ w (lv_sub hl [1] rfl)

/-! MacroHouse$Stack.macroDepth()I -/
abbrev r_SK_macroDepth : Room := { frames := 1, cells := 0, slots := 0, locals := 21 }
def f_SK_macroDepth_5 (n : Nat) : Nat → Int32 → mz_St → Option (Int32 × mz_St)
  | 0, _, _ => none
  | k + 1, x1, t => if x1 ≤ 0 then (some (x1, t)) else ((f_SK_frameAt n x1 t).bind fun q2 => if mz_fr q2.1 then (if (mz_gI q2.2 q2.1 0).toNatClampNeg < 16 ∧ (9 : Int32).toNatClampNeg < 16 then (if (mz_gI q2.2 q2.1 0).toNatClampNeg = (9 : Int32).toNatClampNeg then (some (x1, q2.2)) else ((f_SK_macroDepth_5 n k) (x1 + (-1 : Int32)) q2.2)) else none) else none)
def f_SK_macroDepth (n : Nat) (t : mz_St) : Option (Int32 × mz_St) := f_SK_macroDepth_5 n n (mz_gI t 30 4) t
set_option maxRecDepth 100000 in
set_option maxHeartbeats 4000000 in
theorem b_SK_macroDepth_5 {dC : Nat → ClassId} {dI : Nat → Nat → Nat} {ad en adK adV : Nat → Nat} {tA tS : Nat} {oF : Option Nat} {ca : Nat → ClassId} {p : Program} {l : Launch} {e : Env} {s : State} {m : MethodId} {args : Array Value} {below : List Frame} {meth : Method} {c : Code} {res : (Int32 × mz_St)} (E : mz_En (mz_SC ad en adK adV tA tS oF) 80 mz_cl dC dI ad ca p s m meth c prog_13_method_12_code 2 "MacroHouse$Stack" (some (.int))) (n : Nat) (k : Nat) : ∀ (x1 : Int32) (t : mz_St), f_SK_macroDepth_5 n k x1 t = some res → ∀ (H : Heap) (locs : List Loc) (ls : Array Slot), mz_Wd mz_tC 80 mz_cl dC dI ad en ca s t H locs → lv_has ls 2 [(0, .ref (ad 30)), (1, .int x1)] → W p l e (r_SK_macroDepth) s m args below meth c H locs 0 0 (MQ below (mz_Q (mz_SC ad en adK adV tA tS oF) mz_tC 80 mz_cl dC dI ad en ca (some (.int res.1)) res.2) args s 0 0 (mz_A ad 80)) (F0 m 5 ls []) := by
  obtain ⟨hx, hb, hml, hown, hcx, -, -, hSX, -, -, hSK⟩ := id E
  induction k with
  | zero => intro x1 t hf; exact absurd hf (by unfold f_SK_macroDepth_5; exact fun h => nomatch h)
  | succ k ih =>
    intro x1 t hf H locs ls w hl
    unfold f_SK_macroDepth_5 at hf
    refine lv_iload_n hx hb d_SK_macroDepth_5 rfl (lv_at hl 1 rfl) ?_
    refine lv_if_le (tgt := 29) hx hb d_SK_macroDepth_6 (by decide) (fun hc1 => ?_) (fun hc1 => ?_)
    · have hf := mz_t hc1 hf
      refine lv_iload_n hx hb d_SK_macroDepth_29 rfl (lv_at hl 1 rfl) ?_
      obtain rfl := Option.some.inj hf
      exact mz_iret E w rfl d_SK_macroDepth_30
    · have hf := mz_f hc1 hf
      refine lv_aload_n hx hb d_SK_macroDepth_9 rfl (lv_at hl 0 rfl) ?_
      refine lv_iload_n hx hb d_SK_macroDepth_10 rfl (lv_at hl 1 rfl) ?_
      obtain ⟨q2, hq3, hf⟩ := mz_bd hf
      refine mz_callV E w (k := 30) (As := [.int x1]) (rest := []) (c_SK_frameAt hSK l n x1 t q2 hq3) (by decide) rfl rfl k_488 k_13 k_485 k_486 k_487 hm_SK_frameAt ⟨⟨rfl, rfl⟩, Nat.le_of_ble_eq_true rfl, Nat.le_of_ble_eq_true rfl⟩ rfl hl.1 rfl (Nat.le_of_ble_eq_true rfl) d_SK_macroDepth_11 ⟨Nat.zero_le _, Nat.zero_le _⟩ (st1 := [.ref (ad q2.1)]) rfl (fun H locs w => ?_)
      obtain ⟨hr4, hf⟩ := mz_gd hf
      refine mz_get E w q2.1 0 (v := .ref (en (mz_gI q2.2 q2.1 0).toNatClampNeg)) (mz_fN hr4) (mz_tC_f hr4) rfl ii_10 (by decide) (Nat.le_of_ble_eq_true rfl) k_272 rfl d_SK_macroDepth_14 ?_
      refine mz_gse E w (9 : Int32) (by decide) rfl k_643 d_SK_macroDepth_17 ?_
      obtain ⟨hg6, hf⟩ := mz_gd hf
      refine mz_aeq E (tgt := 29) hg6 d_SK_macroDepth_20 (by decide) (fun hc5 => ?_) (fun hc5 => ?_)
      · have hf := mz_t hc5 hf
        refine lv_iload_n hx hb d_SK_macroDepth_29 rfl (lv_at hl 1 rfl) ?_
        obtain rfl := Option.some.inj hf
        exact mz_iret E w rfl d_SK_macroDepth_30
      · have hf := mz_f hc5 hf
        refine lv_iinc (v := (x1 + (-1 : Int32))) (lv' := [(1, .int (x1 + (-1 : Int32))), (0, .ref (ad 30))]) hx hb d_SK_macroDepth_23 hl (k := 1) rfl rfl (by decide) rfl (fun ls hl => ?_)
        refine lv_goto (tgt := 5) hx hb d_SK_macroDepth_26 (by decide) ?_
        exact ih (x1 + (-1 : Int32)) q2.2 hf _ _ _ w (lv_sub hl [1, 0] rfl)
set_option maxRecDepth 100000 in
set_option maxHeartbeats 4000000 in
theorem c_SK_macroDepth {dC : Nat → ClassId} {dI : Nat → Nat → Nat} {ad en adK adV : Nat → Nat} {tA tS : Nat} {oF : Option Nat} {ca : Nat → ClassId} (hSK : mz_SK (mz_SC ad en adK adV tA tS oF) ad 80) (l : Launch) (n : Nat) (t : mz_St) (res : (Int32 × mz_St)) (hf : f_SK_macroDepth n t = some res) : mz_C (mz_SC ad en adK adV tA tS oF) mz_tC 80 mz_cl dC dI ad en ca l y_SK_macroDepth prog_13_method_12_code 2 (some (.int)) (r_SK_macroDepth) [.ref (ad 30)] t (some (.int res.1)) res.2 := by
  unfold f_SK_macroDepth at hf
  refine mz_met hSK (by decide) (Nat.le_of_ble_eq_true rfl) ?_
  intro p e s m args below meth c ls E w hl
  obtain ⟨hx, hb, hml, hown, hcx, -, -, hSX, -, -, -⟩ := id E
  have hl : lv_has ls 2 [(0, .ref (ad 30))] := hl
  refine lv_aload_n hx hb d_SK_macroDepth_0 rfl (lv_at hl 0 rfl) ?_
  refine mz_get E w 30 4 (v := .int (mz_gI t 30 4)) (by decide) rfl rfl ii_8 (by decide) (Nat.le_of_ble_eq_true rfl) k_335 rfl d_SK_macroDepth_1 ?_
  refine lv_istore_n (lv' := [(1, .int (mz_gI t 30 4)), (0, .ref (ad 30))]) hx hb d_SK_macroDepth_4 rfl hl (by decide) rfl (fun ls hl => ?_)
  exact b_SK_macroDepth_5 E n n (mz_gI t 30 4) t hf _ _ _ w (lv_sub hl [1, 0] rfl)

/-! MacroHouse$Stack.appendSign(I)V -/
abbrev r_SK_appendSign : Room := { frames := 1, cells := 0, slots := 0, locals := 22 }
def f_SK_appendSign_27 (n : Nat) (t : mz_St) : Option mz_St := mz_let (mz_pI t 30 8 ((mz_gI t 30 8) + (1 : Int32))) fun t2 => some t2
def f_SK_appendSign (n : Nat) (x1 : Int32) (t : mz_St) : Option mz_St := if (300 : Int32) ≤ ((mz_gI t 30 8) - (mz_gI t 30 7)) then (f_SK_appendSign_27 n  t) else ((f_SI_write n (mz_gI t 30 8) x1 t).bind fun q3 => f_SK_appendSign_27 n  q3)
set_option maxRecDepth 100000 in
set_option maxHeartbeats 4000000 in
theorem b_SK_appendSign_27 {SX : State → Heap → Prop} {dC : Nat → ClassId} {dI : Nat → Nat → Nat} {ad en : Nat → Nat} {ca : Nat → ClassId} {p : Program} {l : Launch} {e : Env} {s : State} {m : MethodId} {args : Array Value} {below : List Frame} {meth : Method} {c : Code} {res : mz_St} (E : mz_En SX 80 mz_cl dC dI ad ca p s m meth c prog_13_method_18_code 2 "MacroHouse$Stack" none) (n : Nat) : ∀ (t : mz_St), f_SK_appendSign_27 n t = some res → ∀ (H : Heap) (locs : List Loc) (ls : Array Slot), mz_Wd mz_tC 80 mz_cl dC dI ad en ca s t H locs → lv_has ls 2 [(0, .ref (ad 30))] → W p l e (r_SK_appendSign) s m args below meth c H locs 0 0 (MQ below (mz_Q SX mz_tC 80 mz_cl dC dI ad en ca none res) args s 0 0 (mz_A ad 80)) (F0 m 27 ls []) := by
  obtain ⟨hx, hb, hml, hown, hcx, -, -, hSX, -, -, hSK⟩ := id E
  intro t hf H locs ls w hl
  unfold f_SK_appendSign_27 at hf
  refine lv_aload_n hx hb d_SK_appendSign_27 rfl (lv_at hl 0 rfl) ?_
  refine lv_dup hx hb d_SK_appendSign_28 rfl ?_
  refine mz_get E w 30 8 (v := .int (mz_gI t 30 8)) (by decide) rfl rfl ii_8 (by decide) (Nat.le_of_ble_eq_true rfl) k_344 rfl d_SK_appendSign_29 ?_
  refine lv_iconst (v := (1 : Int32)) hx hb d_SK_appendSign_32 (by decide) ?_
  refine lv_iadd hx hb d_SK_appendSign_33 ?_
  refine mz_put E w 30 8 (v := ((mz_gI t 30 8) + (1 : Int32))) (by decide) rfl rfl ii_8 tk_8 nm_8 (by decide) (Nat.le_of_ble_eq_true rfl) k_344 rfl (tk_8 8 (by decide)) rfl rfl rfl d_SK_appendSign_34 (fun H locs w => ?_)
  obtain ⟨t2, e_t2, hf⟩ := mz_lt hf
  rw [← e_t2] at w
  obtain rfl := Option.some.inj hf
  exact mz_vret E w rfl d_SK_appendSign_37
set_option maxRecDepth 100000 in
set_option maxHeartbeats 4000000 in
theorem c_SK_appendSign {SX : State → Heap → Prop} {dC : Nat → ClassId} {dI : Nat → Nat → Nat} {ad en : Nat → Nat} {ca : Nat → ClassId} (hSK : mz_SK SX ad 80) (l : Launch) (n : Nat) (x1 : Int32) (t : mz_St) (res : mz_St) (hf : f_SK_appendSign n x1 t = some res) : mz_C SX mz_tC 80 mz_cl dC dI ad en ca l y_SK_appendSign prog_13_method_18_code 2 none (r_SK_appendSign) [.ref (ad 30), .int x1] t none res := by
  unfold f_SK_appendSign at hf
  refine mz_met hSK (by decide) (Nat.le_of_ble_eq_true rfl) ?_
  intro p e s m args below meth c ls E w hl
  obtain ⟨hx, hb, hml, hown, hcx, -, -, hSX, -, -, -⟩ := id E
  have hl : lv_has ls 2 [(0, .ref (ad 30)), (1, .int x1)] := hl
  refine lv_aload_n hx hb d_SK_appendSign_0 rfl (lv_at hl 0 rfl) ?_
  refine mz_get E w 30 8 (v := .int (mz_gI t 30 8)) (by decide) rfl rfl ii_8 (by decide) (Nat.le_of_ble_eq_true rfl) k_344 rfl d_SK_appendSign_1 ?_
  refine lv_aload_n hx hb d_SK_appendSign_4 rfl (lv_at hl 0 rfl) ?_
  refine mz_get E w 30 7 (v := .int (mz_gI t 30 7)) (by decide) rfl rfl ii_8 (by decide) (Nat.le_of_ble_eq_true rfl) k_342 rfl d_SK_appendSign_5 ?_
  refine lv_isub hx hb d_SK_appendSign_8 ?_
  refine lv_sipush (v := (300 : Int32)) hx hb d_SK_appendSign_9 (by decide) ?_
  refine lv_icmp_ge (tgt := 27) hx hb d_SK_appendSign_12 (by decide) (fun hc1 => ?_) (fun hc1 => ?_)
  · have hf := mz_t hc1 hf
    exact b_SK_appendSign_27 E n  t hf _ _ _ w (lv_sub hl [0] rfl)
  · have hf := mz_f hc1 hf
    refine lv_aload_n hx hb d_SK_appendSign_15 rfl (lv_at hl 0 rfl) ?_
    refine mz_get E w 30 0 (v := .ref (ad 1)) (by decide) rfl rfl ii_8 (by decide) (Nat.le_of_ble_eq_true rfl) k_331 rfl d_SK_appendSign_16 ?_
    refine lv_aload_n hx hb d_SK_appendSign_19 rfl (lv_at hl 0 rfl) ?_
    refine mz_get E w 30 8 (v := .int (mz_gI t 30 8)) (by decide) rfl rfl ii_8 (by decide) (Nat.le_of_ble_eq_true rfl) k_344 rfl d_SK_appendSign_20 ?_
    refine lv_iload_n hx hb d_SK_appendSign_23 rfl (lv_at hl 1 rfl) ?_
    obtain ⟨q3, hq4, hf⟩ := mz_bd hf
    refine mz_callV E w (k := 1) (As := [.int (mz_gI t 30 8), .int x1]) (rest := []) (c_SI_write hSK l n (mz_gI t 30 8) x1 t q3 hq4) (by decide) rfl rfl k_662 k_2 k_659 k_660 k_661 hm_SI_write ⟨⟨rfl, rfl⟩, Nat.le_of_ble_eq_true rfl, Nat.le_of_ble_eq_true rfl⟩ rfl hl.1 rfl (Nat.le_of_ble_eq_true rfl) d_SK_appendSign_24 ⟨Nat.zero_le _, Nat.zero_le _⟩ (st1 := []) rfl (fun H locs w => ?_)
    exact b_SK_appendSign_27 E n  q3 hf _ _ _ w (lv_sub hl [0] rfl)

/-! MacroHouse$Stack.appendNumber(I)V -/
abbrev r_SK_appendNumber : Room := { frames := 2, cells := 0, slots := 0, locals := 43 }
def f_SK_appendNumber_60 (n : Nat) (K15 : Int32 → Int32 → Int32 → mz_St → Option mz_St) (x1 : Int32) (x2 : Int32) (x3 : Int32) (t : mz_St) : Option mz_St := if ¬ (10 : Int32) = 0 then (K15 x1 x2 (x3 / (10 : Int32)) t) else none
def f_SK_appendNumber_46 (n : Nat) (K15 : Int32 → Int32 → Int32 → mz_St → Option mz_St) (x1 : Int32) (x3 : Int32) (x4 : Int32) (s0 : Int32) (t : mz_St) : Option mz_St := if s0 = 0 then (f_SK_appendNumber_60 n K15 x1 s0 x3 t) else ((f_SK_appendSign n ((48 : Int32) + x4) t).bind fun q8 => f_SK_appendNumber_60 n K15 x1 s0 x3 q8)
def f_SK_appendNumber_41 (n : Nat) (K15 : Int32 → Int32 → Int32 → mz_St → Option mz_St) (x1 : Int32) (x3 : Int32) (x4 : Int32) (t : mz_St) : Option mz_St := f_SK_appendNumber_46 n K15 x1 x3 x4 (1 : Int32) t
def f_SK_appendNumber_15 (n : Nat) : Nat → Int32 → Int32 → Int32 → mz_St → Option mz_St
  | 0, _, _, _, _ => none
  | k + 1, x1, x2, x3, t => if x3 ≤ 0 then (some t) else (if ¬ x3 = 0 then (if ¬ (10 : Int32) = 0 then (if x2 = 0 then (if 0 < ((x1 / x3) - (x1 / x3) / (10 : Int32) * (10 : Int32)) then (f_SK_appendNumber_41 n (f_SK_appendNumber_15 n k) x1 x3 ((x1 / x3) - (x1 / x3) / (10 : Int32) * (10 : Int32)) t) else (if x3 = (1 : Int32) then (f_SK_appendNumber_41 n (f_SK_appendNumber_15 n k) x1 x3 ((x1 / x3) - (x1 / x3) / (10 : Int32) * (10 : Int32)) t) else (f_SK_appendNumber_46 n (f_SK_appendNumber_15 n k) x1 x3 ((x1 / x3) - (x1 / x3) / (10 : Int32) * (10 : Int32)) (0 : Int32) t))) else (f_SK_appendNumber_41 n (f_SK_appendNumber_15 n k) x1 x3 ((x1 / x3) - (x1 / x3) / (10 : Int32) * (10 : Int32)) t)) else none) else none)
def f_SK_appendNumber (n : Nat) (x1 : Int32) (t : mz_St) : Option mz_St := if 0 ≤ x1 then (f_SK_appendNumber_15 n n x1 (0 : Int32) (1000000000 : Int32) t) else (mz_let (mz_pI t 30 9 (1 : Int32)) fun t12 => some t12)
set_option maxRecDepth 100000 in
set_option maxHeartbeats 4000000 in
theorem b_SK_appendNumber_60 {SX : State → Heap → Prop} {dC : Nat → ClassId} {dI : Nat → Nat → Nat} {ad en : Nat → Nat} {ca : Nat → ClassId} {p : Program} {l : Launch} {e : Env} {s : State} {m : MethodId} {args : Array Value} {below : List Frame} {meth : Method} {c : Code} {res : mz_St} (E : mz_En SX 80 mz_cl dC dI ad ca p s m meth c prog_13_method_16_code 5 "MacroHouse$Stack" none) (n : Nat) (K15 : Int32 → Int32 → Int32 → mz_St → Option mz_St) (hK15 : ∀ (x1 : Int32) (x2 : Int32) (x3 : Int32) (t : mz_St), K15 x1 x2 x3 t = some res → ∀ (H : Heap) (locs : List Loc) (ls : Array Slot), mz_Wd mz_tC 80 mz_cl dC dI ad en ca s t H locs → lv_has ls 5 [(0, .ref (ad 30)), (1, .int x1), (2, .int x2), (3, .int x3)] → W p l e (r_SK_appendNumber) s m args below meth c H locs 0 0 (MQ below (mz_Q SX mz_tC 80 mz_cl dC dI ad en ca none res) args s 0 0 (mz_A ad 80)) (F0 m 15 ls [])) : ∀ (x1 : Int32) (x2 : Int32) (x3 : Int32) (t : mz_St), f_SK_appendNumber_60 n K15 x1 x2 x3 t = some res → ∀ (H : Heap) (locs : List Loc) (ls : Array Slot), mz_Wd mz_tC 80 mz_cl dC dI ad en ca s t H locs → lv_has ls 5 [(0, .ref (ad 30)), (1, .int x1), (2, .int x2), (3, .int x3)] → W p l e (r_SK_appendNumber) s m args below meth c H locs 0 0 (MQ below (mz_Q SX mz_tC 80 mz_cl dC dI ad en ca none res) args s 0 0 (mz_A ad 80)) (F0 m 60 ls []) := by
  obtain ⟨hx, hb, hml, hown, hcx, -, -, hSX, -, -, hSK⟩ := id E
  intro x1 x2 x3 t hf H locs ls w hl
  unfold f_SK_appendNumber_60 at hf
  refine lv_iload_n hx hb d_SK_appendNumber_60 rfl (lv_at hl 3 rfl) ?_
  refine lv_bipush (v := (10 : Int32)) hx hb d_SK_appendNumber_61 (by decide) ?_
  obtain ⟨hz7, hf⟩ := mz_gd hf
  refine lv_idiv hx hb d_SK_appendNumber_63 hz7 ?_
  refine lv_istore_n (lv' := [(3, .int (x3 / (10 : Int32))), (0, .ref (ad 30)), (1, .int x1), (2, .int x2)]) hx hb d_SK_appendNumber_64 rfl hl (by decide) rfl (fun ls hl => ?_)
  refine lv_goto (tgt := 15) hx hb d_SK_appendNumber_65 (by decide) ?_
  exact hK15 x1 x2 (x3 / (10 : Int32)) t hf _ _ _ w (lv_sub hl [1, 2, 3, 0] rfl)
set_option maxRecDepth 100000 in
set_option maxHeartbeats 4000000 in
theorem b_SK_appendNumber_46 {SX : State → Heap → Prop} {dC : Nat → ClassId} {dI : Nat → Nat → Nat} {ad en : Nat → Nat} {ca : Nat → ClassId} {p : Program} {l : Launch} {e : Env} {s : State} {m : MethodId} {args : Array Value} {below : List Frame} {meth : Method} {c : Code} {res : mz_St} (E : mz_En SX 80 mz_cl dC dI ad ca p s m meth c prog_13_method_16_code 5 "MacroHouse$Stack" none) (n : Nat) (K15 : Int32 → Int32 → Int32 → mz_St → Option mz_St) (hK15 : ∀ (x1 : Int32) (x2 : Int32) (x3 : Int32) (t : mz_St), K15 x1 x2 x3 t = some res → ∀ (H : Heap) (locs : List Loc) (ls : Array Slot), mz_Wd mz_tC 80 mz_cl dC dI ad en ca s t H locs → lv_has ls 5 [(0, .ref (ad 30)), (1, .int x1), (2, .int x2), (3, .int x3)] → W p l e (r_SK_appendNumber) s m args below meth c H locs 0 0 (MQ below (mz_Q SX mz_tC 80 mz_cl dC dI ad en ca none res) args s 0 0 (mz_A ad 80)) (F0 m 15 ls [])) : ∀ (x1 : Int32) (x3 : Int32) (x4 : Int32) (s0 : Int32) (t : mz_St), f_SK_appendNumber_46 n K15 x1 x3 x4 s0 t = some res → ∀ (H : Heap) (locs : List Loc) (ls : Array Slot), mz_Wd mz_tC 80 mz_cl dC dI ad en ca s t H locs → lv_has ls 5 [(0, .ref (ad 30)), (1, .int x1), (3, .int x3), (4, .int x4)] → W p l e (r_SK_appendNumber) s m args below meth c H locs 0 0 (MQ below (mz_Q SX mz_tC 80 mz_cl dC dI ad en ca none res) args s 0 0 (mz_A ad 80)) (F0 m 46 ls [.int s0]) := by
  obtain ⟨hx, hb, hml, hown, hcx, -, -, hSX, -, -, hSK⟩ := id E
  intro x1 x3 x4 s0 t hf H locs ls w hl
  unfold f_SK_appendNumber_46 at hf
  refine lv_istore_n (lv' := [(2, .int s0), (0, .ref (ad 30)), (1, .int x1), (3, .int x3), (4, .int x4)]) hx hb d_SK_appendNumber_46 rfl hl (by decide) rfl (fun ls hl => ?_)
  refine lv_iload_n hx hb d_SK_appendNumber_47 rfl (lv_at hl 0 rfl) ?_
  refine lv_if_eq (tgt := 60) hx hb d_SK_appendNumber_48 (by decide) (fun hc6 => ?_) (fun hc6 => ?_)
  · have hf := mz_t hc6 hf
    exact b_SK_appendNumber_60 E n K15 hK15 x1 s0 x3 t hf _ _ _ w (lv_sub hl [1, 2, 0, 3] rfl)
  · have hf := mz_f hc6 hf
    refine lv_aload_n hx hb d_SK_appendNumber_51 rfl (lv_at hl 1 rfl) ?_
    refine lv_bipush (v := (48 : Int32)) hx hb d_SK_appendNumber_52 (by decide) ?_
    refine lv_iload hx hb d_SK_appendNumber_54 (lv_at hl 4 rfl) ?_
    refine lv_iadd hx hb d_SK_appendNumber_56 ?_
    obtain ⟨q8, hq9, hf⟩ := mz_bd hf
    refine mz_callV E w (k := 30) (As := [.int ((48 : Int32) + x4)]) (rest := []) (c_SK_appendSign hSK l n ((48 : Int32) + x4) t q8 hq9) (by decide) rfl rfl k_658 k_13 k_655 k_657 ks_12 hm_SK_appendSign ⟨⟨rfl, rfl⟩, Nat.le_of_ble_eq_true rfl, Nat.le_of_ble_eq_true rfl⟩ rfl hl.1 rfl (Nat.le_of_ble_eq_true rfl) d_SK_appendNumber_57 ⟨Nat.zero_le _, Nat.zero_le _⟩ (st1 := []) rfl (fun H locs w => ?_)
    exact b_SK_appendNumber_60 E n K15 hK15 x1 s0 x3 q8 hf _ _ _ w (lv_sub hl [1, 2, 0, 3] rfl)
set_option maxRecDepth 100000 in
set_option maxHeartbeats 4000000 in
theorem b_SK_appendNumber_41 {SX : State → Heap → Prop} {dC : Nat → ClassId} {dI : Nat → Nat → Nat} {ad en : Nat → Nat} {ca : Nat → ClassId} {p : Program} {l : Launch} {e : Env} {s : State} {m : MethodId} {args : Array Value} {below : List Frame} {meth : Method} {c : Code} {res : mz_St} (E : mz_En SX 80 mz_cl dC dI ad ca p s m meth c prog_13_method_16_code 5 "MacroHouse$Stack" none) (n : Nat) (K15 : Int32 → Int32 → Int32 → mz_St → Option mz_St) (hK15 : ∀ (x1 : Int32) (x2 : Int32) (x3 : Int32) (t : mz_St), K15 x1 x2 x3 t = some res → ∀ (H : Heap) (locs : List Loc) (ls : Array Slot), mz_Wd mz_tC 80 mz_cl dC dI ad en ca s t H locs → lv_has ls 5 [(0, .ref (ad 30)), (1, .int x1), (2, .int x2), (3, .int x3)] → W p l e (r_SK_appendNumber) s m args below meth c H locs 0 0 (MQ below (mz_Q SX mz_tC 80 mz_cl dC dI ad en ca none res) args s 0 0 (mz_A ad 80)) (F0 m 15 ls [])) : ∀ (x1 : Int32) (x3 : Int32) (x4 : Int32) (t : mz_St), f_SK_appendNumber_41 n K15 x1 x3 x4 t = some res → ∀ (H : Heap) (locs : List Loc) (ls : Array Slot), mz_Wd mz_tC 80 mz_cl dC dI ad en ca s t H locs → lv_has ls 5 [(0, .ref (ad 30)), (1, .int x1), (3, .int x3), (4, .int x4)] → W p l e (r_SK_appendNumber) s m args below meth c H locs 0 0 (MQ below (mz_Q SX mz_tC 80 mz_cl dC dI ad en ca none res) args s 0 0 (mz_A ad 80)) (F0 m 41 ls []) := by
  obtain ⟨hx, hb, hml, hown, hcx, -, -, hSX, -, -, hSK⟩ := id E
  intro x1 x3 x4 t hf H locs ls w hl
  unfold f_SK_appendNumber_41 at hf
  refine lv_iconst (v := (1 : Int32)) hx hb d_SK_appendNumber_41 (by decide) ?_
  refine lv_goto (tgt := 46) hx hb d_SK_appendNumber_42 (by decide) ?_
  exact b_SK_appendNumber_46 E n K15 hK15 x1 x3 x4 (1 : Int32) t hf _ _ _ w (lv_sub hl [0, 1, 2, 3] rfl)
set_option maxRecDepth 100000 in
set_option maxHeartbeats 4000000 in
theorem b_SK_appendNumber_15 {SX : State → Heap → Prop} {dC : Nat → ClassId} {dI : Nat → Nat → Nat} {ad en : Nat → Nat} {ca : Nat → ClassId} {p : Program} {l : Launch} {e : Env} {s : State} {m : MethodId} {args : Array Value} {below : List Frame} {meth : Method} {c : Code} {res : mz_St} (E : mz_En SX 80 mz_cl dC dI ad ca p s m meth c prog_13_method_16_code 5 "MacroHouse$Stack" none) (n : Nat) (k : Nat) : ∀ (x1 : Int32) (x2 : Int32) (x3 : Int32) (t : mz_St), f_SK_appendNumber_15 n k x1 x2 x3 t = some res → ∀ (H : Heap) (locs : List Loc) (ls : Array Slot), mz_Wd mz_tC 80 mz_cl dC dI ad en ca s t H locs → lv_has ls 5 [(0, .ref (ad 30)), (1, .int x1), (2, .int x2), (3, .int x3)] → W p l e (r_SK_appendNumber) s m args below meth c H locs 0 0 (MQ below (mz_Q SX mz_tC 80 mz_cl dC dI ad en ca none res) args s 0 0 (mz_A ad 80)) (F0 m 15 ls []) := by
  obtain ⟨hx, hb, hml, hown, hcx, -, -, hSX, -, -, hSK⟩ := id E
  induction k with
  | zero => intro x1 x2 x3 t hf; exact absurd hf (by unfold f_SK_appendNumber_15; exact fun h => nomatch h)
  | succ k ih =>
    intro x1 x2 x3 t hf H locs ls w hl
    unfold f_SK_appendNumber_15 at hf
    refine lv_iload_n hx hb d_SK_appendNumber_15 rfl (lv_at hl 3 rfl) ?_
    refine lv_if_le (tgt := 68) hx hb d_SK_appendNumber_16 (by decide) (fun hc2 => ?_) (fun hc2 => ?_)
    · have hf := mz_t hc2 hf
      obtain rfl := Option.some.inj hf
      exact mz_vret E w rfl d_SK_appendNumber_68
    · have hf := mz_f hc2 hf
      refine lv_iload_n hx hb d_SK_appendNumber_19 rfl (lv_at hl 1 rfl) ?_
      refine lv_iload_n hx hb d_SK_appendNumber_20 rfl (lv_at hl 3 rfl) ?_
      obtain ⟨hz3, hf⟩ := mz_gd hf
      refine lv_idiv hx hb d_SK_appendNumber_21 hz3 ?_
      refine lv_bipush (v := (10 : Int32)) hx hb d_SK_appendNumber_22 (by decide) ?_
      obtain ⟨hz4, hf⟩ := mz_gd hf
      refine lv_irem hx hb d_SK_appendNumber_24 hz4 ?_
      refine lv_istore (lv' := [(4, .int ((x1 / x3) - (x1 / x3) / (10 : Int32) * (10 : Int32))), (0, .ref (ad 30)), (1, .int x1), (2, .int x2), (3, .int x3)]) hx hb d_SK_appendNumber_25 hl (by decide) rfl (fun ls hl => ?_)
      refine lv_iload_n hx hb d_SK_appendNumber_27 rfl (lv_at hl 3 rfl) ?_
      refine lv_if_ne (tgt := 41) hx hb d_SK_appendNumber_28 (by decide) (fun hc5 => ?_) (fun hc5 => ?_)
      · have hf := mz_f hc5 hf
        exact b_SK_appendNumber_41 E n (f_SK_appendNumber_15 n k) ih x1 x3 ((x1 / x3) - (x1 / x3) / (10 : Int32) * (10 : Int32)) t hf _ _ _ w (lv_sub hl [1, 2, 4, 0] rfl)
      · have hf := mz_t hc5 hf
        refine lv_iload hx hb d_SK_appendNumber_31 (lv_at hl 0 rfl) ?_
        refine lv_if_gt (tgt := 41) hx hb d_SK_appendNumber_33 (by decide) (fun hc10 => ?_) (fun hc10 => ?_)
        · have hf := mz_t hc10 hf
          exact b_SK_appendNumber_41 E n (f_SK_appendNumber_15 n k) ih x1 x3 ((x1 / x3) - (x1 / x3) / (10 : Int32) * (10 : Int32)) t hf _ _ _ w (lv_sub hl [1, 2, 4, 0] rfl)
        · have hf := mz_f hc10 hf
          refine lv_iload_n hx hb d_SK_appendNumber_36 rfl (lv_at hl 4 rfl) ?_
          refine lv_iconst (v := (1 : Int32)) hx hb d_SK_appendNumber_37 (by decide) ?_
          refine lv_icmp_ne (tgt := 45) hx hb d_SK_appendNumber_38 (by decide) (fun hc11 => ?_) (fun hc11 => ?_)
          · have hf := mz_f hc11 hf
            refine lv_iconst (v := (0 : Int32)) hx hb d_SK_appendNumber_45 (by decide) ?_
            exact b_SK_appendNumber_46 E n (f_SK_appendNumber_15 n k) ih x1 x3 ((x1 / x3) - (x1 / x3) / (10 : Int32) * (10 : Int32)) (0 : Int32) t hf _ _ _ w (lv_sub hl [1, 2, 4, 0] rfl)
          · have hf := mz_t hc11 hf
            exact b_SK_appendNumber_41 E n (f_SK_appendNumber_15 n k) ih x1 x3 ((x1 / x3) - (x1 / x3) / (10 : Int32) * (10 : Int32)) t hf _ _ _ w (lv_sub hl [1, 2, 4, 0] rfl)
set_option maxRecDepth 100000 in
set_option maxHeartbeats 4000000 in
theorem c_SK_appendNumber {SX : State → Heap → Prop} {dC : Nat → ClassId} {dI : Nat → Nat → Nat} {ad en : Nat → Nat} {ca : Nat → ClassId} (hSK : mz_SK SX ad 80) (l : Launch) (n : Nat) (x1 : Int32) (t : mz_St) (res : mz_St) (hf : f_SK_appendNumber n x1 t = some res) : mz_C SX mz_tC 80 mz_cl dC dI ad en ca l y_SK_appendNumber prog_13_method_16_code 5 none (r_SK_appendNumber) [.ref (ad 30), .int x1] t none res := by
  unfold f_SK_appendNumber at hf
  refine mz_met hSK (by decide) (Nat.le_of_ble_eq_true rfl) ?_
  intro p e s m args below meth c ls E w hl
  obtain ⟨hx, hb, hml, hown, hcx, -, -, hSX, -, -, -⟩ := id E
  have hl : lv_has ls 5 [(0, .ref (ad 30)), (1, .int x1)] := hl
  refine lv_iload_n hx hb d_SK_appendNumber_0 rfl (lv_at hl 1 rfl) ?_
  refine lv_if_ge (tgt := 10) hx hb d_SK_appendNumber_1 (by decide) (fun hc1 => ?_) (fun hc1 => ?_)
  · have hf := mz_t hc1 hf
    refine lv_iconst (v := (0 : Int32)) hx hb d_SK_appendNumber_10 (by decide) ?_
    refine lv_istore_n (lv' := [(2, .int (0 : Int32)), (0, .ref (ad 30)), (1, .int x1)]) hx hb d_SK_appendNumber_11 rfl hl (by decide) rfl (fun ls hl => ?_)
    refine lv_ldc (v := (1000000000 : Int32)) hx hb hown (hcx.at args _ k_654) d_SK_appendNumber_12 ?_
    refine lv_istore_n (lv' := [(3, .int (1000000000 : Int32)), (2, .int (0 : Int32)), (0, .ref (ad 30)), (1, .int x1)]) hx hb d_SK_appendNumber_14 rfl hl (by decide) rfl (fun ls hl => ?_)
    exact b_SK_appendNumber_15 E n n x1 (0 : Int32) (1000000000 : Int32) t hf _ _ _ w (lv_sub hl [2, 3, 1, 0] rfl)
  · have hf := mz_f hc1 hf
    refine lv_aload_n hx hb d_SK_appendNumber_4 rfl (lv_at hl 0 rfl) ?_
    refine lv_iconst (v := (1 : Int32)) hx hb d_SK_appendNumber_5 (by decide) ?_
    refine mz_put E w 30 9 (v := (1 : Int32)) (by decide) rfl rfl ii_8 tk_8 nm_8 (by decide) (Nat.le_of_ble_eq_true rfl) k_345 rfl (tk_8 9 (by decide)) rfl (by decide) rfl d_SK_appendNumber_6 (fun H locs w => ?_)
    obtain ⟨t12, e_t12, hf⟩ := mz_lt hf
    rw [← e_t12] at w
    obtain rfl := Option.some.inj hf
    exact mz_vret E w rfl d_SK_appendNumber_9

/-! MacroHouse$Stack.append(II)V -/
abbrev r_SK_append : Room := { frames := 1, cells := 0, slots := 0, locals := 22 }
def f_SK_append_34 (n : Nat) : Nat → Int32 → Int32 → mz_St → Option mz_St
  | 0, _, _, _ => none
  | k + 1, x2, x3, t => if x2 ≤ x3 then (some t) else ((f_SI_at n x3 t).bind fun q3 => (f_SI_write n (mz_gI t 30 8) q3.1 q3.2).bind fun q5 => mz_let (mz_pI q5 30 8 ((mz_gI q5 30 8) + (1 : Int32))) fun t7 => (f_SK_append_34 n k) x2 (x3 + (1 : Int32)) t7)
def f_SK_append (n : Nat) (x1 : Int32) (x2 : Int32) (t : mz_St) : Option mz_St := if (((mz_gI t 30 8) - (mz_gI t 30 7)) + (x2 - x1)) ≤ (300 : Int32) then (f_SK_append_34 n n x2 x1 t) else (mz_let (mz_pI t 30 8 ((mz_gI t 30 8) + (x2 - x1))) fun t8 => some t8)
set_option maxRecDepth 100000 in
set_option maxHeartbeats 4000000 in
theorem b_SK_append_34 {SX : State → Heap → Prop} {dC : Nat → ClassId} {dI : Nat → Nat → Nat} {ad en : Nat → Nat} {ca : Nat → ClassId} {p : Program} {l : Launch} {e : Env} {s : State} {m : MethodId} {args : Array Value} {below : List Frame} {meth : Method} {c : Code} {res : mz_St} (E : mz_En SX 80 mz_cl dC dI ad ca p s m meth c prog_13_method_17_code 4 "MacroHouse$Stack" none) (n : Nat) (k : Nat) : ∀ (x2 : Int32) (x3 : Int32) (t : mz_St), f_SK_append_34 n k x2 x3 t = some res → ∀ (H : Heap) (locs : List Loc) (ls : Array Slot), mz_Wd mz_tC 80 mz_cl dC dI ad en ca s t H locs → lv_has ls 4 [(0, .ref (ad 30)), (2, .int x2), (3, .int x3)] → W p l e (r_SK_append) s m args below meth c H locs 0 0 (MQ below (mz_Q SX mz_tC 80 mz_cl dC dI ad en ca none res) args s 0 0 (mz_A ad 80)) (F0 m 34 ls []) := by
  obtain ⟨hx, hb, hml, hown, hcx, -, -, hSX, -, -, hSK⟩ := id E
  induction k with
  | zero => intro x2 x3 t hf; exact absurd hf (by unfold f_SK_append_34; exact fun h => nomatch h)
  | succ k ih =>
    intro x2 x3 t hf H locs ls w hl
    unfold f_SK_append_34 at hf
    refine lv_iload_n hx hb d_SK_append_34 rfl (lv_at hl 2 rfl) ?_
    refine lv_iload_n hx hb d_SK_append_35 rfl (lv_at hl 1 rfl) ?_
    refine lv_icmp_ge (tgt := 74) hx hb d_SK_append_36 (by decide) (fun hc2 => ?_) (fun hc2 => ?_)
    · have hf := mz_t hc2 hf
      obtain rfl := Option.some.inj hf
      exact mz_vret E w rfl d_SK_append_74
    · have hf := mz_f hc2 hf
      refine lv_aload_n hx hb d_SK_append_39 rfl (lv_at hl 0 rfl) ?_
      refine mz_get E w 30 0 (v := .ref (ad 1)) (by decide) rfl rfl ii_8 (by decide) (Nat.le_of_ble_eq_true rfl) k_331 rfl d_SK_append_40 ?_
      refine lv_aload_n hx hb d_SK_append_43 rfl (lv_at hl 0 rfl) ?_
      refine mz_get E w 30 8 (v := .int (mz_gI t 30 8)) (by decide) rfl rfl ii_8 (by decide) (Nat.le_of_ble_eq_true rfl) k_344 rfl d_SK_append_44 ?_
      refine lv_aload_n hx hb d_SK_append_47 rfl (lv_at hl 0 rfl) ?_
      refine mz_get E w 30 0 (v := .ref (ad 1)) (by decide) rfl rfl ii_8 (by decide) (Nat.le_of_ble_eq_true rfl) k_331 rfl d_SK_append_48 ?_
      refine lv_iload_n hx hb d_SK_append_51 rfl (lv_at hl 2 rfl) ?_
      obtain ⟨q3, hq4, hf⟩ := mz_bd hf
      refine mz_callV E w (k := 1) (As := [.int x3]) (rest := [.int (mz_gI t 30 8), .ref (ad 1)]) (c_SI_at hSK l n x3 t q3 hq4) (by decide) rfl rfl k_450 k_2 k_645 k_448 k_449 hm_SI_at ⟨⟨rfl, rfl⟩, Nat.le_of_ble_eq_true rfl, Nat.le_of_ble_eq_true rfl⟩ rfl hl.1 rfl (Nat.le_of_ble_eq_true rfl) d_SK_append_52 ⟨Nat.zero_le _, Nat.zero_le _⟩ (st1 := [.int q3.1, .int (mz_gI t 30 8), .ref (ad 1)]) rfl (fun H locs w => ?_)
      obtain ⟨q5, hq6, hf⟩ := mz_bd hf
      refine mz_callV E w (k := 1) (As := [.int (mz_gI t 30 8), .int q3.1]) (rest := []) (c_SI_write hSK l n (mz_gI t 30 8) q3.1 q3.2 q5 hq6) (by decide) rfl rfl k_662 k_2 k_659 k_660 k_661 hm_SI_write ⟨⟨rfl, rfl⟩, Nat.le_of_ble_eq_true rfl, Nat.le_of_ble_eq_true rfl⟩ rfl hl.1 rfl (Nat.le_of_ble_eq_true rfl) d_SK_append_55 ⟨Nat.zero_le _, Nat.zero_le _⟩ (st1 := []) rfl (fun H locs w => ?_)
      refine lv_aload_n hx hb d_SK_append_58 rfl (lv_at hl 0 rfl) ?_
      refine lv_dup hx hb d_SK_append_59 rfl ?_
      refine mz_get E w 30 8 (v := .int (mz_gI q5 30 8)) (by decide) rfl rfl ii_8 (by decide) (Nat.le_of_ble_eq_true rfl) k_344 rfl d_SK_append_60 ?_
      refine lv_iconst (v := (1 : Int32)) hx hb d_SK_append_63 (by decide) ?_
      refine lv_iadd hx hb d_SK_append_64 ?_
      refine mz_put E w 30 8 (v := ((mz_gI q5 30 8) + (1 : Int32))) (by decide) rfl rfl ii_8 tk_8 nm_8 (by decide) (Nat.le_of_ble_eq_true rfl) k_344 rfl (tk_8 8 (by decide)) rfl rfl rfl d_SK_append_65 (fun H locs w => ?_)
      obtain ⟨t7, e_t7, hf⟩ := mz_lt hf
      rw [← e_t7] at w
      refine lv_iinc (v := (x3 + (1 : Int32))) (lv' := [(3, .int (x3 + (1 : Int32))), (0, .ref (ad 30)), (2, .int x2)]) hx hb d_SK_append_68 hl (k := 2) rfl rfl (by decide) rfl (fun ls hl => ?_)
      refine lv_goto (tgt := 34) hx hb d_SK_append_71 (by decide) ?_
      exact ih x2 (x3 + (1 : Int32)) t7 hf _ _ _ w (lv_sub hl [1, 2, 0] rfl)
set_option maxRecDepth 100000 in
set_option maxHeartbeats 4000000 in
theorem c_SK_append {SX : State → Heap → Prop} {dC : Nat → ClassId} {dI : Nat → Nat → Nat} {ad en : Nat → Nat} {ca : Nat → ClassId} (hSK : mz_SK SX ad 80) (l : Launch) (n : Nat) (x1 : Int32) (x2 : Int32) (t : mz_St) (res : mz_St) (hf : f_SK_append n x1 x2 t = some res) : mz_C SX mz_tC 80 mz_cl dC dI ad en ca l y_SK_append prog_13_method_17_code 4 none (r_SK_append) [.ref (ad 30), .int x1, .int x2] t none res := by
  unfold f_SK_append at hf
  refine mz_met hSK (by decide) (Nat.le_of_ble_eq_true rfl) ?_
  intro p e s m args below meth c ls E w hl
  obtain ⟨hx, hb, hml, hown, hcx, -, -, hSX, -, -, -⟩ := id E
  have hl : lv_has ls 4 [(0, .ref (ad 30)), (1, .int x1), (2, .int x2)] := hl
  refine lv_aload_n hx hb d_SK_append_0 rfl (lv_at hl 0 rfl) ?_
  refine mz_get E w 30 8 (v := .int (mz_gI t 30 8)) (by decide) rfl rfl ii_8 (by decide) (Nat.le_of_ble_eq_true rfl) k_344 rfl d_SK_append_1 ?_
  refine lv_aload_n hx hb d_SK_append_4 rfl (lv_at hl 0 rfl) ?_
  refine mz_get E w 30 7 (v := .int (mz_gI t 30 7)) (by decide) rfl rfl ii_8 (by decide) (Nat.le_of_ble_eq_true rfl) k_342 rfl d_SK_append_5 ?_
  refine lv_isub hx hb d_SK_append_8 ?_
  refine lv_iload_n hx hb d_SK_append_9 rfl (lv_at hl 2 rfl) ?_
  refine lv_iload_n hx hb d_SK_append_10 rfl (lv_at hl 1 rfl) ?_
  refine lv_isub hx hb d_SK_append_11 ?_
  refine lv_iadd hx hb d_SK_append_12 ?_
  refine lv_sipush (v := (300 : Int32)) hx hb d_SK_append_13 (by decide) ?_
  refine lv_icmp_le (tgt := 32) hx hb d_SK_append_16 (by decide) (fun hc1 => ?_) (fun hc1 => ?_)
  · have hf := mz_t hc1 hf
    refine lv_iload_n hx hb d_SK_append_32 rfl (lv_at hl 1 rfl) ?_
    refine lv_istore_n (lv' := [(3, .int x1), (0, .ref (ad 30)), (1, .int x1), (2, .int x2)]) hx hb d_SK_append_33 rfl hl (by decide) rfl (fun ls hl => ?_)
    exact b_SK_append_34 E n n x2 x1 t hf _ _ _ w (lv_sub hl [1, 3, 0] rfl)
  · have hf := mz_f hc1 hf
    refine lv_aload_n hx hb d_SK_append_19 rfl (lv_at hl 0 rfl) ?_
    refine lv_dup hx hb d_SK_append_20 rfl ?_
    refine mz_get E w 30 8 (v := .int (mz_gI t 30 8)) (by decide) rfl rfl ii_8 (by decide) (Nat.le_of_ble_eq_true rfl) k_344 rfl d_SK_append_21 ?_
    refine lv_iload_n hx hb d_SK_append_24 rfl (lv_at hl 2 rfl) ?_
    refine lv_iload_n hx hb d_SK_append_25 rfl (lv_at hl 1 rfl) ?_
    refine lv_isub hx hb d_SK_append_26 ?_
    refine lv_iadd hx hb d_SK_append_27 ?_
    refine mz_put E w 30 8 (v := ((mz_gI t 30 8) + (x2 - x1))) (by decide) rfl rfl ii_8 tk_8 nm_8 (by decide) (Nat.le_of_ble_eq_true rfl) k_344 rfl (tk_8 8 (by decide)) rfl rfl rfl d_SK_append_28 (fun H locs w => ?_)
    obtain ⟨t8, e_t8, hf⟩ := mz_lt hf
    rw [← e_t8] at w
    obtain rfl := Option.some.inj hf
    exact mz_vret E w rfl d_SK_append_31

/-! MacroHouse$Stack.appendNamed(II)V -/
abbrev r_SK_appendNamed : Room := { frames := 2, cells := 0, slots := 0, locals := 50 }
def f_SK_appendNamed_109 (n : Nat) (x3 : Nat) (s0 : Int32) (t : mz_St) : Option mz_St := if mz_fr x3 then (if s0 = (-1 : Int32) then (mz_let (mz_pI t 30 9 (1 : Int32)) fun t15 => some t15) else ((f_FR_argumentStart n x3 s0 t).bind fun q9 => (f_FR_argumentStop n x3 s0 q9.2).bind fun q11 => (f_SK_append n q9.1 q11.1 q11.2).bind fun q13 => some q13)) else none
def f_SK_appendNamed_70 (n : Nat) (K5 : Int32 → Int32 → Int32 → mz_St → Option mz_St) (x1 : Int32) (x2 : Int32) (x3 : Int32) (t : mz_St) : Option mz_St := K5 x1 x2 (x3 + (-1 : Int32)) t
def f_SK_appendNamed_5 (n : Nat) : Nat → Int32 → Int32 → Int32 → mz_St → Option mz_St
  | 0, _, _, _, _ => none
  | k + 1, x1, x2, x3, t => if x3 ≤ (mz_gI t 30 10) then ((f_SK_frameAt n (mz_gI t 30 10) t).bind fun q2 => if mz_fr q2.1 then (if (mz_gI q2.2 30 10) = 0 then (f_SK_appendNamed_109 n q2.1 (-1 : Int32) q2.2) else ((f_MA_findParameter n (mz_gI q2.2 q2.1 7) x1 x2 q2.2).bind fun q6 => f_SK_appendNamed_109 n q2.1 q6.1 q6.2)) else none) else ((f_SK_frameAt n x3 t).bind fun q16 => if mz_fr q16.1 then (if (mz_gI q16.2 q16.1 0).toNatClampNeg < 16 ∧ (12 : Int32).toNatClampNeg < 16 then (if (mz_gI q16.2 q16.1 0).toNatClampNeg = (12 : Int32).toNatClampNeg then ((f_SI_same n (mz_gI q16.2 q16.1 9) (mz_gI q16.2 q16.1 10) x1 x2 q16.2).bind fun q21 => if q21.1 = 0 then (f_SK_appendNamed_70 n (f_SK_appendNamed_5 n k) x1 x2 x3 q21.2) else ((f_FR_argumentStart n q16.1 (0 : Int32) q21.2).bind fun q24 => (f_FR_argumentStop n q16.1 (0 : Int32) q24.2).bind fun q26 => (f_SK_append n q24.1 q26.1 q26.2).bind fun q28 => some q28)) else (f_SK_appendNamed_70 n (f_SK_appendNamed_5 n k) x1 x2 x3 q16.2)) else none) else none)
def f_SK_appendNamed (n : Nat) (x1 : Int32) (x2 : Int32) (t : mz_St) : Option mz_St := f_SK_appendNamed_5 n n x1 x2 (mz_gI t 30 4) t
set_option maxRecDepth 100000 in
set_option maxHeartbeats 4000000 in
theorem b_SK_appendNamed_109 {dC : Nat → ClassId} {dI : Nat → Nat → Nat} {ad en adK adV : Nat → Nat} {tA tS : Nat} {oF : Option Nat} {ca : Nat → ClassId} {p : Program} {l : Launch} {e : Env} {s : State} {m : MethodId} {args : Array Value} {below : List Frame} {meth : Method} {c : Code} {res : mz_St} (E : mz_En (mz_SC ad en adK adV tA tS oF) 80 mz_cl dC dI ad ca p s m meth c prog_13_method_15_code 5 "MacroHouse$Stack" none) (n : Nat) : ∀ (x3 : Nat) (s0 : Int32) (t : mz_St), f_SK_appendNamed_109 n x3 s0 t = some res → ∀ (H : Heap) (locs : List Loc) (ls : Array Slot), mz_Wd mz_tC 80 mz_cl dC dI ad en ca s t H locs → lv_has ls 5 [(0, .ref (ad 30)), (3, .ref (ad x3))] → W p l e (r_SK_appendNamed) s m args below meth c H locs 0 0 (MQ below (mz_Q (mz_SC ad en adK adV tA tS oF) mz_tC 80 mz_cl dC dI ad en ca none res) args s 0 0 (mz_A ad 80)) (F0 m 109 ls [.int s0]) := by
  obtain ⟨hx, hb, hml, hown, hcx, -, -, hSX, -, -, hSK⟩ := id E
  intro x3 s0 t hf H locs ls w hl
  unfold f_SK_appendNamed_109 at hf
  obtain ⟨h_x3, hf⟩ := mz_gd hf
  refine lv_istore (lv' := [(4, .int s0), (0, .ref (ad 30)), (3, .ref (ad x3))]) hx hb d_SK_appendNamed_109 hl (by decide) rfl (fun ls hl => ?_)
  refine lv_iload hx hb d_SK_appendNamed_111 (lv_at hl 0 rfl) ?_
  refine lv_iconst (v := (-1 : Int32)) hx hb d_SK_appendNamed_113 (by decide) ?_
  refine lv_icmp_ne (tgt := 123) hx hb d_SK_appendNamed_114 (by decide) (fun hc8 => ?_) (fun hc8 => ?_)
  · have hf := mz_f hc8 hf
    refine lv_aload_n hx hb d_SK_appendNamed_123 rfl (lv_at hl 1 rfl) ?_
    refine lv_aload_n hx hb d_SK_appendNamed_124 rfl (lv_at hl 2 rfl) ?_
    refine lv_iload hx hb d_SK_appendNamed_125 (lv_at hl 0 rfl) ?_
    obtain ⟨q9, hq10, hf⟩ := mz_bd hf
    refine mz_callV E w (k := x3) (As := [.int s0]) (rest := [.ref (ad 30)]) (c_FR_argumentStart hSK l n x3 s0 t q9 hq10) (mz_fN h_x3) (mz_tC_f h_x3) rfl k_682 k_14 k_679 k_680 k_681 hm_FR_argumentStart ⟨⟨rfl, rfl⟩, Nat.le_of_ble_eq_true rfl, Nat.le_of_ble_eq_true rfl⟩ rfl hl.1 rfl (Nat.le_of_ble_eq_true rfl) d_SK_appendNamed_127 ⟨Nat.zero_le _, Nat.zero_le _⟩ (st1 := [.int q9.1, .ref (ad 30)]) rfl (fun H locs w => ?_)
    refine lv_aload_n hx hb d_SK_appendNamed_130 rfl (lv_at hl 2 rfl) ?_
    refine lv_iload hx hb d_SK_appendNamed_131 (lv_at hl 0 rfl) ?_
    obtain ⟨q11, hq12, hf⟩ := mz_bd hf
    refine mz_callV E w (k := x3) (As := [.int s0]) (rest := [.int q9.1, .ref (ad 30)]) (c_FR_argumentStop hSK l n x3 s0 q9.2 q11 hq12) (mz_fN h_x3) (mz_tC_f h_x3) rfl k_686 k_14 k_683 k_684 k_685 hm_FR_argumentStop ⟨⟨rfl, rfl⟩, Nat.le_of_ble_eq_true rfl, Nat.le_of_ble_eq_true rfl⟩ rfl hl.1 rfl (Nat.le_of_ble_eq_true rfl) d_SK_appendNamed_133 ⟨Nat.zero_le _, Nat.zero_le _⟩ (st1 := [.int q11.1, .int q9.1, .ref (ad 30)]) rfl (fun H locs w => ?_)
    obtain ⟨q13, hq14, hf⟩ := mz_bd hf
    refine mz_callV E w (k := 30) (As := [.int q9.1, .int q11.1]) (rest := []) (c_SK_append hSK l n q9.1 q11.1 q11.2 q13 hq14) (by decide) rfl rfl k_690 k_13 k_687 k_689 ks_14 hm_SK_append ⟨⟨rfl, rfl⟩, Nat.le_of_ble_eq_true rfl, Nat.le_of_ble_eq_true rfl⟩ rfl hl.1 rfl (Nat.le_of_ble_eq_true rfl) d_SK_appendNamed_136 ⟨Nat.zero_le _, Nat.zero_le _⟩ (st1 := []) rfl (fun H locs w => ?_)
    obtain rfl := Option.some.inj hf
    exact mz_vret E w rfl d_SK_appendNamed_139
  · have hf := mz_t hc8 hf
    refine lv_aload_n hx hb d_SK_appendNamed_117 rfl (lv_at hl 1 rfl) ?_
    refine lv_iconst (v := (1 : Int32)) hx hb d_SK_appendNamed_118 (by decide) ?_
    refine mz_put E w 30 9 (v := (1 : Int32)) (by decide) rfl rfl ii_8 tk_8 nm_8 (by decide) (Nat.le_of_ble_eq_true rfl) k_345 rfl (tk_8 9 (by decide)) rfl (by decide) rfl d_SK_appendNamed_119 (fun H locs w => ?_)
    obtain ⟨t15, e_t15, hf⟩ := mz_lt hf
    rw [← e_t15] at w
    obtain rfl := Option.some.inj hf
    exact mz_vret E w rfl d_SK_appendNamed_122
set_option maxRecDepth 100000 in
set_option maxHeartbeats 4000000 in
theorem b_SK_appendNamed_70 {dC : Nat → ClassId} {dI : Nat → Nat → Nat} {ad en adK adV : Nat → Nat} {tA tS : Nat} {oF : Option Nat} {ca : Nat → ClassId} {p : Program} {l : Launch} {e : Env} {s : State} {m : MethodId} {args : Array Value} {below : List Frame} {meth : Method} {c : Code} {res : mz_St} (E : mz_En (mz_SC ad en adK adV tA tS oF) 80 mz_cl dC dI ad ca p s m meth c prog_13_method_15_code 5 "MacroHouse$Stack" none) (n : Nat) (K5 : Int32 → Int32 → Int32 → mz_St → Option mz_St) (hK5 : ∀ (x1 : Int32) (x2 : Int32) (x3 : Int32) (t : mz_St), K5 x1 x2 x3 t = some res → ∀ (H : Heap) (locs : List Loc) (ls : Array Slot), mz_Wd mz_tC 80 mz_cl dC dI ad en ca s t H locs → lv_has ls 5 [(0, .ref (ad 30)), (1, .int x1), (2, .int x2), (3, .int x3)] → W p l e (r_SK_appendNamed) s m args below meth c H locs 0 0 (MQ below (mz_Q (mz_SC ad en adK adV tA tS oF) mz_tC 80 mz_cl dC dI ad en ca none res) args s 0 0 (mz_A ad 80)) (F0 m 5 ls [])) : ∀ (x1 : Int32) (x2 : Int32) (x3 : Int32) (t : mz_St), f_SK_appendNamed_70 n K5 x1 x2 x3 t = some res → ∀ (H : Heap) (locs : List Loc) (ls : Array Slot), mz_Wd mz_tC 80 mz_cl dC dI ad en ca s t H locs → lv_has ls 5 [(0, .ref (ad 30)), (1, .int x1), (2, .int x2), (3, .int x3)] → W p l e (r_SK_appendNamed) s m args below meth c H locs 0 0 (MQ below (mz_Q (mz_SC ad en adK adV tA tS oF) mz_tC 80 mz_cl dC dI ad en ca none res) args s 0 0 (mz_A ad 80)) (F0 m 70 ls []) := by
  obtain ⟨hx, hb, hml, hown, hcx, -, -, hSX, -, -, hSK⟩ := id E
  intro x1 x2 x3 t hf H locs ls w hl
  unfold f_SK_appendNamed_70 at hf
  refine lv_iinc (v := (x3 + (-1 : Int32))) (lv' := [(3, .int (x3 + (-1 : Int32))), (0, .ref (ad 30)), (1, .int x1), (2, .int x2)]) hx hb d_SK_appendNamed_70 hl (k := 3) rfl rfl (by decide) rfl (fun ls hl => ?_)
  refine lv_goto (tgt := 5) hx hb d_SK_appendNamed_73 (by decide) ?_
  exact hK5 x1 x2 (x3 + (-1 : Int32)) t hf _ _ _ w (lv_sub hl [1, 2, 3, 0] rfl)
set_option maxRecDepth 100000 in
set_option maxHeartbeats 4000000 in
theorem b_SK_appendNamed_5 {dC : Nat → ClassId} {dI : Nat → Nat → Nat} {ad en adK adV : Nat → Nat} {tA tS : Nat} {oF : Option Nat} {ca : Nat → ClassId} {p : Program} {l : Launch} {e : Env} {s : State} {m : MethodId} {args : Array Value} {below : List Frame} {meth : Method} {c : Code} {res : mz_St} (E : mz_En (mz_SC ad en adK adV tA tS oF) 80 mz_cl dC dI ad ca p s m meth c prog_13_method_15_code 5 "MacroHouse$Stack" none) (n : Nat) (k : Nat) : ∀ (x1 : Int32) (x2 : Int32) (x3 : Int32) (t : mz_St), f_SK_appendNamed_5 n k x1 x2 x3 t = some res → ∀ (H : Heap) (locs : List Loc) (ls : Array Slot), mz_Wd mz_tC 80 mz_cl dC dI ad en ca s t H locs → lv_has ls 5 [(0, .ref (ad 30)), (1, .int x1), (2, .int x2), (3, .int x3)] → W p l e (r_SK_appendNamed) s m args below meth c H locs 0 0 (MQ below (mz_Q (mz_SC ad en adK adV tA tS oF) mz_tC 80 mz_cl dC dI ad en ca none res) args s 0 0 (mz_A ad 80)) (F0 m 5 ls []) := by
  obtain ⟨hx, hb, hml, hown, hcx, -, -, hSX, -, -, hSK⟩ := id E
  induction k with
  | zero => intro x1 x2 x3 t hf; exact absurd hf (by unfold f_SK_appendNamed_5; exact fun h => nomatch h)
  | succ k ih =>
    intro x1 x2 x3 t hf H locs ls w hl
    unfold f_SK_appendNamed_5 at hf
    refine lv_iload_n hx hb d_SK_appendNamed_5 rfl (lv_at hl 3 rfl) ?_
    refine lv_aload_n hx hb d_SK_appendNamed_6 rfl (lv_at hl 0 rfl) ?_
    refine mz_get E w 30 10 (v := .int (mz_gI t 30 10)) (by decide) rfl rfl ii_8 (by decide) (Nat.le_of_ble_eq_true rfl) k_346 rfl d_SK_appendNamed_7 ?_
    refine lv_icmp_le (tgt := 76) hx hb d_SK_appendNamed_10 (by decide) (fun hc1 => ?_) (fun hc1 => ?_)
    · have hf := mz_t hc1 hf
      refine lv_aload_n hx hb d_SK_appendNamed_76 rfl (lv_at hl 0 rfl) ?_
      refine lv_aload_n hx hb d_SK_appendNamed_77 rfl (lv_at hl 0 rfl) ?_
      refine mz_get E w 30 10 (v := .int (mz_gI t 30 10)) (by decide) rfl rfl ii_8 (by decide) (Nat.le_of_ble_eq_true rfl) k_346 rfl d_SK_appendNamed_78 ?_
      obtain ⟨q2, hq3, hf⟩ := mz_bd hf
      refine mz_callV E w (k := 30) (As := [.int (mz_gI t 30 10)]) (rest := []) (c_SK_frameAt hSK l n (mz_gI t 30 10) t q2 hq3) (by decide) rfl rfl k_488 k_13 k_485 k_486 k_487 hm_SK_frameAt ⟨⟨rfl, rfl⟩, Nat.le_of_ble_eq_true rfl, Nat.le_of_ble_eq_true rfl⟩ rfl hl.1 rfl (Nat.le_of_ble_eq_true rfl) d_SK_appendNamed_81 ⟨Nat.zero_le _, Nat.zero_le _⟩ (st1 := [.ref (ad q2.1)]) rfl (fun H locs w => ?_)
      obtain ⟨hr4, hf⟩ := mz_gd hf
      refine lv_astore_n (lv' := [(3, .ref (ad q2.1)), (0, .ref (ad 30)), (1, .int x1), (2, .int x2)]) hx hb d_SK_appendNamed_84 rfl hl (by decide) rfl (fun ls hl => ?_)
      refine lv_aload_n hx hb d_SK_appendNamed_85 rfl (lv_at hl 1 rfl) ?_
      refine mz_get E w 30 10 (v := .int (mz_gI q2.2 30 10)) (by decide) rfl rfl ii_8 (by decide) (Nat.le_of_ble_eq_true rfl) k_346 rfl d_SK_appendNamed_86 ?_
      refine lv_if_ne (tgt := 96) hx hb d_SK_appendNamed_89 (by decide) (fun hc5 => ?_) (fun hc5 => ?_)
      · have hf := mz_f hc5 hf
        refine lv_aload_n hx hb d_SK_appendNamed_96 rfl (lv_at hl 1 rfl) ?_
        refine mz_get E w 30 1 (v := .ref (ad 18)) (by decide) rfl rfl ii_8 (by decide) (Nat.le_of_ble_eq_true rfl) k_332 rfl d_SK_appendNamed_97 ?_
        refine lv_aload_n hx hb d_SK_appendNamed_100 rfl (lv_at hl 0 rfl) ?_
        refine mz_get E w q2.1 7 (v := .int (mz_gI q2.2 q2.1 7)) (mz_fN hr4) (mz_tC_f hr4) rfl ii_10 (by decide) (Nat.le_of_ble_eq_true rfl) k_288 rfl d_SK_appendNamed_101 ?_
        refine lv_iload_n hx hb d_SK_appendNamed_104 rfl (lv_at hl 2 rfl) ?_
        refine lv_iload_n hx hb d_SK_appendNamed_105 rfl (lv_at hl 3 rfl) ?_
        obtain ⟨q6, hq7, hf⟩ := mz_bd hf
        refine mz_callV E w (k := 18) (As := [.int (mz_gI q2.2 q2.1 7), .int x1, .int x2]) (rest := []) (c_MA_findParameter hSK l n (mz_gI q2.2 q2.1 7) x1 x2 q2.2 q6 hq7) (by decide) rfl rfl k_694 k_12 k_691 k_692 k_693 hm_MA_findParameter ⟨⟨rfl, rfl⟩, Nat.le_of_ble_eq_true rfl, Nat.le_of_ble_eq_true rfl⟩ rfl hl.1 rfl (Nat.le_of_ble_eq_true rfl) d_SK_appendNamed_106 ⟨Nat.zero_le _, Nat.zero_le _⟩ (st1 := [.int q6.1]) rfl (fun H locs w => ?_)
        exact b_SK_appendNamed_109 E n q2.1 q6.1 q6.2 hf _ _ _ w (lv_sub hl [1, 0] rfl)
      · have hf := mz_t hc5 hf
        refine lv_iconst (v := (-1 : Int32)) hx hb d_SK_appendNamed_92 (by decide) ?_
        refine lv_goto (tgt := 109) hx hb d_SK_appendNamed_93 (by decide) ?_
        exact b_SK_appendNamed_109 E n q2.1 (-1 : Int32) q2.2 hf _ _ _ w (lv_sub hl [1, 0] rfl)
    · have hf := mz_f hc1 hf
      refine lv_aload_n hx hb d_SK_appendNamed_13 rfl (lv_at hl 0 rfl) ?_
      refine lv_iload_n hx hb d_SK_appendNamed_14 rfl (lv_at hl 3 rfl) ?_
      obtain ⟨q16, hq17, hf⟩ := mz_bd hf
      refine mz_callV E w (k := 30) (As := [.int x3]) (rest := []) (c_SK_frameAt hSK l n x3 t q16 hq17) (by decide) rfl rfl k_488 k_13 k_485 k_486 k_487 hm_SK_frameAt ⟨⟨rfl, rfl⟩, Nat.le_of_ble_eq_true rfl, Nat.le_of_ble_eq_true rfl⟩ rfl hl.1 rfl (Nat.le_of_ble_eq_true rfl) d_SK_appendNamed_15 ⟨Nat.zero_le _, Nat.zero_le _⟩ (st1 := [.ref (ad q16.1)]) rfl (fun H locs w => ?_)
      obtain ⟨hr18, hf⟩ := mz_gd hf
      refine lv_astore (lv' := [(4, .ref (ad q16.1)), (0, .ref (ad 30)), (1, .int x1), (2, .int x2), (3, .int x3)]) hx hb d_SK_appendNamed_18 hl (by decide) rfl (fun ls hl => ?_)
      refine lv_aload hx hb d_SK_appendNamed_20 (lv_at hl 0 rfl) ?_
      refine mz_get E w q16.1 0 (v := .ref (en (mz_gI q16.2 q16.1 0).toNatClampNeg)) (mz_fN hr18) (mz_tC_f hr18) rfl ii_10 (by decide) (Nat.le_of_ble_eq_true rfl) k_272 rfl d_SK_appendNamed_22 ?_
      refine mz_gse E w (12 : Int32) (by decide) rfl k_507 d_SK_appendNamed_25 ?_
      obtain ⟨hg20, hf⟩ := mz_gd hf
      refine mz_ane E (tgt := 70) hg20 d_SK_appendNamed_28 (by decide) (fun hc19 => ?_) (fun hc19 => ?_)
      · have hf := mz_f hc19 hf
        exact b_SK_appendNamed_70 E n (f_SK_appendNamed_5 n k) ih x1 x2 x3 q16.2 hf _ _ _ w (lv_sub hl [1, 2, 3, 4] rfl)
      · have hf := mz_t hc19 hf
        refine lv_aload_n hx hb d_SK_appendNamed_31 rfl (lv_at hl 1 rfl) ?_
        refine mz_get E w 30 0 (v := .ref (ad 1)) (by decide) rfl rfl ii_8 (by decide) (Nat.le_of_ble_eq_true rfl) k_331 rfl d_SK_appendNamed_32 ?_
        refine lv_aload hx hb d_SK_appendNamed_35 (lv_at hl 0 rfl) ?_
        refine mz_get E w q16.1 9 (v := .int (mz_gI q16.2 q16.1 9)) (mz_fN hr18) (mz_tC_f hr18) rfl ii_10 (by decide) (Nat.le_of_ble_eq_true rfl) k_291 rfl d_SK_appendNamed_37 ?_
        refine lv_aload hx hb d_SK_appendNamed_40 (lv_at hl 0 rfl) ?_
        refine mz_get E w q16.1 10 (v := .int (mz_gI q16.2 q16.1 10)) (mz_fN hr18) (mz_tC_f hr18) rfl ii_10 (by decide) (Nat.le_of_ble_eq_true rfl) k_293 rfl d_SK_appendNamed_42 ?_
        refine lv_iload_n hx hb d_SK_appendNamed_45 rfl (lv_at hl 2 rfl) ?_
        refine lv_iload_n hx hb d_SK_appendNamed_46 rfl (lv_at hl 3 rfl) ?_
        obtain ⟨q21, hq22, hf⟩ := mz_bd hf
        refine mz_callV E w (k := 1) (As := [.int (mz_gI q16.2 q16.1 9), .int (mz_gI q16.2 q16.1 10), .int x1, .int x2]) (rest := []) (c_SI_same hSK l n (mz_gI q16.2 q16.1 9) (mz_gI q16.2 q16.1 10) x1 x2 q16.2 q21 hq22) (by decide) rfl rfl k_678 k_2 k_675 k_676 k_677 hm_SI_same ⟨⟨rfl, rfl⟩, Nat.le_of_ble_eq_true rfl, Nat.le_of_ble_eq_true rfl⟩ rfl hl.1 rfl (Nat.le_of_ble_eq_true rfl) d_SK_appendNamed_47 ⟨Nat.zero_le _, Nat.zero_le _⟩ (st1 := [.int q21.1]) rfl (fun H locs w => ?_)
        refine lv_if_eq (tgt := 70) hx hb d_SK_appendNamed_50 (by decide) (fun hc23 => ?_) (fun hc23 => ?_)
        · have hf := mz_t hc23 hf
          exact b_SK_appendNamed_70 E n (f_SK_appendNamed_5 n k) ih x1 x2 x3 q21.2 hf _ _ _ w (lv_sub hl [1, 2, 3, 4] rfl)
        · have hf := mz_f hc23 hf
          refine lv_aload_n hx hb d_SK_appendNamed_53 rfl (lv_at hl 1 rfl) ?_
          refine lv_aload hx hb d_SK_appendNamed_54 (lv_at hl 0 rfl) ?_
          refine lv_iconst (v := (0 : Int32)) hx hb d_SK_appendNamed_56 (by decide) ?_
          obtain ⟨q24, hq25, hf⟩ := mz_bd hf
          refine mz_callV E w (k := q16.1) (As := [.int (0 : Int32)]) (rest := [.ref (ad 30)]) (c_FR_argumentStart hSK l n q16.1 (0 : Int32) q21.2 q24 hq25) (mz_fN hr18) (mz_tC_f hr18) rfl k_682 k_14 k_679 k_680 k_681 hm_FR_argumentStart ⟨⟨rfl, rfl⟩, Nat.le_of_ble_eq_true rfl, Nat.le_of_ble_eq_true rfl⟩ rfl hl.1 rfl (Nat.le_of_ble_eq_true rfl) d_SK_appendNamed_57 ⟨Nat.zero_le _, Nat.zero_le _⟩ (st1 := [.int q24.1, .ref (ad 30)]) rfl (fun H locs w => ?_)
          refine lv_aload hx hb d_SK_appendNamed_60 (lv_at hl 0 rfl) ?_
          refine lv_iconst (v := (0 : Int32)) hx hb d_SK_appendNamed_62 (by decide) ?_
          obtain ⟨q26, hq27, hf⟩ := mz_bd hf
          refine mz_callV E w (k := q16.1) (As := [.int (0 : Int32)]) (rest := [.int q24.1, .ref (ad 30)]) (c_FR_argumentStop hSK l n q16.1 (0 : Int32) q24.2 q26 hq27) (mz_fN hr18) (mz_tC_f hr18) rfl k_686 k_14 k_683 k_684 k_685 hm_FR_argumentStop ⟨⟨rfl, rfl⟩, Nat.le_of_ble_eq_true rfl, Nat.le_of_ble_eq_true rfl⟩ rfl hl.1 rfl (Nat.le_of_ble_eq_true rfl) d_SK_appendNamed_63 ⟨Nat.zero_le _, Nat.zero_le _⟩ (st1 := [.int q26.1, .int q24.1, .ref (ad 30)]) rfl (fun H locs w => ?_)
          obtain ⟨q28, hq29, hf⟩ := mz_bd hf
          refine mz_callV E w (k := 30) (As := [.int q24.1, .int q26.1]) (rest := []) (c_SK_append hSK l n q24.1 q26.1 q26.2 q28 hq29) (by decide) rfl rfl k_690 k_13 k_687 k_689 ks_14 hm_SK_append ⟨⟨rfl, rfl⟩, Nat.le_of_ble_eq_true rfl, Nat.le_of_ble_eq_true rfl⟩ rfl hl.1 rfl (Nat.le_of_ble_eq_true rfl) d_SK_appendNamed_66 ⟨Nat.zero_le _, Nat.zero_le _⟩ (st1 := []) rfl (fun H locs w => ?_)
          obtain rfl := Option.some.inj hf
          exact mz_vret E w rfl d_SK_appendNamed_69
set_option maxRecDepth 100000 in
set_option maxHeartbeats 4000000 in
theorem c_SK_appendNamed {dC : Nat → ClassId} {dI : Nat → Nat → Nat} {ad en adK adV : Nat → Nat} {tA tS : Nat} {oF : Option Nat} {ca : Nat → ClassId} (hSK : mz_SK (mz_SC ad en adK adV tA tS oF) ad 80) (l : Launch) (n : Nat) (x1 : Int32) (x2 : Int32) (t : mz_St) (res : mz_St) (hf : f_SK_appendNamed n x1 x2 t = some res) : mz_C (mz_SC ad en adK adV tA tS oF) mz_tC 80 mz_cl dC dI ad en ca l y_SK_appendNamed prog_13_method_15_code 5 none (r_SK_appendNamed) [.ref (ad 30), .int x1, .int x2] t none res := by
  unfold f_SK_appendNamed at hf
  refine mz_met hSK (by decide) (Nat.le_of_ble_eq_true rfl) ?_
  intro p e s m args below meth c ls E w hl
  obtain ⟨hx, hb, hml, hown, hcx, -, -, hSX, -, -, -⟩ := id E
  have hl : lv_has ls 5 [(0, .ref (ad 30)), (1, .int x1), (2, .int x2)] := hl
  refine lv_aload_n hx hb d_SK_appendNamed_0 rfl (lv_at hl 0 rfl) ?_
  refine mz_get E w 30 4 (v := .int (mz_gI t 30 4)) (by decide) rfl rfl ii_8 (by decide) (Nat.le_of_ble_eq_true rfl) k_335 rfl d_SK_appendNamed_1 ?_
  refine lv_istore_n (lv' := [(3, .int (mz_gI t 30 4)), (0, .ref (ad 30)), (1, .int x1), (2, .int x2)]) hx hb d_SK_appendNamed_4 rfl hl (by decide) rfl (fun ls hl => ?_)
  exact b_SK_appendNamed_5 E n n x1 x2 (mz_gI t 30 4) t hf _ _ _ w (lv_sub hl [1, 2, 3, 0] rfl)

/-! MacroHouse$Stack.replaceMark(II)I -/
abbrev r_SK_replaceMark : Room := { frames := 3, cells := 0, slots := 0, locals := 74 }
def f_SK_replaceMark_82 (n : Nat) (x1 : Int32) (s1 : Int32) (t : mz_St) : Option (Int32 × mz_St) := (f_SK_appendNumber n s1 t).bind fun q14 => some ((x1 + (1 : Int32)), q14)
def f_SK_replaceMark_47 (n : Nat) (x1 : Int32) (s1 : Int32) (t : mz_St) : Option (Int32 × mz_St) := (f_SK_appendNumber n s1 t).bind fun q23 => some ((x1 + (1 : Int32)), q23)
def f_SK_replaceMark_17 (n : Nat) (x1 : Int32) (x2 : Int32) (s0 : Int32) (t : mz_St) : Option (Int32 × mz_St) := if s0 = (64 : Int32) then (if (mz_gI t 30 10) = 0 then (f_SK_replaceMark_47 n x1 (-1 : Int32) t) else ((f_SK_frameAt n (mz_gI t 30 10) t).bind fun q20 => if mz_fr q20.1 then (f_SK_replaceMark_47 n x1 (mz_gI q20.2 q20.1 8) q20.2) else none)) else (if s0 = (63 : Int32) then ((f_SK_top n t).bind fun q8 => if mz_fr q8.1 then ((f_FR_repeats n q8.1 q8.2).bind fun q11 => if q11.1 = 0 then (f_SK_replaceMark_82 n x1 (-1 : Int32) q11.2) else ((f_SK_top n q11.2).bind fun q16 => if mz_fr q16.1 then (f_SK_replaceMark_82 n x1 (mz_gI q16.2 q16.1 5) q16.2) else none)) else none) else ((f_SI_wordEnd n x1 x2 t).bind fun q4 => (f_SK_appendNamed n x1 q4.1 q4.2).bind fun q6 => some (q4.1, q6)))
def f_SK_replaceMark (n : Nat) (x1 : Int32) (x2 : Int32) (t : mz_St) : Option (Int32 × mz_St) := if x2 ≤ x1 then (f_SK_replaceMark_17 n x1 x2 (-1 : Int32) t) else ((f_SI_at n x1 t).bind fun q25 => f_SK_replaceMark_17 n x1 x2 q25.1 q25.2)
set_option maxRecDepth 100000 in
set_option maxHeartbeats 4000000 in
theorem b_SK_replaceMark_82 {dC : Nat → ClassId} {dI : Nat → Nat → Nat} {ad en adK adV : Nat → Nat} {tA tS : Nat} {oF : Option Nat} {ca : Nat → ClassId} {p : Program} {l : Launch} {e : Env} {s : State} {m : MethodId} {args : Array Value} {below : List Frame} {meth : Method} {c : Code} {res : (Int32 × mz_St)} (E : mz_En (mz_SC ad en adK adV tA tS oF) 80 mz_cl dC dI ad ca p s m meth c prog_13_method_14_code 5 "MacroHouse$Stack" (some (.int))) (n : Nat) : ∀ (x1 : Int32) (s1 : Int32) (t : mz_St), f_SK_replaceMark_82 n x1 s1 t = some res → ∀ (H : Heap) (locs : List Loc) (ls : Array Slot), mz_Wd mz_tC 80 mz_cl dC dI ad en ca s t H locs → lv_has ls 5 [(1, .int x1)] → W p l e (r_SK_replaceMark) s m args below meth c H locs 0 0 (MQ below (mz_Q (mz_SC ad en adK adV tA tS oF) mz_tC 80 mz_cl dC dI ad en ca (some (.int res.1)) res.2) args s 0 0 (mz_A ad 80)) (F0 m 82 ls [.int s1, .ref (ad 30)]) := by
  obtain ⟨hx, hb, hml, hown, hcx, -, -, hSX, -, -, hSK⟩ := id E
  intro x1 s1 t hf H locs ls w hl
  unfold f_SK_replaceMark_82 at hf
  obtain ⟨q14, hq15, hf⟩ := mz_bd hf
  refine mz_callV E w (k := 30) (As := [.int s1]) (rest := []) (c_SK_appendNumber hSK l n s1 t q14 hq15) (by decide) rfl rfl k_653 k_13 k_650 k_652 ks_11 hm_SK_appendNumber ⟨⟨rfl, rfl⟩, Nat.le_of_ble_eq_true rfl, Nat.le_of_ble_eq_true rfl⟩ rfl hl.1 rfl (Nat.le_of_ble_eq_true rfl) d_SK_replaceMark_82 ⟨Nat.zero_le _, Nat.zero_le _⟩ (st1 := []) rfl (fun H locs w => ?_)
  refine lv_iload_n hx hb d_SK_replaceMark_85 rfl (lv_at hl 0 rfl) ?_
  refine lv_iconst (v := (1 : Int32)) hx hb d_SK_replaceMark_86 (by decide) ?_
  refine lv_iadd hx hb d_SK_replaceMark_87 ?_
  obtain rfl := Option.some.inj hf
  exact mz_iret E w rfl d_SK_replaceMark_88
set_option maxRecDepth 100000 in
set_option maxHeartbeats 4000000 in
theorem b_SK_replaceMark_47 {dC : Nat → ClassId} {dI : Nat → Nat → Nat} {ad en adK adV : Nat → Nat} {tA tS : Nat} {oF : Option Nat} {ca : Nat → ClassId} {p : Program} {l : Launch} {e : Env} {s : State} {m : MethodId} {args : Array Value} {below : List Frame} {meth : Method} {c : Code} {res : (Int32 × mz_St)} (E : mz_En (mz_SC ad en adK adV tA tS oF) 80 mz_cl dC dI ad ca p s m meth c prog_13_method_14_code 5 "MacroHouse$Stack" (some (.int))) (n : Nat) : ∀ (x1 : Int32) (s1 : Int32) (t : mz_St), f_SK_replaceMark_47 n x1 s1 t = some res → ∀ (H : Heap) (locs : List Loc) (ls : Array Slot), mz_Wd mz_tC 80 mz_cl dC dI ad en ca s t H locs → lv_has ls 5 [(1, .int x1)] → W p l e (r_SK_replaceMark) s m args below meth c H locs 0 0 (MQ below (mz_Q (mz_SC ad en adK adV tA tS oF) mz_tC 80 mz_cl dC dI ad en ca (some (.int res.1)) res.2) args s 0 0 (mz_A ad 80)) (F0 m 47 ls [.int s1, .ref (ad 30)]) := by
  obtain ⟨hx, hb, hml, hown, hcx, -, -, hSX, -, -, hSK⟩ := id E
  intro x1 s1 t hf H locs ls w hl
  unfold f_SK_replaceMark_47 at hf
  obtain ⟨q23, hq24, hf⟩ := mz_bd hf
  refine mz_callV E w (k := 30) (As := [.int s1]) (rest := []) (c_SK_appendNumber hSK l n s1 t q23 hq24) (by decide) rfl rfl k_653 k_13 k_650 k_652 ks_11 hm_SK_appendNumber ⟨⟨rfl, rfl⟩, Nat.le_of_ble_eq_true rfl, Nat.le_of_ble_eq_true rfl⟩ rfl hl.1 rfl (Nat.le_of_ble_eq_true rfl) d_SK_replaceMark_47 ⟨Nat.zero_le _, Nat.zero_le _⟩ (st1 := []) rfl (fun H locs w => ?_)
  refine lv_iload_n hx hb d_SK_replaceMark_50 rfl (lv_at hl 0 rfl) ?_
  refine lv_iconst (v := (1 : Int32)) hx hb d_SK_replaceMark_51 (by decide) ?_
  refine lv_iadd hx hb d_SK_replaceMark_52 ?_
  obtain rfl := Option.some.inj hf
  exact mz_iret E w rfl d_SK_replaceMark_53
set_option maxRecDepth 100000 in
set_option maxHeartbeats 4000000 in
theorem b_SK_replaceMark_17 {dC : Nat → ClassId} {dI : Nat → Nat → Nat} {ad en adK adV : Nat → Nat} {tA tS : Nat} {oF : Option Nat} {ca : Nat → ClassId} {p : Program} {l : Launch} {e : Env} {s : State} {m : MethodId} {args : Array Value} {below : List Frame} {meth : Method} {c : Code} {res : (Int32 × mz_St)} (E : mz_En (mz_SC ad en adK adV tA tS oF) 80 mz_cl dC dI ad ca p s m meth c prog_13_method_14_code 5 "MacroHouse$Stack" (some (.int))) (n : Nat) : ∀ (x1 : Int32) (x2 : Int32) (s0 : Int32) (t : mz_St), f_SK_replaceMark_17 n x1 x2 s0 t = some res → ∀ (H : Heap) (locs : List Loc) (ls : Array Slot), mz_Wd mz_tC 80 mz_cl dC dI ad en ca s t H locs → lv_has ls 5 [(0, .ref (ad 30)), (1, .int x1), (2, .int x2)] → W p l e (r_SK_replaceMark) s m args below meth c H locs 0 0 (MQ below (mz_Q (mz_SC ad en adK adV tA tS oF) mz_tC 80 mz_cl dC dI ad en ca (some (.int res.1)) res.2) args s 0 0 (mz_A ad 80)) (F0 m 17 ls [.int s0]) := by
  obtain ⟨hx, hb, hml, hown, hcx, -, -, hSX, -, -, hSK⟩ := id E
  intro x1 x2 s0 t hf H locs ls w hl
  unfold f_SK_replaceMark_17 at hf
  refine lv_istore_n (lv' := [(3, .int s0), (0, .ref (ad 30)), (1, .int x1), (2, .int x2)]) hx hb d_SK_replaceMark_17 rfl hl (by decide) rfl (fun ls hl => ?_)
  refine lv_iload_n hx hb d_SK_replaceMark_18 rfl (lv_at hl 0 rfl) ?_
  refine lv_bipush (v := (64 : Int32)) hx hb d_SK_replaceMark_19 (by decide) ?_
  refine lv_icmp_ne (tgt := 54) hx hb d_SK_replaceMark_21 (by decide) (fun hc2 => ?_) (fun hc2 => ?_)
  · have hf := mz_f hc2 hf
    refine lv_iload_n hx hb d_SK_replaceMark_54 rfl (lv_at hl 0 rfl) ?_
    refine lv_bipush (v := (63 : Int32)) hx hb d_SK_replaceMark_55 (by decide) ?_
    refine lv_icmp_ne (tgt := 89) hx hb d_SK_replaceMark_57 (by decide) (fun hc3 => ?_) (fun hc3 => ?_)
    · have hf := mz_f hc3 hf
      refine lv_aload_n hx hb d_SK_replaceMark_89 rfl (lv_at hl 1 rfl) ?_
      refine mz_get E w 30 0 (v := .ref (ad 1)) (by decide) rfl rfl ii_8 (by decide) (Nat.le_of_ble_eq_true rfl) k_331 rfl d_SK_replaceMark_90 ?_
      refine lv_iload_n hx hb d_SK_replaceMark_93 rfl (lv_at hl 2 rfl) ?_
      refine lv_iload_n hx hb d_SK_replaceMark_94 rfl (lv_at hl 3 rfl) ?_
      obtain ⟨q4, hq5, hf⟩ := mz_bd hf
      refine mz_callV E w (k := 1) (As := [.int x1, .int x2]) (rest := []) (c_SI_wordEnd hSK l n x1 x2 t q4 hq5) (by decide) rfl rfl k_566 k_2 k_670 k_564 k_565 hm_SI_wordEnd ⟨⟨rfl, rfl⟩, Nat.le_of_ble_eq_true rfl, Nat.le_of_ble_eq_true rfl⟩ rfl hl.1 rfl (Nat.le_of_ble_eq_true rfl) d_SK_replaceMark_95 ⟨Nat.zero_le _, Nat.zero_le _⟩ (st1 := [.int q4.1]) rfl (fun H locs w => ?_)
      refine lv_istore (lv' := [(4, .int q4.1), (3, .int s0), (0, .ref (ad 30)), (1, .int x1), (2, .int x2)]) hx hb d_SK_replaceMark_98 hl (by decide) rfl (fun ls hl => ?_)
      refine lv_aload_n hx hb d_SK_replaceMark_100 rfl (lv_at hl 2 rfl) ?_
      refine lv_iload_n hx hb d_SK_replaceMark_101 rfl (lv_at hl 3 rfl) ?_
      refine lv_iload hx hb d_SK_replaceMark_102 (lv_at hl 0 rfl) ?_
      obtain ⟨q6, hq7, hf⟩ := mz_bd hf
      refine mz_callV E w (k := 30) (As := [.int x1, .int q4.1]) (rest := []) (c_SK_appendNamed hSK l n x1 q4.1 q4.2 q6 hq7) (by decide) rfl rfl k_674 k_13 k_671 k_673 ks_13 hm_SK_appendNamed ⟨⟨rfl, rfl⟩, Nat.le_of_ble_eq_true rfl, Nat.le_of_ble_eq_true rfl⟩ rfl hl.1 rfl (Nat.le_of_ble_eq_true rfl) d_SK_replaceMark_104 ⟨Nat.zero_le _, Nat.zero_le _⟩ (st1 := []) rfl (fun H locs w => ?_)
      refine lv_iload hx hb d_SK_replaceMark_107 (lv_at hl 0 rfl) ?_
      obtain rfl := Option.some.inj hf
      exact mz_iret E w rfl d_SK_replaceMark_109
    · have hf := mz_t hc3 hf
      refine lv_aload_n hx hb d_SK_replaceMark_60 rfl (lv_at hl 1 rfl) ?_
      refine lv_aload_n hx hb d_SK_replaceMark_61 rfl (lv_at hl 1 rfl) ?_
      obtain ⟨q8, hq9, hf⟩ := mz_bd hf
      refine mz_callV E w (k := 30) (As := []) (rest := [.ref (ad 30)]) (c_SK_top hSK l n t q8 hq9) (by decide) rfl rfl k_484 k_13 k_505 k_482 k_483 hm_SK_top ⟨⟨rfl, rfl⟩, Nat.le_of_ble_eq_true rfl, Nat.le_of_ble_eq_true rfl⟩ rfl hl.1 rfl (Nat.le_of_ble_eq_true rfl) d_SK_replaceMark_62 ⟨Nat.zero_le _, Nat.zero_le _⟩ (st1 := [.ref (ad q8.1), .ref (ad 30)]) rfl (fun H locs w => ?_)
      obtain ⟨hr10, hf⟩ := mz_gd hf
      obtain ⟨q11, hq12, hf⟩ := mz_bd hf
      refine mz_callV E w (k := q8.1) (As := []) (rest := [.ref (ad 30)]) (c_FR_repeats hSK l n q8.1 q8.2 q11 hq12) (mz_fN hr10) (mz_tC_f hr10) rfl k_666 k_14 k_663 k_664 k_665 hm_FR_repeats ⟨⟨rfl, rfl⟩, Nat.le_of_ble_eq_true rfl, Nat.le_of_ble_eq_true rfl⟩ rfl hl.1 rfl (Nat.le_of_ble_eq_true rfl) d_SK_replaceMark_65 ⟨Nat.zero_le _, Nat.zero_le _⟩ (st1 := [.int q11.1, .ref (ad 30)]) rfl (fun H locs w => ?_)
      refine lv_if_eq (tgt := 81) hx hb d_SK_replaceMark_68 (by decide) (fun hc13 => ?_) (fun hc13 => ?_)
      · have hf := mz_t hc13 hf
        refine lv_iconst (v := (-1 : Int32)) hx hb d_SK_replaceMark_81 (by decide) ?_
        exact b_SK_replaceMark_82 E n x1 (-1 : Int32) q11.2 hf _ _ _ w (lv_sub hl [2] rfl)
      · have hf := mz_f hc13 hf
        refine lv_aload_n hx hb d_SK_replaceMark_71 rfl (lv_at hl 1 rfl) ?_
        obtain ⟨q16, hq17, hf⟩ := mz_bd hf
        refine mz_callV E w (k := 30) (As := []) (rest := [.ref (ad 30)]) (c_SK_top hSK l n q11.2 q16 hq17) (by decide) rfl rfl k_484 k_13 k_505 k_482 k_483 hm_SK_top ⟨⟨rfl, rfl⟩, Nat.le_of_ble_eq_true rfl, Nat.le_of_ble_eq_true rfl⟩ rfl hl.1 rfl (Nat.le_of_ble_eq_true rfl) d_SK_replaceMark_72 ⟨Nat.zero_le _, Nat.zero_le _⟩ (st1 := [.ref (ad q16.1), .ref (ad 30)]) rfl (fun H locs w => ?_)
        obtain ⟨hr18, hf⟩ := mz_gd hf
        refine mz_get E w q16.1 5 (v := .int (mz_gI q16.2 q16.1 5)) (mz_fN hr18) (mz_tC_f hr18) rfl ii_10 (by decide) (Nat.le_of_ble_eq_true rfl) k_284 rfl d_SK_replaceMark_75 ?_
        refine lv_goto (tgt := 82) hx hb d_SK_replaceMark_78 (by decide) ?_
        exact b_SK_replaceMark_82 E n x1 (mz_gI q16.2 q16.1 5) q16.2 hf _ _ _ w (lv_sub hl [2] rfl)
  · have hf := mz_t hc2 hf
    refine lv_aload_n hx hb d_SK_replaceMark_24 rfl (lv_at hl 1 rfl) ?_
    refine lv_aload_n hx hb d_SK_replaceMark_25 rfl (lv_at hl 1 rfl) ?_
    refine mz_get E w 30 10 (v := .int (mz_gI t 30 10)) (by decide) rfl rfl ii_8 (by decide) (Nat.le_of_ble_eq_true rfl) k_346 rfl d_SK_replaceMark_26 ?_
    refine lv_if_ne (tgt := 36) hx hb d_SK_replaceMark_29 (by decide) (fun hc19 => ?_) (fun hc19 => ?_)
    · have hf := mz_f hc19 hf
      refine lv_aload_n hx hb d_SK_replaceMark_36 rfl (lv_at hl 1 rfl) ?_
      refine lv_aload_n hx hb d_SK_replaceMark_37 rfl (lv_at hl 1 rfl) ?_
      refine mz_get E w 30 10 (v := .int (mz_gI t 30 10)) (by decide) rfl rfl ii_8 (by decide) (Nat.le_of_ble_eq_true rfl) k_346 rfl d_SK_replaceMark_38 ?_
      obtain ⟨q20, hq21, hf⟩ := mz_bd hf
      refine mz_callV E w (k := 30) (As := [.int (mz_gI t 30 10)]) (rest := [.ref (ad 30)]) (c_SK_frameAt hSK l n (mz_gI t 30 10) t q20 hq21) (by decide) rfl rfl k_488 k_13 k_485 k_486 k_487 hm_SK_frameAt ⟨⟨rfl, rfl⟩, Nat.le_of_ble_eq_true rfl, Nat.le_of_ble_eq_true rfl⟩ rfl hl.1 rfl (Nat.le_of_ble_eq_true rfl) d_SK_replaceMark_41 ⟨Nat.zero_le _, Nat.zero_le _⟩ (st1 := [.ref (ad q20.1), .ref (ad 30)]) rfl (fun H locs w => ?_)
      obtain ⟨hr22, hf⟩ := mz_gd hf
      refine mz_get E w q20.1 8 (v := .int (mz_gI q20.2 q20.1 8)) (mz_fN hr22) (mz_tC_f hr22) rfl ii_10 (by decide) (Nat.le_of_ble_eq_true rfl) k_290 rfl d_SK_replaceMark_44 ?_
      exact b_SK_replaceMark_47 E n x1 (mz_gI q20.2 q20.1 8) q20.2 hf _ _ _ w (lv_sub hl [2] rfl)
    · have hf := mz_t hc19 hf
      refine lv_iconst (v := (-1 : Int32)) hx hb d_SK_replaceMark_32 (by decide) ?_
      refine lv_goto (tgt := 47) hx hb d_SK_replaceMark_33 (by decide) ?_
      exact b_SK_replaceMark_47 E n x1 (-1 : Int32) t hf _ _ _ w (lv_sub hl [2] rfl)
set_option maxRecDepth 100000 in
set_option maxHeartbeats 4000000 in
theorem c_SK_replaceMark {dC : Nat → ClassId} {dI : Nat → Nat → Nat} {ad en adK adV : Nat → Nat} {tA tS : Nat} {oF : Option Nat} {ca : Nat → ClassId} (hSK : mz_SK (mz_SC ad en adK adV tA tS oF) ad 80) (l : Launch) (n : Nat) (x1 : Int32) (x2 : Int32) (t : mz_St) (res : (Int32 × mz_St)) (hf : f_SK_replaceMark n x1 x2 t = some res) : mz_C (mz_SC ad en adK adV tA tS oF) mz_tC 80 mz_cl dC dI ad en ca l y_SK_replaceMark prog_13_method_14_code 5 (some (.int)) (r_SK_replaceMark) [.ref (ad 30), .int x1, .int x2] t (some (.int res.1)) res.2 := by
  unfold f_SK_replaceMark at hf
  refine mz_met hSK (by decide) (Nat.le_of_ble_eq_true rfl) ?_
  intro p e s m args below meth c ls E w hl
  obtain ⟨hx, hb, hml, hown, hcx, -, -, hSX, -, -, -⟩ := id E
  have hl : lv_has ls 5 [(0, .ref (ad 30)), (1, .int x1), (2, .int x2)] := hl
  refine lv_iload_n hx hb d_SK_replaceMark_0 rfl (lv_at hl 1 rfl) ?_
  refine lv_iload_n hx hb d_SK_replaceMark_1 rfl (lv_at hl 2 rfl) ?_
  refine lv_icmp_ge (tgt := 16) hx hb d_SK_replaceMark_2 (by decide) (fun hc1 => ?_) (fun hc1 => ?_)
  · have hf := mz_t hc1 hf
    refine lv_iconst (v := (-1 : Int32)) hx hb d_SK_replaceMark_16 (by decide) ?_
    exact b_SK_replaceMark_17 E n x1 x2 (-1 : Int32) t hf _ _ _ w (lv_sub hl [0, 1, 2] rfl)
  · have hf := mz_f hc1 hf
    refine lv_aload_n hx hb d_SK_replaceMark_5 rfl (lv_at hl 0 rfl) ?_
    refine mz_get E w 30 0 (v := .ref (ad 1)) (by decide) rfl rfl ii_8 (by decide) (Nat.le_of_ble_eq_true rfl) k_331 rfl d_SK_replaceMark_6 ?_
    refine lv_iload_n hx hb d_SK_replaceMark_9 rfl (lv_at hl 1 rfl) ?_
    obtain ⟨q25, hq26, hf⟩ := mz_bd hf
    refine mz_callV E w (k := 1) (As := [.int x1]) (rest := []) (c_SI_at hSK l n x1 t q25 hq26) (by decide) rfl rfl k_450 k_2 k_645 k_448 k_449 hm_SI_at ⟨⟨rfl, rfl⟩, Nat.le_of_ble_eq_true rfl, Nat.le_of_ble_eq_true rfl⟩ rfl hl.1 rfl (Nat.le_of_ble_eq_true rfl) d_SK_replaceMark_10 ⟨Nat.zero_le _, Nat.zero_le _⟩ (st1 := [.int q25.1]) rfl (fun H locs w => ?_)
    refine lv_goto (tgt := 17) hx hb d_SK_replaceMark_13 (by decide) ?_
    exact b_SK_replaceMark_17 E n x1 x2 q25.1 q25.2 hf _ _ _ w (lv_sub hl [0, 1, 2] rfl)

/-! MacroHouse$Stack.replace(II)I -/
abbrev r_SK_replace : Room := { frames := 4, cells := 0, slots := 0, locals := 98 }
def f_SK_replace_45 (n : Nat) : Nat → Int32 → Int32 → mz_St → Option (Int32 × mz_St)
  | 0, _, _, _ => none
  | k + 1, x2, x3, t => if x2 ≤ x3 then (if (mz_gI t 30 9) = 0 then (if ((mz_gI t 30 8) - (mz_gI t 30 7)) ≤ (300 : Int32) then (some ((0 : Int32), t)) else (some ((6 : Int32), t))) else (some ((1 : Int32), t))) else ((f_SI_at n x3 t).bind fun q10 => if q10.1 = (92 : Int32) then ((f_SK_replaceMark n (x3 + (1 : Int32)) x2 q10.2).bind fun q15 => (f_SK_replace_45 n k) x2 (if (x3 + (1 : Int32)) < q15.1 then q15.1 else (x3 + (1 : Int32))) q15.2) else ((f_SK_append n x3 (x3 + (1 : Int32)) q10.2).bind fun q13 => (f_SK_replace_45 n k) x2 (x3 + (1 : Int32)) q13))
def f_SK_replace (n : Nat) (x1 : Int32) (x2 : Int32) (t : mz_St) : Option (Int32 × mz_St) := mz_let (mz_pI t 30 7 ((3000 : Int32) + ((if (0 : Int32) < ((mz_gI t 30 4) - (1 : Int32)) then ((mz_gI t 30 4) - (1 : Int32)) else (0 : Int32)) * (300 : Int32)))) fun t1 => mz_let (mz_pI t1 30 8 (mz_gI t1 30 7)) fun t2 => mz_let (mz_pI t2 30 9 (0 : Int32)) fun t3 => (f_SK_macroDepth n t3).bind fun q4 => mz_let (mz_pI q4.2 30 10 q4.1) fun t6 => f_SK_replace_45 n n x2 x1 t6
set_option maxRecDepth 100000 in
set_option maxHeartbeats 4000000 in
theorem b_SK_replace_45 {dC : Nat → ClassId} {dI : Nat → Nat → Nat} {ad en adK adV : Nat → Nat} {tA tS : Nat} {oF : Option Nat} {ca : Nat → ClassId} {p : Program} {l : Launch} {e : Env} {s : State} {m : MethodId} {args : Array Value} {below : List Frame} {meth : Method} {c : Code} {res : (Int32 × mz_St)} (E : mz_En (mz_SC ad en adK adV tA tS oF) 80 mz_cl dC dI ad ca p s m meth c prog_13_method_13_code 4 "MacroHouse$Stack" (some (.int))) (n : Nat) (k : Nat) : ∀ (x2 : Int32) (x3 : Int32) (t : mz_St), f_SK_replace_45 n k x2 x3 t = some res → ∀ (H : Heap) (locs : List Loc) (ls : Array Slot), mz_Wd mz_tC 80 mz_cl dC dI ad en ca s t H locs → lv_has ls 4 [(0, .ref (ad 30)), (2, .int x2), (3, .int x3)] → W p l e (r_SK_replace) s m args below meth c H locs 0 0 (MQ below (mz_Q (mz_SC ad en adK adV tA tS oF) mz_tC 80 mz_cl dC dI ad en ca (some (.int res.1)) res.2) args s 0 0 (mz_A ad 80)) (F0 m 45 ls []) := by
  obtain ⟨hx, hb, hml, hown, hcx, -, -, hSX, -, -, hSK⟩ := id E
  induction k with
  | zero => intro x2 x3 t hf; exact absurd hf (by unfold f_SK_replace_45; exact fun h => nomatch h)
  | succ k ih =>
    intro x2 x3 t hf H locs ls w hl
    unfold f_SK_replace_45 at hf
    refine lv_iload_n hx hb d_SK_replace_45 rfl (lv_at hl 2 rfl) ?_
    refine lv_iload_n hx hb d_SK_replace_46 rfl (lv_at hl 1 rfl) ?_
    refine lv_icmp_ge (tgt := 95) hx hb d_SK_replace_47 (by decide) (fun hc7 => ?_) (fun hc7 => ?_)
    · have hf := mz_t hc7 hf
      refine lv_aload_n hx hb d_SK_replace_95 rfl (lv_at hl 0 rfl) ?_
      refine mz_get E w 30 9 (v := .int (mz_gI t 30 9)) (by decide) rfl rfl ii_8 (by decide) (Nat.le_of_ble_eq_true rfl) k_345 rfl d_SK_replace_96 ?_
      refine lv_if_eq (tgt := 104) hx hb d_SK_replace_99 (by decide) (fun hc8 => ?_) (fun hc8 => ?_)
      · have hf := mz_t hc8 hf
        refine lv_aload_n hx hb d_SK_replace_104 rfl (lv_at hl 0 rfl) ?_
        refine mz_get E w 30 8 (v := .int (mz_gI t 30 8)) (by decide) rfl rfl ii_8 (by decide) (Nat.le_of_ble_eq_true rfl) k_344 rfl d_SK_replace_105 ?_
        refine lv_aload_n hx hb d_SK_replace_108 rfl (lv_at hl 0 rfl) ?_
        refine mz_get E w 30 7 (v := .int (mz_gI t 30 7)) (by decide) rfl rfl ii_8 (by decide) (Nat.le_of_ble_eq_true rfl) k_342 rfl d_SK_replace_109 ?_
        refine lv_isub hx hb d_SK_replace_112 ?_
        refine lv_sipush (v := (300 : Int32)) hx hb d_SK_replace_113 (by decide) ?_
        refine lv_icmp_le (tgt := 124) hx hb d_SK_replace_116 (by decide) (fun hc9 => ?_) (fun hc9 => ?_)
        · have hf := mz_t hc9 hf
          refine lv_iconst (v := (0 : Int32)) hx hb d_SK_replace_124 (by decide) ?_
          obtain rfl := Option.some.inj hf
          exact mz_iret E w rfl d_SK_replace_125
        · have hf := mz_f hc9 hf
          refine lv_bipush (v := (6 : Int32)) hx hb d_SK_replace_119 (by decide) ?_
          refine lv_goto (tgt := 125) hx hb d_SK_replace_121 (by decide) ?_
          obtain rfl := Option.some.inj hf
          exact mz_iret E w rfl d_SK_replace_125
      · have hf := mz_f hc8 hf
        refine lv_iconst (v := (1 : Int32)) hx hb d_SK_replace_102 (by decide) ?_
        obtain rfl := Option.some.inj hf
        exact mz_iret E w rfl d_SK_replace_103
    · have hf := mz_f hc7 hf
      refine lv_aload_n hx hb d_SK_replace_50 rfl (lv_at hl 0 rfl) ?_
      refine mz_get E w 30 0 (v := .ref (ad 1)) (by decide) rfl rfl ii_8 (by decide) (Nat.le_of_ble_eq_true rfl) k_331 rfl d_SK_replace_51 ?_
      refine lv_iload_n hx hb d_SK_replace_54 rfl (lv_at hl 2 rfl) ?_
      obtain ⟨q10, hq11, hf⟩ := mz_bd hf
      refine mz_callV E w (k := 1) (As := [.int x3]) (rest := []) (c_SI_at hSK l n x3 t q10 hq11) (by decide) rfl rfl k_450 k_2 k_645 k_448 k_449 hm_SI_at ⟨⟨rfl, rfl⟩, Nat.le_of_ble_eq_true rfl, Nat.le_of_ble_eq_true rfl⟩ rfl hl.1 rfl (Nat.le_of_ble_eq_true rfl) d_SK_replace_55 ⟨Nat.zero_le _, Nat.zero_le _⟩ (st1 := [.int q10.1]) rfl (fun H locs w => ?_)
      refine lv_bipush (v := (92 : Int32)) hx hb d_SK_replace_58 (by decide) ?_
      refine lv_icmp_ne (tgt := 81) hx hb d_SK_replace_60 (by decide) (fun hc12 => ?_) (fun hc12 => ?_)
      · have hf := mz_f hc12 hf
        refine lv_aload_n hx hb d_SK_replace_81 rfl (lv_at hl 0 rfl) ?_
        refine lv_iload_n hx hb d_SK_replace_82 rfl (lv_at hl 2 rfl) ?_
        refine lv_iload_n hx hb d_SK_replace_83 rfl (lv_at hl 2 rfl) ?_
        refine lv_iconst (v := (1 : Int32)) hx hb d_SK_replace_84 (by decide) ?_
        refine lv_iadd hx hb d_SK_replace_85 ?_
        obtain ⟨q13, hq14, hf⟩ := mz_bd hf
        refine mz_callV E w (k := 30) (As := [.int x3, .int (x3 + (1 : Int32))]) (rest := []) (c_SK_append hSK l n x3 (x3 + (1 : Int32)) q10.2 q13 hq14) (by decide) rfl rfl k_690 k_13 k_687 k_689 ks_14 hm_SK_append ⟨⟨rfl, rfl⟩, Nat.le_of_ble_eq_true rfl, Nat.le_of_ble_eq_true rfl⟩ rfl hl.1 rfl (Nat.le_of_ble_eq_true rfl) d_SK_replace_86 ⟨Nat.zero_le _, Nat.zero_le _⟩ (st1 := []) rfl (fun H locs w => ?_)
        refine lv_iinc (v := (x3 + (1 : Int32))) (lv' := [(3, .int (x3 + (1 : Int32))), (0, .ref (ad 30)), (2, .int x2)]) hx hb d_SK_replace_89 hl (k := 2) rfl rfl (by decide) rfl (fun ls hl => ?_)
        refine lv_goto (tgt := 45) hx hb d_SK_replace_92 (by decide) ?_
        exact ih x2 (x3 + (1 : Int32)) q13 hf _ _ _ w (lv_sub hl [1, 2, 0] rfl)
      · have hf := mz_t hc12 hf
        refine lv_iload_n hx hb d_SK_replace_63 rfl (lv_at hl 2 rfl) ?_
        refine lv_iconst (v := (1 : Int32)) hx hb d_SK_replace_64 (by decide) ?_
        refine lv_iadd hx hb d_SK_replace_65 ?_
        refine lv_aload_n hx hb d_SK_replace_66 rfl (lv_at hl 0 rfl) ?_
        refine lv_iload_n hx hb d_SK_replace_67 rfl (lv_at hl 2 rfl) ?_
        refine lv_iconst (v := (1 : Int32)) hx hb d_SK_replace_68 (by decide) ?_
        refine lv_iadd hx hb d_SK_replace_69 ?_
        refine lv_iload_n hx hb d_SK_replace_70 rfl (lv_at hl 1 rfl) ?_
        obtain ⟨q15, hq16, hf⟩ := mz_bd hf
        refine mz_callV E w (k := 30) (As := [.int (x3 + (1 : Int32)), .int x2]) (rest := [.int (x3 + (1 : Int32))]) (c_SK_replaceMark hSK l n (x3 + (1 : Int32)) x2 q10.2 q15 hq16) (by decide) rfl rfl k_649 k_13 k_646 k_648 ks_10 hm_SK_replaceMark ⟨⟨rfl, rfl⟩, Nat.le_of_ble_eq_true rfl, Nat.le_of_ble_eq_true rfl⟩ rfl hl.1 rfl (Nat.le_of_ble_eq_true rfl) d_SK_replace_71 ⟨Nat.zero_le _, Nat.zero_le _⟩ (st1 := [.int q15.1, .int (x3 + (1 : Int32))]) rfl (fun H locs w => ?_)
        refine va_mmax hx hb (hml.trans hl.1.symm) hown (hcx.at args _ k_506) (hcx.at args _ k_139) (hcx.at args _ k_10) (hcx.at args _ k_140) (Nat.le_of_ble_eq_true rfl) (Nat.le_of_ble_eq_true rfl) (Nat.zero_le _) (Nat.zero_le _) d_SK_replace_74 ?_
        refine lv_istore_n (lv' := [(3, .int (if (x3 + (1 : Int32)) < q15.1 then q15.1 else (x3 + (1 : Int32)))), (0, .ref (ad 30)), (2, .int x2)]) hx hb d_SK_replace_77 rfl hl (by decide) rfl (fun ls hl => ?_)
        refine lv_goto (tgt := 45) hx hb d_SK_replace_78 (by decide) ?_
        exact ih x2 (if (x3 + (1 : Int32)) < q15.1 then q15.1 else (x3 + (1 : Int32))) q15.2 hf _ _ _ w (lv_sub hl [1, 2, 0] rfl)
set_option maxRecDepth 100000 in
set_option maxHeartbeats 4000000 in
theorem c_SK_replace {dC : Nat → ClassId} {dI : Nat → Nat → Nat} {ad en adK adV : Nat → Nat} {tA tS : Nat} {oF : Option Nat} {ca : Nat → ClassId} (hSK : mz_SK (mz_SC ad en adK adV tA tS oF) ad 80) (l : Launch) (n : Nat) (x1 : Int32) (x2 : Int32) (t : mz_St) (res : (Int32 × mz_St)) (hf : f_SK_replace n x1 x2 t = some res) : mz_C (mz_SC ad en adK adV tA tS oF) mz_tC 80 mz_cl dC dI ad en ca l y_SK_replace prog_13_method_13_code 4 (some (.int)) (r_SK_replace) [.ref (ad 30), .int x1, .int x2] t (some (.int res.1)) res.2 := by
  unfold f_SK_replace at hf
  refine mz_met hSK (by decide) (Nat.le_of_ble_eq_true rfl) ?_
  intro p e s m args below meth c ls E w hl
  obtain ⟨hx, hb, hml, hown, hcx, -, -, hSX, -, -, -⟩ := id E
  have hl : lv_has ls 4 [(0, .ref (ad 30)), (1, .int x1), (2, .int x2)] := hl
  refine lv_aload_n hx hb d_SK_replace_0 rfl (lv_at hl 0 rfl) ?_
  refine lv_sipush (v := (3000 : Int32)) hx hb d_SK_replace_1 (by decide) ?_
  refine lv_iconst (v := (0 : Int32)) hx hb d_SK_replace_4 (by decide) ?_
  refine lv_aload_n hx hb d_SK_replace_5 rfl (lv_at hl 0 rfl) ?_
  refine mz_get E w 30 4 (v := .int (mz_gI t 30 4)) (by decide) rfl rfl ii_8 (by decide) (Nat.le_of_ble_eq_true rfl) k_335 rfl d_SK_replace_6 ?_
  refine lv_iconst (v := (1 : Int32)) hx hb d_SK_replace_9 (by decide) ?_
  refine lv_isub hx hb d_SK_replace_10 ?_
  refine va_mmax hx hb (hml.trans hl.1.symm) hown (hcx.at args _ k_506) (hcx.at args _ k_139) (hcx.at args _ k_10) (hcx.at args _ k_140) (Nat.le_of_ble_eq_true rfl) (Nat.le_of_ble_eq_true rfl) (Nat.zero_le _) (Nat.zero_le _) d_SK_replace_11 ?_
  refine lv_sipush (v := (300 : Int32)) hx hb d_SK_replace_14 (by decide) ?_
  refine lv_imul hx hb d_SK_replace_17 ?_
  refine lv_iadd hx hb d_SK_replace_18 ?_
  refine mz_put E w 30 7 (v := ((3000 : Int32) + ((if (0 : Int32) < ((mz_gI t 30 4) - (1 : Int32)) then ((mz_gI t 30 4) - (1 : Int32)) else (0 : Int32)) * (300 : Int32)))) (by decide) rfl rfl ii_8 tk_8 nm_8 (by decide) (Nat.le_of_ble_eq_true rfl) k_342 rfl (tk_8 7 (by decide)) rfl rfl rfl d_SK_replace_19 (fun H locs w => ?_)
  obtain ⟨t1, e_t1, hf⟩ := mz_lt hf
  rw [← e_t1] at w
  refine lv_aload_n hx hb d_SK_replace_22 rfl (lv_at hl 0 rfl) ?_
  refine lv_aload_n hx hb d_SK_replace_23 rfl (lv_at hl 0 rfl) ?_
  refine mz_get E w 30 7 (v := .int (mz_gI t1 30 7)) (by decide) rfl rfl ii_8 (by decide) (Nat.le_of_ble_eq_true rfl) k_342 rfl d_SK_replace_24 ?_
  refine mz_put E w 30 8 (v := (mz_gI t1 30 7)) (by decide) rfl rfl ii_8 tk_8 nm_8 (by decide) (Nat.le_of_ble_eq_true rfl) k_344 rfl (tk_8 8 (by decide)) rfl rfl rfl d_SK_replace_27 (fun H locs w => ?_)
  obtain ⟨t2, e_t2, hf⟩ := mz_lt hf
  rw [← e_t2] at w
  refine lv_aload_n hx hb d_SK_replace_30 rfl (lv_at hl 0 rfl) ?_
  refine lv_iconst (v := (0 : Int32)) hx hb d_SK_replace_31 (by decide) ?_
  refine mz_put E w 30 9 (v := (0 : Int32)) (by decide) rfl rfl ii_8 tk_8 nm_8 (by decide) (Nat.le_of_ble_eq_true rfl) k_345 rfl (tk_8 9 (by decide)) rfl (by decide) rfl d_SK_replace_32 (fun H locs w => ?_)
  obtain ⟨t3, e_t3, hf⟩ := mz_lt hf
  rw [← e_t3] at w
  refine lv_aload_n hx hb d_SK_replace_35 rfl (lv_at hl 0 rfl) ?_
  refine lv_aload_n hx hb d_SK_replace_36 rfl (lv_at hl 0 rfl) ?_
  obtain ⟨q4, hq5, hf⟩ := mz_bd hf
  refine mz_callV E w (k := 30) (As := []) (rest := [.ref (ad 30)]) (c_SK_macroDepth hSK l n t3 q4 hq5) (by decide) rfl rfl k_642 k_13 k_639 k_640 k_641 hm_SK_macroDepth ⟨⟨rfl, rfl⟩, Nat.le_of_ble_eq_true rfl, Nat.le_of_ble_eq_true rfl⟩ rfl hl.1 rfl (Nat.le_of_ble_eq_true rfl) d_SK_replace_37 ⟨Nat.zero_le _, Nat.zero_le _⟩ (st1 := [.int q4.1, .ref (ad 30)]) rfl (fun H locs w => ?_)
  refine mz_put E w 30 10 (v := q4.1) (by decide) rfl rfl ii_8 tk_8 nm_8 (by decide) (Nat.le_of_ble_eq_true rfl) k_346 rfl (tk_8 10 (by decide)) rfl rfl rfl d_SK_replace_40 (fun H locs w => ?_)
  obtain ⟨t6, e_t6, hf⟩ := mz_lt hf
  rw [← e_t6] at w
  refine lv_iload_n hx hb d_SK_replace_43 rfl (lv_at hl 1 rfl) ?_
  refine lv_istore_n (lv' := [(3, .int x1), (0, .ref (ad 30)), (1, .int x1), (2, .int x2)]) hx hb d_SK_replace_44 rfl hl (by decide) rfl (fun ls hl => ?_)
  exact b_SK_replace_45 E n n x2 x1 t6 hf _ _ _ w (lv_sub hl [1, 3, 0] rfl)

/-! MacroHouse$Stack.spare()LMacroHouse$Frame; -/
abbrev r_SK_spare : Room := { frames := 1, cells := 0, slots := 0, locals := 21 }
def f_SK_spare (n : Nat) (t : mz_St) : Option (Nat × mz_St) := (f_SK_frameAt n ((mz_gI t 30 4) + (1 : Int32)) t).bind fun q1 => if mz_fr q1.1 then (some (q1.1, q1.2)) else none
set_option maxRecDepth 100000 in
set_option maxHeartbeats 4000000 in
theorem c_SK_spare {SX : State → Heap → Prop} {dC : Nat → ClassId} {dI : Nat → Nat → Nat} {ad en : Nat → Nat} {ca : Nat → ClassId} (hSK : mz_SK SX ad 80) (l : Launch) (n : Nat) (t : mz_St) (res : (Nat × mz_St)) (hf : f_SK_spare n t = some res) : mz_C SX mz_tC 80 mz_cl dC dI ad en ca l y_SK_spare prog_13_method_5_code 1 (some (.object "MacroHouse$Frame")) (r_SK_spare) [.ref (ad 30)] t (some (.ref (ad res.1))) res.2 := by
  unfold f_SK_spare at hf
  refine mz_met hSK (by decide) (Nat.le_of_ble_eq_true rfl) ?_
  intro p e s m args below meth c ls E w hl
  obtain ⟨hx, hb, hml, hown, hcx, -, -, hSX, -, -, -⟩ := id E
  have hl : lv_has ls 1 [(0, .ref (ad 30))] := hl
  refine lv_aload_n hx hb d_SK_spare_0 rfl (lv_at hl 0 rfl) ?_
  refine lv_aload_n hx hb d_SK_spare_1 rfl (lv_at hl 0 rfl) ?_
  refine mz_get E w 30 4 (v := .int (mz_gI t 30 4)) (by decide) rfl rfl ii_8 (by decide) (Nat.le_of_ble_eq_true rfl) k_335 rfl d_SK_spare_2 ?_
  refine lv_iconst (v := (1 : Int32)) hx hb d_SK_spare_5 (by decide) ?_
  refine lv_iadd hx hb d_SK_spare_6 ?_
  obtain ⟨q1, hq2, hf⟩ := mz_bd hf
  refine mz_callV E w (k := 30) (As := [.int ((mz_gI t 30 4) + (1 : Int32))]) (rest := []) (c_SK_frameAt hSK l n ((mz_gI t 30 4) + (1 : Int32)) t q1 hq2) (by decide) rfl rfl k_488 k_13 k_485 k_486 k_487 hm_SK_frameAt ⟨⟨rfl, rfl⟩, Nat.le_of_ble_eq_true rfl, Nat.le_of_ble_eq_true rfl⟩ rfl hl.1 rfl (Nat.le_of_ble_eq_true rfl) d_SK_spare_7 ⟨Nat.zero_le _, Nat.zero_le _⟩ (st1 := [.ref (ad q1.1)]) rfl (fun H locs w => ?_)
  obtain ⟨hr3, hf⟩ := mz_gd hf
  obtain rfl := Option.some.inj hf
  exact mz_aret E w ⟨_, rfl⟩ rfl d_SK_spare_10

/-! MacroHouse$Stack.readArguments(III)Z -/
abbrev r_SK_readArguments : Room := { frames := 2, cells := 0, slots := 0, locals := 48 }
def f_SK_readArguments_170 (n : Nat) (K46 : Int32 → Int32 → Nat → Int32 → Int32 → Int32 → mz_St → Option (Int32 × mz_St)) (x1 : Int32) (x3 : Int32) (x4 : Nat) (x5 : Int32) (x6 : Int32) (x7 : Int32) (t : mz_St) : Option (Int32 × mz_St) := if mz_fr x4 then (K46 x1 x3 x4 x5 x6 (x7 + (1 : Int32)) t) else none
def f_SK_readArguments_108 (n : Nat) (K46 : Int32 → Int32 → Nat → Int32 → Int32 → Int32 → mz_St → Option (Int32 × mz_St)) (x1 : Int32) (x3 : Int32) (x4 : Nat) (x5 : Int32) (x7 : Int32) (s0 : Int32) (t : mz_St) : Option (Int32 × mz_St) := if mz_fr x4 then ((f_FR_argumentStart n x4 x7 t).bind fun q15 => (f_FR_argumentStop n x4 x7 q15.2).bind fun q17 => if q15.1 < q17.1 then (f_SK_readArguments_170 n K46 x1 x3 x4 x5 s0 x7 q17.2) else ((f_MA_defaultStart n x1 x7 q17.2).bind fun q20 => if q20.1 = (-1 : Int32) then (some ((0 : Int32), q20.2)) else ((f_MA_defaultStart n x1 x7 q20.2).bind fun q23 => (f_MA_defaultStop n x1 x7 q23.2).bind fun q25 => (f_FR_setArgument n x4 x7 q23.1 q25.1 q25.2).bind fun q27 => f_SK_readArguments_170 n K46 x1 x3 x4 x5 s0 x7 q27))) else none
def f_SK_readArguments_46 (n : Nat) : Nat → Int32 → Int32 → Nat → Int32 → Int32 → Int32 → mz_St → Option (Int32 × mz_St)
  | 0, _, _, _, _, _, _, _ => none
  | k + 1, x1, x3, x4, x5, x6, x7, t => if mz_fr x4 then (if x5 ≤ x7 then (if x6 ≤ x3 then (some ((0 : Int32), t)) else (some ((1 : Int32), t))) else ((f_SI_argumentEnd n (if x3 < x6 then x3 else x6) x3 t).bind fun q9 => if q9.1 = (-1 : Int32) then (some ((0 : Int32), q9.2)) else ((f_SK_setTrimmed n x4 x7 (if x3 < x6 then x3 else x6) q9.1 q9.2).bind fun q12 => if x6 ≤ x3 then (f_SK_readArguments_108 n (f_SK_readArguments_46 n k) x1 x3 x4 x5 x7 (q9.1 + (1 : Int32)) q12) else (f_SK_readArguments_108 n (f_SK_readArguments_46 n k) x1 x3 x4 x5 x7 x6 q12)))) else none
def f_SK_readArguments (n : Nat) (x1 : Int32) (x2 : Int32) (x3 : Int32) (t : mz_St) : Option (Int32 × mz_St) := (f_SK_spare n t).bind fun q1 => if mz_fr q1.1 then ((f_MA_parametersOf n x1 q1.2).bind fun q4 => if q4.1 = 0 then ((f_SI_behindBlanks n x2 x3 q4.2).bind fun q29 => if q29.1 < x3 then (some ((0 : Int32), q29.2)) else (some ((1 : Int32), q29.2))) else (f_SK_readArguments_46 n n x1 x3 q1.1 q4.1 x2 (0 : Int32) q4.2)) else none
set_option maxRecDepth 100000 in
set_option maxHeartbeats 4000000 in
theorem b_SK_readArguments_170 {SX : State → Heap → Prop} {dC : Nat → ClassId} {dI : Nat → Nat → Nat} {ad en : Nat → Nat} {ca : Nat → ClassId} {p : Program} {l : Launch} {e : Env} {s : State} {m : MethodId} {args : Array Value} {below : List Frame} {meth : Method} {c : Code} {res : (Int32 × mz_St)} (E : mz_En SX 80 mz_cl dC dI ad ca p s m meth c prog_13_method_10_code 10 "MacroHouse$Stack" (some (.boolean))) (n : Nat) (K46 : Int32 → Int32 → Nat → Int32 → Int32 → Int32 → mz_St → Option (Int32 × mz_St)) (hK46 : ∀ (x1 : Int32) (x3 : Int32) (x4 : Nat) (x5 : Int32) (x6 : Int32) (x7 : Int32) (t : mz_St), K46 x1 x3 x4 x5 x6 x7 t = some res → ∀ (H : Heap) (locs : List Loc) (ls : Array Slot), mz_Wd mz_tC 80 mz_cl dC dI ad en ca s t H locs → lv_has ls 10 [(0, .ref (ad 30)), (1, .int x1), (3, .int x3), (4, .ref (ad x4)), (5, .int x5), (6, .int x6), (7, .int x7)] → W p l e (r_SK_readArguments) s m args below meth c H locs 0 0 (MQ below (mz_Q SX mz_tC 80 mz_cl dC dI ad en ca (some (.int res.1)) res.2) args s 0 0 (mz_A ad 80)) (F0 m 46 ls [])) : ∀ (x1 : Int32) (x3 : Int32) (x4 : Nat) (x5 : Int32) (x6 : Int32) (x7 : Int32) (t : mz_St), f_SK_readArguments_170 n K46 x1 x3 x4 x5 x6 x7 t = some res → ∀ (H : Heap) (locs : List Loc) (ls : Array Slot), mz_Wd mz_tC 80 mz_cl dC dI ad en ca s t H locs → lv_has ls 10 [(0, .ref (ad 30)), (1, .int x1), (3, .int x3), (4, .ref (ad x4)), (5, .int x5), (6, .int x6), (7, .int x7)] → W p l e (r_SK_readArguments) s m args below meth c H locs 0 0 (MQ below (mz_Q SX mz_tC 80 mz_cl dC dI ad en ca (some (.int res.1)) res.2) args s 0 0 (mz_A ad 80)) (F0 m 170 ls []) := by
  obtain ⟨hx, hb, hml, hown, hcx, -, -, hSX, -, -, hSK⟩ := id E
  intro x1 x3 x4 x5 x6 x7 t hf H locs ls w hl
  unfold f_SK_readArguments_170 at hf
  obtain ⟨h_x4, hf⟩ := mz_gd hf
  refine lv_iinc (v := (x7 + (1 : Int32))) (lv' := [(7, .int (x7 + (1 : Int32))), (0, .ref (ad 30)), (1, .int x1), (3, .int x3), (4, .ref (ad x4)), (5, .int x5), (6, .int x6)]) hx hb d_SK_readArguments_170 hl (k := 6) rfl rfl (by decide) rfl (fun ls hl => ?_)
  refine lv_goto (tgt := 46) hx hb d_SK_readArguments_173 (by decide) ?_
  exact hK46 x1 x3 x4 x5 x6 (x7 + (1 : Int32)) t hf _ _ _ w (lv_sub hl [1, 2, 3, 4, 5, 6, 0] rfl)
set_option maxRecDepth 100000 in
set_option maxHeartbeats 4000000 in
theorem b_SK_readArguments_108 {SX : State → Heap → Prop} {dC : Nat → ClassId} {dI : Nat → Nat → Nat} {ad en : Nat → Nat} {ca : Nat → ClassId} {p : Program} {l : Launch} {e : Env} {s : State} {m : MethodId} {args : Array Value} {below : List Frame} {meth : Method} {c : Code} {res : (Int32 × mz_St)} (E : mz_En SX 80 mz_cl dC dI ad ca p s m meth c prog_13_method_10_code 10 "MacroHouse$Stack" (some (.boolean))) (n : Nat) (K46 : Int32 → Int32 → Nat → Int32 → Int32 → Int32 → mz_St → Option (Int32 × mz_St)) (hK46 : ∀ (x1 : Int32) (x3 : Int32) (x4 : Nat) (x5 : Int32) (x6 : Int32) (x7 : Int32) (t : mz_St), K46 x1 x3 x4 x5 x6 x7 t = some res → ∀ (H : Heap) (locs : List Loc) (ls : Array Slot), mz_Wd mz_tC 80 mz_cl dC dI ad en ca s t H locs → lv_has ls 10 [(0, .ref (ad 30)), (1, .int x1), (3, .int x3), (4, .ref (ad x4)), (5, .int x5), (6, .int x6), (7, .int x7)] → W p l e (r_SK_readArguments) s m args below meth c H locs 0 0 (MQ below (mz_Q SX mz_tC 80 mz_cl dC dI ad en ca (some (.int res.1)) res.2) args s 0 0 (mz_A ad 80)) (F0 m 46 ls [])) : ∀ (x1 : Int32) (x3 : Int32) (x4 : Nat) (x5 : Int32) (x7 : Int32) (s0 : Int32) (t : mz_St), f_SK_readArguments_108 n K46 x1 x3 x4 x5 x7 s0 t = some res → ∀ (H : Heap) (locs : List Loc) (ls : Array Slot), mz_Wd mz_tC 80 mz_cl dC dI ad en ca s t H locs → lv_has ls 10 [(0, .ref (ad 30)), (1, .int x1), (3, .int x3), (4, .ref (ad x4)), (5, .int x5), (7, .int x7)] → W p l e (r_SK_readArguments) s m args below meth c H locs 0 0 (MQ below (mz_Q SX mz_tC 80 mz_cl dC dI ad en ca (some (.int res.1)) res.2) args s 0 0 (mz_A ad 80)) (F0 m 108 ls [.int s0]) := by
  obtain ⟨hx, hb, hml, hown, hcx, -, -, hSX, -, -, hSK⟩ := id E
  intro x1 x3 x4 x5 x7 s0 t hf H locs ls w hl
  unfold f_SK_readArguments_108 at hf
  obtain ⟨h_x4, hf⟩ := mz_gd hf
  refine lv_istore (lv' := [(6, .int s0), (0, .ref (ad 30)), (1, .int x1), (3, .int x3), (4, .ref (ad x4)), (5, .int x5), (7, .int x7)]) hx hb d_SK_readArguments_108 hl (by decide) rfl (fun ls hl => ?_)
  refine lv_aload hx hb d_SK_readArguments_110 (lv_at hl 4 rfl) ?_
  refine lv_iload hx hb d_SK_readArguments_112 (lv_at hl 6 rfl) ?_
  obtain ⟨q15, hq16, hf⟩ := mz_bd hf
  refine mz_callV E w (k := x4) (As := [.int x7]) (rest := []) (c_FR_argumentStart hSK l n x4 x7 t q15 hq16) (mz_fN h_x4) (mz_tC_f h_x4) rfl k_682 k_14 k_679 k_680 k_681 hm_FR_argumentStart ⟨⟨rfl, rfl⟩, Nat.le_of_ble_eq_true rfl, Nat.le_of_ble_eq_true rfl⟩ rfl hl.1 rfl (Nat.le_of_ble_eq_true rfl) d_SK_readArguments_114 ⟨Nat.zero_le _, Nat.zero_le _⟩ (st1 := [.int q15.1]) rfl (fun H locs w => ?_)
  refine lv_aload hx hb d_SK_readArguments_117 (lv_at hl 4 rfl) ?_
  refine lv_iload hx hb d_SK_readArguments_119 (lv_at hl 6 rfl) ?_
  obtain ⟨q17, hq18, hf⟩ := mz_bd hf
  refine mz_callV E w (k := x4) (As := [.int x7]) (rest := [.int q15.1]) (c_FR_argumentStop hSK l n x4 x7 q15.2 q17 hq18) (mz_fN h_x4) (mz_tC_f h_x4) rfl k_686 k_14 k_683 k_684 k_685 hm_FR_argumentStop ⟨⟨rfl, rfl⟩, Nat.le_of_ble_eq_true rfl, Nat.le_of_ble_eq_true rfl⟩ rfl hl.1 rfl (Nat.le_of_ble_eq_true rfl) d_SK_readArguments_121 ⟨Nat.zero_le _, Nat.zero_le _⟩ (st1 := [.int q17.1, .int q15.1]) rfl (fun H locs w => ?_)
  refine lv_icmp_lt (tgt := 170) hx hb d_SK_readArguments_124 (by decide) (fun hc19 => ?_) (fun hc19 => ?_)
  · have hf := mz_t hc19 hf
    exact b_SK_readArguments_170 E n K46 hK46 x1 x3 x4 x5 s0 x7 q17.2 hf _ _ _ w (lv_sub hl [1, 2, 3, 4, 5, 0, 6] rfl)
  · have hf := mz_f hc19 hf
    refine lv_aload_n hx hb d_SK_readArguments_127 rfl (lv_at hl 1 rfl) ?_
    refine mz_get E w 30 1 (v := .ref (ad 18)) (by decide) rfl rfl ii_8 (by decide) (Nat.le_of_ble_eq_true rfl) k_332 rfl d_SK_readArguments_128 ?_
    refine lv_iload_n hx hb d_SK_readArguments_131 rfl (lv_at hl 2 rfl) ?_
    refine lv_iload hx hb d_SK_readArguments_132 (lv_at hl 6 rfl) ?_
    obtain ⟨q20, hq21, hf⟩ := mz_bd hf
    refine mz_callV E w (k := 18) (As := [.int x1, .int x7]) (rest := []) (c_MA_defaultStart hSK l n x1 x7 q17.2 q20 hq21) (by decide) rfl rfl k_758 k_12 k_755 k_756 k_757 hm_MA_defaultStart ⟨⟨rfl, rfl⟩, Nat.le_of_ble_eq_true rfl, Nat.le_of_ble_eq_true rfl⟩ rfl hl.1 rfl (Nat.le_of_ble_eq_true rfl) d_SK_readArguments_134 ⟨Nat.zero_le _, Nat.zero_le _⟩ (st1 := [.int q20.1]) rfl (fun H locs w => ?_)
    refine lv_iconst (v := (-1 : Int32)) hx hb d_SK_readArguments_137 (by decide) ?_
    refine lv_icmp_ne (tgt := 143) hx hb d_SK_readArguments_138 (by decide) (fun hc22 => ?_) (fun hc22 => ?_)
    · have hf := mz_f hc22 hf
      refine lv_aload hx hb d_SK_readArguments_143 (lv_at hl 4 rfl) ?_
      refine lv_iload hx hb d_SK_readArguments_145 (lv_at hl 6 rfl) ?_
      refine lv_aload_n hx hb d_SK_readArguments_147 rfl (lv_at hl 1 rfl) ?_
      refine mz_get E w 30 1 (v := .ref (ad 18)) (by decide) rfl rfl ii_8 (by decide) (Nat.le_of_ble_eq_true rfl) k_332 rfl d_SK_readArguments_148 ?_
      refine lv_iload_n hx hb d_SK_readArguments_151 rfl (lv_at hl 2 rfl) ?_
      refine lv_iload hx hb d_SK_readArguments_152 (lv_at hl 6 rfl) ?_
      obtain ⟨q23, hq24, hf⟩ := mz_bd hf
      refine mz_callV E w (k := 18) (As := [.int x1, .int x7]) (rest := [.int x7, .ref (ad x4)]) (c_MA_defaultStart hSK l n x1 x7 q20.2 q23 hq24) (by decide) rfl rfl k_758 k_12 k_755 k_756 k_757 hm_MA_defaultStart ⟨⟨rfl, rfl⟩, Nat.le_of_ble_eq_true rfl, Nat.le_of_ble_eq_true rfl⟩ rfl hl.1 rfl (Nat.le_of_ble_eq_true rfl) d_SK_readArguments_154 ⟨Nat.zero_le _, Nat.zero_le _⟩ (st1 := [.int q23.1, .int x7, .ref (ad x4)]) rfl (fun H locs w => ?_)
      refine lv_aload_n hx hb d_SK_readArguments_157 rfl (lv_at hl 1 rfl) ?_
      refine mz_get E w 30 1 (v := .ref (ad 18)) (by decide) rfl rfl ii_8 (by decide) (Nat.le_of_ble_eq_true rfl) k_332 rfl d_SK_readArguments_158 ?_
      refine lv_iload_n hx hb d_SK_readArguments_161 rfl (lv_at hl 2 rfl) ?_
      refine lv_iload hx hb d_SK_readArguments_162 (lv_at hl 6 rfl) ?_
      obtain ⟨q25, hq26, hf⟩ := mz_bd hf
      refine mz_callV E w (k := 18) (As := [.int x1, .int x7]) (rest := [.int q23.1, .int x7, .ref (ad x4)]) (c_MA_defaultStop hSK l n x1 x7 q23.2 q25 hq26) (by decide) rfl rfl k_762 k_12 k_759 k_760 k_761 hm_MA_defaultStop ⟨⟨rfl, rfl⟩, Nat.le_of_ble_eq_true rfl, Nat.le_of_ble_eq_true rfl⟩ rfl hl.1 rfl (Nat.le_of_ble_eq_true rfl) d_SK_readArguments_164 ⟨Nat.zero_le _, Nat.zero_le _⟩ (st1 := [.int q25.1, .int q23.1, .int x7, .ref (ad x4)]) rfl (fun H locs w => ?_)
      obtain ⟨q27, hq28, hf⟩ := mz_bd hf
      refine mz_callV E w (k := x4) (As := [.int x7, .int q23.1, .int q25.1]) (rest := []) (c_FR_setArgument hSK l n x4 x7 q23.1 q25.1 q25.2 q27 hq28) (mz_fN h_x4) (mz_tC_f h_x4) rfl k_526 k_14 k_523 k_524 k_525 hm_FR_setArgument ⟨⟨rfl, rfl⟩, Nat.le_of_ble_eq_true rfl, Nat.le_of_ble_eq_true rfl⟩ rfl hl.1 rfl (Nat.le_of_ble_eq_true rfl) d_SK_readArguments_167 ⟨Nat.zero_le _, Nat.zero_le _⟩ (st1 := []) rfl (fun H locs w => ?_)
      exact b_SK_readArguments_170 E n K46 hK46 x1 x3 x4 x5 s0 x7 q27 hf _ _ _ w (lv_sub hl [1, 2, 3, 4, 5, 0, 6] rfl)
    · have hf := mz_t hc22 hf
      refine lv_iconst (v := (0 : Int32)) hx hb d_SK_readArguments_141 (by decide) ?_
      obtain rfl := Option.some.inj hf
      exact mz_zret E w (by decide) rfl d_SK_readArguments_142
set_option maxRecDepth 100000 in
set_option maxHeartbeats 4000000 in
theorem b_SK_readArguments_46 {SX : State → Heap → Prop} {dC : Nat → ClassId} {dI : Nat → Nat → Nat} {ad en : Nat → Nat} {ca : Nat → ClassId} {p : Program} {l : Launch} {e : Env} {s : State} {m : MethodId} {args : Array Value} {below : List Frame} {meth : Method} {c : Code} {res : (Int32 × mz_St)} (E : mz_En SX 80 mz_cl dC dI ad ca p s m meth c prog_13_method_10_code 10 "MacroHouse$Stack" (some (.boolean))) (n : Nat) (k : Nat) : ∀ (x1 : Int32) (x3 : Int32) (x4 : Nat) (x5 : Int32) (x6 : Int32) (x7 : Int32) (t : mz_St), f_SK_readArguments_46 n k x1 x3 x4 x5 x6 x7 t = some res → ∀ (H : Heap) (locs : List Loc) (ls : Array Slot), mz_Wd mz_tC 80 mz_cl dC dI ad en ca s t H locs → lv_has ls 10 [(0, .ref (ad 30)), (1, .int x1), (3, .int x3), (4, .ref (ad x4)), (5, .int x5), (6, .int x6), (7, .int x7)] → W p l e (r_SK_readArguments) s m args below meth c H locs 0 0 (MQ below (mz_Q SX mz_tC 80 mz_cl dC dI ad en ca (some (.int res.1)) res.2) args s 0 0 (mz_A ad 80)) (F0 m 46 ls []) := by
  obtain ⟨hx, hb, hml, hown, hcx, -, -, hSX, -, -, hSK⟩ := id E
  induction k with
  | zero => intro x1 x3 x4 x5 x6 x7 t hf; exact absurd hf (by unfold f_SK_readArguments_46; exact fun h => nomatch h)
  | succ k ih =>
    intro x1 x3 x4 x5 x6 x7 t hf H locs ls w hl
    unfold f_SK_readArguments_46 at hf
    obtain ⟨h_x4, hf⟩ := mz_gd hf
    refine lv_iload hx hb d_SK_readArguments_46 (lv_at hl 6 rfl) ?_
    refine lv_iload hx hb d_SK_readArguments_48 (lv_at hl 4 rfl) ?_
    refine lv_icmp_ge (tgt := 176) hx hb d_SK_readArguments_50 (by decide) (fun hc7 => ?_) (fun hc7 => ?_)
    · have hf := mz_t hc7 hf
      refine lv_iload hx hb d_SK_readArguments_176 (lv_at hl 5 rfl) ?_
      refine lv_iload_n hx hb d_SK_readArguments_178 rfl (lv_at hl 2 rfl) ?_
      refine lv_icmp_le (tgt := 186) hx hb d_SK_readArguments_179 (by decide) (fun hc8 => ?_) (fun hc8 => ?_)
      · have hf := mz_t hc8 hf
        refine lv_iconst (v := (0 : Int32)) hx hb d_SK_readArguments_186 (by decide) ?_
        obtain rfl := Option.some.inj hf
        exact mz_zret E w (by decide) rfl d_SK_readArguments_187
      · have hf := mz_f hc8 hf
        refine lv_iconst (v := (1 : Int32)) hx hb d_SK_readArguments_182 (by decide) ?_
        refine lv_goto (tgt := 187) hx hb d_SK_readArguments_183 (by decide) ?_
        obtain rfl := Option.some.inj hf
        exact mz_zret E w (by decide) rfl d_SK_readArguments_187
    · have hf := mz_f hc7 hf
      refine lv_iload hx hb d_SK_readArguments_53 (lv_at hl 5 rfl) ?_
      refine lv_iload_n hx hb d_SK_readArguments_55 rfl (lv_at hl 2 rfl) ?_
      refine va_mmin hx hb (hml.trans hl.1.symm) hown (hcx.at args _ k_527) (hcx.at args _ k_528) (hcx.at args _ k_10) (hcx.at args _ k_529) (Nat.le_of_ble_eq_true rfl) (Nat.le_of_ble_eq_true rfl) (Nat.zero_le _) (Nat.zero_le _) d_SK_readArguments_56 ?_
      refine lv_istore (lv' := [(8, .int (if x3 < x6 then x3 else x6)), (0, .ref (ad 30)), (1, .int x1), (3, .int x3), (4, .ref (ad x4)), (5, .int x5), (6, .int x6), (7, .int x7)]) hx hb d_SK_readArguments_59 hl (by decide) rfl (fun ls hl => ?_)
      refine lv_aload_n hx hb d_SK_readArguments_61 rfl (lv_at hl 1 rfl) ?_
      refine mz_get E w 30 0 (v := .ref (ad 1)) (by decide) rfl rfl ii_8 (by decide) (Nat.le_of_ble_eq_true rfl) k_331 rfl d_SK_readArguments_62 ?_
      refine lv_iload hx hb d_SK_readArguments_65 (lv_at hl 0 rfl) ?_
      refine lv_iload_n hx hb d_SK_readArguments_67 rfl (lv_at hl 3 rfl) ?_
      obtain ⟨q9, hq10, hf⟩ := mz_bd hf
      refine mz_callV E w (k := 1) (As := [.int (if x3 < x6 then x3 else x6), .int x3]) (rest := []) (c_SI_argumentEnd hSK l n (if x3 < x6 then x3 else x6) x3 t q9 hq10) (by decide) rfl rfl k_516 k_2 k_513 k_514 k_515 hm_SI_argumentEnd ⟨⟨rfl, rfl⟩, Nat.le_of_ble_eq_true rfl, Nat.le_of_ble_eq_true rfl⟩ rfl hl.1 rfl (Nat.le_of_ble_eq_true rfl) d_SK_readArguments_68 ⟨Nat.zero_le _, Nat.zero_le _⟩ (st1 := [.int q9.1]) rfl (fun H locs w => ?_)
      refine lv_istore (lv' := [(9, .int q9.1), (8, .int (if x3 < x6 then x3 else x6)), (0, .ref (ad 30)), (1, .int x1), (3, .int x3), (4, .ref (ad x4)), (5, .int x5), (6, .int x6), (7, .int x7)]) hx hb d_SK_readArguments_71 hl (by decide) rfl (fun ls hl => ?_)
      refine lv_iload hx hb d_SK_readArguments_73 (lv_at hl 0 rfl) ?_
      refine lv_iconst (v := (-1 : Int32)) hx hb d_SK_readArguments_75 (by decide) ?_
      refine lv_icmp_ne (tgt := 81) hx hb d_SK_readArguments_76 (by decide) (fun hc11 => ?_) (fun hc11 => ?_)
      · have hf := mz_f hc11 hf
        refine lv_aload_n hx hb d_SK_readArguments_81 rfl (lv_at hl 2 rfl) ?_
        refine lv_aload hx hb d_SK_readArguments_82 (lv_at hl 5 rfl) ?_
        refine lv_iload hx hb d_SK_readArguments_84 (lv_at hl 8 rfl) ?_
        refine lv_iload hx hb d_SK_readArguments_86 (lv_at hl 1 rfl) ?_
        refine lv_iload hx hb d_SK_readArguments_88 (lv_at hl 0 rfl) ?_
        obtain ⟨q12, hq13, hf⟩ := mz_bd hf
        refine mz_callV E w (k := 30) (As := [.ref (ad x4), .int x7, .int (if x3 < x6 then x3 else x6), .int q9.1]) (rest := []) (c_SK_setTrimmed hSK l n x4 x7 (if x3 < x6 then x3 else x6) q9.1 q9.2 q12 hq13) (by decide) rfl rfl k_520 k_13 k_517 k_519 ks_5 hm_SK_setTrimmed ⟨⟨rfl, rfl⟩, Nat.le_of_ble_eq_true rfl, Nat.le_of_ble_eq_true rfl⟩ rfl hl.1 rfl (Nat.le_of_ble_eq_true rfl) d_SK_readArguments_90 ⟨Nat.zero_le _, Nat.zero_le _⟩ (st1 := []) rfl (fun H locs w => ?_)
        refine lv_iload hx hb d_SK_readArguments_93 (lv_at hl 7 rfl) ?_
        refine lv_iload_n hx hb d_SK_readArguments_95 rfl (lv_at hl 4 rfl) ?_
        refine lv_icmp_le (tgt := 104) hx hb d_SK_readArguments_96 (by decide) (fun hc14 => ?_) (fun hc14 => ?_)
        · have hf := mz_t hc14 hf
          refine lv_iload hx hb d_SK_readArguments_104 (lv_at hl 0 rfl) ?_
          refine lv_iconst (v := (1 : Int32)) hx hb d_SK_readArguments_106 (by decide) ?_
          refine lv_iadd hx hb d_SK_readArguments_107 ?_
          exact b_SK_readArguments_108 E n (f_SK_readArguments_46 n k) ih x1 x3 x4 x5 x7 (q9.1 + (1 : Int32)) q12 hf _ _ _ w (lv_sub hl [2, 3, 4, 5, 6, 8] rfl)
        · have hf := mz_f hc14 hf
          refine lv_iload hx hb d_SK_readArguments_99 (lv_at hl 7 rfl) ?_
          refine lv_goto (tgt := 108) hx hb d_SK_readArguments_101 (by decide) ?_
          exact b_SK_readArguments_108 E n (f_SK_readArguments_46 n k) ih x1 x3 x4 x5 x7 x6 q12 hf _ _ _ w (lv_sub hl [2, 3, 4, 5, 6, 8] rfl)
      · have hf := mz_t hc11 hf
        refine lv_iconst (v := (0 : Int32)) hx hb d_SK_readArguments_79 (by decide) ?_
        obtain rfl := Option.some.inj hf
        exact mz_zret E w (by decide) rfl d_SK_readArguments_80
set_option maxRecDepth 100000 in
set_option maxHeartbeats 4000000 in
theorem c_SK_readArguments {SX : State → Heap → Prop} {dC : Nat → ClassId} {dI : Nat → Nat → Nat} {ad en : Nat → Nat} {ca : Nat → ClassId} (hSK : mz_SK SX ad 80) (l : Launch) (n : Nat) (x1 : Int32) (x2 : Int32) (x3 : Int32) (t : mz_St) (res : (Int32 × mz_St)) (hf : f_SK_readArguments n x1 x2 x3 t = some res) : mz_C SX mz_tC 80 mz_cl dC dI ad en ca l y_SK_readArguments prog_13_method_10_code 10 (some (.boolean)) (r_SK_readArguments) [.ref (ad 30), .int x1, .int x2, .int x3] t (some (.int res.1)) res.2 := by
  unfold f_SK_readArguments at hf
  refine mz_met hSK (by decide) (Nat.le_of_ble_eq_true rfl) ?_
  intro p e s m args below meth c ls E w hl
  obtain ⟨hx, hb, hml, hown, hcx, -, -, hSX, -, -, -⟩ := id E
  have hl : lv_has ls 10 [(0, .ref (ad 30)), (1, .int x1), (2, .int x2), (3, .int x3)] := hl
  refine lv_aload_n hx hb d_SK_readArguments_0 rfl (lv_at hl 0 rfl) ?_
  obtain ⟨q1, hq2, hf⟩ := mz_bd hf
  refine mz_callV E w (k := 30) (As := []) (rest := []) (c_SK_spare hSK l n t q1 hq2) (by decide) rfl rfl k_753 k_13 k_750 k_751 k_752 hm_SK_spare ⟨⟨rfl, rfl⟩, Nat.le_of_ble_eq_true rfl, Nat.le_of_ble_eq_true rfl⟩ rfl hl.1 rfl (Nat.le_of_ble_eq_true rfl) d_SK_readArguments_1 ⟨Nat.zero_le _, Nat.zero_le _⟩ (st1 := [.ref (ad q1.1)]) rfl (fun H locs w => ?_)
  obtain ⟨hr3, hf⟩ := mz_gd hf
  refine lv_astore (lv' := [(4, .ref (ad q1.1)), (0, .ref (ad 30)), (1, .int x1), (2, .int x2), (3, .int x3)]) hx hb d_SK_readArguments_4 hl (by decide) rfl (fun ls hl => ?_)
  refine lv_aload_n hx hb d_SK_readArguments_6 rfl (lv_at hl 1 rfl) ?_
  refine mz_get E w 30 1 (v := .ref (ad 18)) (by decide) rfl rfl ii_8 (by decide) (Nat.le_of_ble_eq_true rfl) k_332 rfl d_SK_readArguments_7 ?_
  refine lv_iload_n hx hb d_SK_readArguments_10 rfl (lv_at hl 2 rfl) ?_
  obtain ⟨q4, hq5, hf⟩ := mz_bd hf
  refine mz_callV E w (k := 18) (As := [.int x1]) (rest := []) (c_MA_parametersOf hSK l n x1 q1.2 q4 hq5) (by decide) rfl rfl k_698 k_12 k_754 k_696 k_697 hm_MA_parametersOf ⟨⟨rfl, rfl⟩, Nat.le_of_ble_eq_true rfl, Nat.le_of_ble_eq_true rfl⟩ rfl hl.1 rfl (Nat.le_of_ble_eq_true rfl) d_SK_readArguments_11 ⟨Nat.zero_le _, Nat.zero_le _⟩ (st1 := [.int q4.1]) rfl (fun H locs w => ?_)
  refine lv_istore (lv' := [(5, .int q4.1), (4, .ref (ad q1.1)), (0, .ref (ad 30)), (1, .int x1), (2, .int x2), (3, .int x3)]) hx hb d_SK_readArguments_14 hl (by decide) rfl (fun ls hl => ?_)
  refine lv_iload hx hb d_SK_readArguments_16 (lv_at hl 0 rfl) ?_
  refine lv_if_ne (tgt := 40) hx hb d_SK_readArguments_18 (by decide) (fun hc6 => ?_) (fun hc6 => ?_)
  · have hf := mz_f hc6 hf
    refine lv_iload_n hx hb d_SK_readArguments_40 rfl (lv_at hl 4 rfl) ?_
    refine lv_istore (lv' := [(6, .int x2), (5, .int q4.1), (4, .ref (ad q1.1)), (0, .ref (ad 30)), (1, .int x1), (2, .int x2), (3, .int x3)]) hx hb d_SK_readArguments_41 hl (by decide) rfl (fun ls hl => ?_)
    refine lv_iconst (v := (0 : Int32)) hx hb d_SK_readArguments_43 (by decide) ?_
    refine lv_istore (lv' := [(7, .int (0 : Int32)), (6, .int x2), (5, .int q4.1), (4, .ref (ad q1.1)), (0, .ref (ad 30)), (1, .int x1), (2, .int x2), (3, .int x3)]) hx hb d_SK_readArguments_44 hl (by decide) rfl (fun ls hl => ?_)
    exact b_SK_readArguments_46 E n n x1 x3 q1.1 q4.1 x2 (0 : Int32) q4.2 hf _ _ _ w (lv_sub hl [4, 5, 7, 3, 2, 1, 0] rfl)
  · have hf := mz_t hc6 hf
    refine lv_aload_n hx hb d_SK_readArguments_21 rfl (lv_at hl 2 rfl) ?_
    refine mz_get E w 30 0 (v := .ref (ad 1)) (by decide) rfl rfl ii_8 (by decide) (Nat.le_of_ble_eq_true rfl) k_331 rfl d_SK_readArguments_22 ?_
    refine lv_iload_n hx hb d_SK_readArguments_25 rfl (lv_at hl 4 rfl) ?_
    refine lv_iload_n hx hb d_SK_readArguments_26 rfl (lv_at hl 5 rfl) ?_
    obtain ⟨q29, hq30, hf⟩ := mz_bd hf
    refine mz_callV E w (k := 1) (As := [.int x2, .int x3]) (rest := []) (c_SI_behindBlanks hSK l n x2 x3 q4.2 q29 hq30) (by decide) rfl rfl k_462 k_2 k_521 k_460 k_461 hm_SI_behindBlanks ⟨⟨rfl, rfl⟩, Nat.le_of_ble_eq_true rfl, Nat.le_of_ble_eq_true rfl⟩ rfl hl.1 rfl (Nat.le_of_ble_eq_true rfl) d_SK_readArguments_27 ⟨Nat.zero_le _, Nat.zero_le _⟩ (st1 := [.int q29.1]) rfl (fun H locs w => ?_)
    refine lv_iload_n hx hb d_SK_readArguments_30 rfl (lv_at hl 5 rfl) ?_
    refine lv_icmp_lt (tgt := 38) hx hb d_SK_readArguments_31 (by decide) (fun hc31 => ?_) (fun hc31 => ?_)
    · have hf := mz_t hc31 hf
      refine lv_iconst (v := (0 : Int32)) hx hb d_SK_readArguments_38 (by decide) ?_
      obtain rfl := Option.some.inj hf
      exact mz_zret E w (by decide) rfl d_SK_readArguments_39
    · have hf := mz_f hc31 hf
      refine lv_iconst (v := (1 : Int32)) hx hb d_SK_readArguments_34 (by decide) ?_
      refine lv_goto (tgt := 39) hx hb d_SK_readArguments_35 (by decide) ?_
      obtain rfl := Option.some.inj hf
      exact mz_zret E w (by decide) rfl d_SK_readArguments_39

/-! MacroHouse$Stack.open(I)Z -/
abbrev r_SK_open : Room := { frames := 1, cells := 0, slots := 0, locals := 21 }
def f_SK_open_23 (n : Nat) (t : mz_St) : Option (Int32 × mz_St) := mz_let (mz_pI t 30 4 ((mz_gI t 30 4) + (1 : Int32))) fun t3 => mz_let (mz_pI t3 30 5 (if (mz_gI t3 30 5) < (mz_gI t3 30 4) then (mz_gI t3 30 4) else (mz_gI t3 30 5))) fun t4 => some ((1 : Int32), t4)
def f_SK_open (n : Nat) (x1 : Int32) (t : mz_St) : Option (Int32 × mz_St) := if (mz_gI t 30 4) < (12 : Int32) then (if (mz_gI t 30 4) = 0 then (mz_let (mz_pI t 30 6 x1) fun t5 => f_SK_open_23 n  t5) else (f_SK_open_23 n  t)) else (some ((0 : Int32), t))
set_option maxRecDepth 100000 in
set_option maxHeartbeats 4000000 in
theorem b_SK_open_23 {SX : State → Heap → Prop} {dC : Nat → ClassId} {dI : Nat → Nat → Nat} {ad en : Nat → Nat} {ca : Nat → ClassId} {p : Program} {l : Launch} {e : Env} {s : State} {m : MethodId} {args : Array Value} {below : List Frame} {meth : Method} {c : Code} {res : (Int32 × mz_St)} (E : mz_En SX 80 mz_cl dC dI ad ca p s m meth c prog_13_method_6_code 2 "MacroHouse$Stack" (some (.boolean))) (n : Nat) : ∀ (t : mz_St), f_SK_open_23 n t = some res → ∀ (H : Heap) (locs : List Loc) (ls : Array Slot), mz_Wd mz_tC 80 mz_cl dC dI ad en ca s t H locs → lv_has ls 2 [(0, .ref (ad 30))] → W p l e (r_SK_open) s m args below meth c H locs 0 0 (MQ below (mz_Q SX mz_tC 80 mz_cl dC dI ad en ca (some (.int res.1)) res.2) args s 0 0 (mz_A ad 80)) (F0 m 23 ls []) := by
  obtain ⟨hx, hb, hml, hown, hcx, -, -, hSX, -, -, hSK⟩ := id E
  intro t hf H locs ls w hl
  unfold f_SK_open_23 at hf
  refine lv_aload_n hx hb d_SK_open_23 rfl (lv_at hl 0 rfl) ?_
  refine lv_dup hx hb d_SK_open_24 rfl ?_
  refine mz_get E w 30 4 (v := .int (mz_gI t 30 4)) (by decide) rfl rfl ii_8 (by decide) (Nat.le_of_ble_eq_true rfl) k_335 rfl d_SK_open_25 ?_
  refine lv_iconst (v := (1 : Int32)) hx hb d_SK_open_28 (by decide) ?_
  refine lv_iadd hx hb d_SK_open_29 ?_
  refine mz_put E w 30 4 (v := ((mz_gI t 30 4) + (1 : Int32))) (by decide) rfl rfl ii_8 tk_8 nm_8 (by decide) (Nat.le_of_ble_eq_true rfl) k_335 rfl (tk_8 4 (by decide)) rfl rfl rfl d_SK_open_30 (fun H locs w => ?_)
  obtain ⟨t3, e_t3, hf⟩ := mz_lt hf
  rw [← e_t3] at w
  refine lv_aload_n hx hb d_SK_open_33 rfl (lv_at hl 0 rfl) ?_
  refine lv_aload_n hx hb d_SK_open_34 rfl (lv_at hl 0 rfl) ?_
  refine mz_get E w 30 5 (v := .int (mz_gI t3 30 5)) (by decide) rfl rfl ii_8 (by decide) (Nat.le_of_ble_eq_true rfl) k_337 rfl d_SK_open_35 ?_
  refine lv_aload_n hx hb d_SK_open_38 rfl (lv_at hl 0 rfl) ?_
  refine mz_get E w 30 4 (v := .int (mz_gI t3 30 4)) (by decide) rfl rfl ii_8 (by decide) (Nat.le_of_ble_eq_true rfl) k_335 rfl d_SK_open_39 ?_
  refine va_mmax hx hb (hml.trans hl.1.symm) hown (hcx.at args _ k_506) (hcx.at args _ k_139) (hcx.at args _ k_10) (hcx.at args _ k_140) (Nat.le_of_ble_eq_true rfl) (Nat.le_of_ble_eq_true rfl) (Nat.zero_le _) (Nat.zero_le _) d_SK_open_42 ?_
  refine mz_put E w 30 5 (v := (if (mz_gI t3 30 5) < (mz_gI t3 30 4) then (mz_gI t3 30 4) else (mz_gI t3 30 5))) (by decide) rfl rfl ii_8 tk_8 nm_8 (by decide) (Nat.le_of_ble_eq_true rfl) k_337 rfl (tk_8 5 (by decide)) rfl rfl rfl d_SK_open_45 (fun H locs w => ?_)
  obtain ⟨t4, e_t4, hf⟩ := mz_lt hf
  rw [← e_t4] at w
  refine lv_iconst (v := (1 : Int32)) hx hb d_SK_open_48 (by decide) ?_
  obtain rfl := Option.some.inj hf
  exact mz_zret E w (by decide) rfl d_SK_open_49
set_option maxRecDepth 100000 in
set_option maxHeartbeats 4000000 in
theorem c_SK_open {SX : State → Heap → Prop} {dC : Nat → ClassId} {dI : Nat → Nat → Nat} {ad en : Nat → Nat} {ca : Nat → ClassId} (hSK : mz_SK SX ad 80) (l : Launch) (n : Nat) (x1 : Int32) (t : mz_St) (res : (Int32 × mz_St)) (hf : f_SK_open n x1 t = some res) : mz_C SX mz_tC 80 mz_cl dC dI ad en ca l y_SK_open prog_13_method_6_code 2 (some (.boolean)) (r_SK_open) [.ref (ad 30), .int x1] t (some (.int res.1)) res.2 := by
  unfold f_SK_open at hf
  refine mz_met hSK (by decide) (Nat.le_of_ble_eq_true rfl) ?_
  intro p e s m args below meth c ls E w hl
  obtain ⟨hx, hb, hml, hown, hcx, -, -, hSX, -, -, -⟩ := id E
  have hl : lv_has ls 2 [(0, .ref (ad 30)), (1, .int x1)] := hl
  refine lv_aload_n hx hb d_SK_open_0 rfl (lv_at hl 0 rfl) ?_
  refine mz_get E w 30 4 (v := .int (mz_gI t 30 4)) (by decide) rfl rfl ii_8 (by decide) (Nat.le_of_ble_eq_true rfl) k_335 rfl d_SK_open_1 ?_
  refine lv_bipush (v := (12 : Int32)) hx hb d_SK_open_4 (by decide) ?_
  refine lv_icmp_lt (tgt := 11) hx hb d_SK_open_6 (by decide) (fun hc1 => ?_) (fun hc1 => ?_)
  · have hf := mz_t hc1 hf
    refine lv_aload_n hx hb d_SK_open_11 rfl (lv_at hl 0 rfl) ?_
    refine mz_get E w 30 4 (v := .int (mz_gI t 30 4)) (by decide) rfl rfl ii_8 (by decide) (Nat.le_of_ble_eq_true rfl) k_335 rfl d_SK_open_12 ?_
    refine lv_if_ne (tgt := 23) hx hb d_SK_open_15 (by decide) (fun hc2 => ?_) (fun hc2 => ?_)
    · have hf := mz_f hc2 hf
      exact b_SK_open_23 E n  t hf _ _ _ w (lv_sub hl [0] rfl)
    · have hf := mz_t hc2 hf
      refine lv_aload_n hx hb d_SK_open_18 rfl (lv_at hl 0 rfl) ?_
      refine lv_iload_n hx hb d_SK_open_19 rfl (lv_at hl 1 rfl) ?_
      refine mz_put E w 30 6 (v := x1) (by decide) rfl rfl ii_8 tk_8 nm_8 (by decide) (Nat.le_of_ble_eq_true rfl) k_340 rfl (tk_8 6 (by decide)) rfl rfl rfl d_SK_open_20 (fun H locs w => ?_)
      obtain ⟨t5, e_t5, hf⟩ := mz_lt hf
      rw [← e_t5] at w
      exact b_SK_open_23 E n  t5 hf _ _ _ w (lv_sub hl [0] rfl)
  · have hf := mz_f hc1 hf
    refine lv_iconst (v := (0 : Int32)) hx hb d_SK_open_9 (by decide) ?_
    obtain rfl := Option.some.inj hf
    exact mz_zret E w (by decide) rfl d_SK_open_10

/-! MacroHouse$Stack.readTexts(II)I -/
abbrev r_SK_readTexts : Room := { frames := 3, cells := 0, slots := 0, locals := 70 }
def f_SK_readTexts_55 (n : Nat) (x1 : Int32) (x2 : Int32) (x3 : Int32) (t : mz_St) : Option (Int32 × mz_St) := (f_SK_spare n t).bind fun q2 => if mz_fr q2.1 then (mz_let (mz_pI q2.2 q2.1 11 x1) fun t5 => mz_let (mz_pI t5 q2.1 12 x2) fun t6 => (f_SK_nextText n q2.1 t6).bind fun q7 => some (x3, q7)) else none
def f_SK_readTexts_8 (n : Nat) : Nat → Int32 → Int32 → Int32 → Int32 → Int32 → mz_St → Option (Int32 × mz_St)
  | 0, _, _, _, _, _, _ => none
  | k + 1, x1, x2, x3, x4, x5, t => if x2 < x5 then (f_SK_readTexts_55 n x1 x2 x3 t) else (if x2 < x4 then (f_SK_readTexts_55 n x1 x2 x3 t) else ((f_SI_argumentEnd n x4 x2 t).bind fun q10 => if q10.1 = (-1 : Int32) then (some ((-1 : Int32), q10.2)) else ((f_SK_readTexts_8 n k) x1 x2 (x3 + (1 : Int32)) (q10.1 + (1 : Int32)) (x5 + (1 : Int32)) q10.2)))
def f_SK_readTexts (n : Nat) (x1 : Int32) (x2 : Int32) (t : mz_St) : Option (Int32 × mz_St) := f_SK_readTexts_8 n n x1 x2 (0 : Int32) x1 x1 t
set_option maxRecDepth 100000 in
set_option maxHeartbeats 4000000 in
theorem b_SK_readTexts_55 {SX : State → Heap → Prop} {dC : Nat → ClassId} {dI : Nat → Nat → Nat} {ad en : Nat → Nat} {ca : Nat → ClassId} {p : Program} {l : Launch} {e : Env} {s : State} {m : MethodId} {args : Array Value} {below : List Frame} {meth : Method} {c : Code} {res : (Int32 × mz_St)} (E : mz_En SX 80 mz_cl dC dI ad ca p s m meth c prog_13_method_11_code 7 "MacroHouse$Stack" (some (.int))) (n : Nat) : ∀ (x1 : Int32) (x2 : Int32) (x3 : Int32) (t : mz_St), f_SK_readTexts_55 n x1 x2 x3 t = some res → ∀ (H : Heap) (locs : List Loc) (ls : Array Slot), mz_Wd mz_tC 80 mz_cl dC dI ad en ca s t H locs → lv_has ls 7 [(0, .ref (ad 30)), (1, .int x1), (2, .int x2), (3, .int x3)] → W p l e (r_SK_readTexts) s m args below meth c H locs 0 0 (MQ below (mz_Q SX mz_tC 80 mz_cl dC dI ad en ca (some (.int res.1)) res.2) args s 0 0 (mz_A ad 80)) (F0 m 55 ls []) := by
  obtain ⟨hx, hb, hml, hown, hcx, -, -, hSX, -, -, hSK⟩ := id E
  intro x1 x2 x3 t hf H locs ls w hl
  unfold f_SK_readTexts_55 at hf
  refine lv_aload_n hx hb d_SK_readTexts_55 rfl (lv_at hl 0 rfl) ?_
  obtain ⟨q2, hq3, hf⟩ := mz_bd hf
  refine mz_callV E w (k := 30) (As := []) (rest := []) (c_SK_spare hSK l n t q2 hq3) (by decide) rfl rfl k_753 k_13 k_750 k_751 k_752 hm_SK_spare ⟨⟨rfl, rfl⟩, Nat.le_of_ble_eq_true rfl, Nat.le_of_ble_eq_true rfl⟩ rfl hl.1 rfl (Nat.le_of_ble_eq_true rfl) d_SK_readTexts_56 ⟨Nat.zero_le _, Nat.zero_le _⟩ (st1 := [.ref (ad q2.1)]) rfl (fun H locs w => ?_)
  obtain ⟨hr4, hf⟩ := mz_gd hf
  refine lv_astore (lv' := [(5, .ref (ad q2.1)), (0, .ref (ad 30)), (1, .int x1), (2, .int x2), (3, .int x3)]) hx hb d_SK_readTexts_59 hl (by decide) rfl (fun ls hl => ?_)
  refine lv_aload hx hb d_SK_readTexts_61 (lv_at hl 0 rfl) ?_
  refine lv_iload_n hx hb d_SK_readTexts_63 rfl (lv_at hl 2 rfl) ?_
  refine mz_put E w q2.1 11 (v := x1) (mz_fN hr4) (mz_tC_f hr4) rfl ii_10 tk_10 nm_10 (by decide) (Nat.le_of_ble_eq_true rfl) k_295 rfl (tk_10 11 (by decide)) rfl rfl rfl d_SK_readTexts_64 (fun H locs w => ?_)
  obtain ⟨t5, e_t5, hf⟩ := mz_lt hf
  rw [← e_t5] at w
  refine lv_aload hx hb d_SK_readTexts_67 (lv_at hl 0 rfl) ?_
  refine lv_iload_n hx hb d_SK_readTexts_69 rfl (lv_at hl 3 rfl) ?_
  refine mz_put E w q2.1 12 (v := x2) (mz_fN hr4) (mz_tC_f hr4) rfl ii_10 tk_10 nm_10 (by decide) (Nat.le_of_ble_eq_true rfl) k_296 rfl (tk_10 12 (by decide)) rfl rfl rfl d_SK_readTexts_70 (fun H locs w => ?_)
  obtain ⟨t6, e_t6, hf⟩ := mz_lt hf
  rw [← e_t6] at w
  refine lv_aload_n hx hb d_SK_readTexts_73 rfl (lv_at hl 1 rfl) ?_
  refine lv_aload hx hb d_SK_readTexts_74 (lv_at hl 0 rfl) ?_
  obtain ⟨q7, hq8, hf⟩ := mz_bd hf
  refine mz_callV E w (k := 30) (As := [.ref (ad q2.1)]) (rest := []) (c_SK_nextText hSK l n q2.1 t6 q7 hq8) (by decide) rfl rfl k_512 k_13 k_509 k_511 ks_4 hm_SK_nextText ⟨⟨rfl, rfl⟩, Nat.le_of_ble_eq_true rfl, Nat.le_of_ble_eq_true rfl⟩ rfl hl.1 rfl (Nat.le_of_ble_eq_true rfl) d_SK_readTexts_76 ⟨Nat.zero_le _, Nat.zero_le _⟩ (st1 := []) rfl (fun H locs w => ?_)
  refine lv_iload_n hx hb d_SK_readTexts_79 rfl (lv_at hl 4 rfl) ?_
  obtain rfl := Option.some.inj hf
  exact mz_iret E w rfl d_SK_readTexts_80
set_option maxRecDepth 100000 in
set_option maxHeartbeats 4000000 in
theorem b_SK_readTexts_8 {SX : State → Heap → Prop} {dC : Nat → ClassId} {dI : Nat → Nat → Nat} {ad en : Nat → Nat} {ca : Nat → ClassId} {p : Program} {l : Launch} {e : Env} {s : State} {m : MethodId} {args : Array Value} {below : List Frame} {meth : Method} {c : Code} {res : (Int32 × mz_St)} (E : mz_En SX 80 mz_cl dC dI ad ca p s m meth c prog_13_method_11_code 7 "MacroHouse$Stack" (some (.int))) (n : Nat) (k : Nat) : ∀ (x1 : Int32) (x2 : Int32) (x3 : Int32) (x4 : Int32) (x5 : Int32) (t : mz_St), f_SK_readTexts_8 n k x1 x2 x3 x4 x5 t = some res → ∀ (H : Heap) (locs : List Loc) (ls : Array Slot), mz_Wd mz_tC 80 mz_cl dC dI ad en ca s t H locs → lv_has ls 7 [(0, .ref (ad 30)), (1, .int x1), (2, .int x2), (3, .int x3), (4, .int x4), (5, .int x5)] → W p l e (r_SK_readTexts) s m args below meth c H locs 0 0 (MQ below (mz_Q SX mz_tC 80 mz_cl dC dI ad en ca (some (.int res.1)) res.2) args s 0 0 (mz_A ad 80)) (F0 m 8 ls []) := by
  obtain ⟨hx, hb, hml, hown, hcx, -, -, hSX, -, -, hSK⟩ := id E
  induction k with
  | zero => intro x1 x2 x3 x4 x5 t hf; exact absurd hf (by unfold f_SK_readTexts_8; exact fun h => nomatch h)
  | succ k ih =>
    intro x1 x2 x3 x4 x5 t hf H locs ls w hl
    unfold f_SK_readTexts_8 at hf
    refine lv_iload hx hb d_SK_readTexts_8 (lv_at hl 5 rfl) ?_
    refine lv_iload_n hx hb d_SK_readTexts_10 rfl (lv_at hl 2 rfl) ?_
    refine lv_icmp_gt (tgt := 55) hx hb d_SK_readTexts_11 (by decide) (fun hc1 => ?_) (fun hc1 => ?_)
    · have hf := mz_t hc1 hf
      exact b_SK_readTexts_55 E n x1 x2 x3 t hf _ _ _ w (lv_sub hl [0, 1, 2, 3] rfl)
    · have hf := mz_f hc1 hf
      refine lv_iload hx hb d_SK_readTexts_14 (lv_at hl 4 rfl) ?_
      refine lv_iload_n hx hb d_SK_readTexts_16 rfl (lv_at hl 2 rfl) ?_
      refine lv_icmp_gt (tgt := 55) hx hb d_SK_readTexts_17 (by decide) (fun hc9 => ?_) (fun hc9 => ?_)
      · have hf := mz_t hc9 hf
        exact b_SK_readTexts_55 E n x1 x2 x3 t hf _ _ _ w (lv_sub hl [0, 1, 2, 3] rfl)
      · have hf := mz_f hc9 hf
        refine lv_aload_n hx hb d_SK_readTexts_20 rfl (lv_at hl 0 rfl) ?_
        refine mz_get E w 30 0 (v := .ref (ad 1)) (by decide) rfl rfl ii_8 (by decide) (Nat.le_of_ble_eq_true rfl) k_331 rfl d_SK_readTexts_21 ?_
        refine lv_iload hx hb d_SK_readTexts_24 (lv_at hl 4 rfl) ?_
        refine lv_iload_n hx hb d_SK_readTexts_26 rfl (lv_at hl 2 rfl) ?_
        obtain ⟨q10, hq11, hf⟩ := mz_bd hf
        refine mz_callV E w (k := 1) (As := [.int x4, .int x2]) (rest := []) (c_SI_argumentEnd hSK l n x4 x2 t q10 hq11) (by decide) rfl rfl k_516 k_2 k_513 k_514 k_515 hm_SI_argumentEnd ⟨⟨rfl, rfl⟩, Nat.le_of_ble_eq_true rfl, Nat.le_of_ble_eq_true rfl⟩ rfl hl.1 rfl (Nat.le_of_ble_eq_true rfl) d_SK_readTexts_27 ⟨Nat.zero_le _, Nat.zero_le _⟩ (st1 := [.int q10.1]) rfl (fun H locs w => ?_)
        refine lv_istore (lv' := [(6, .int q10.1), (0, .ref (ad 30)), (1, .int x1), (2, .int x2), (3, .int x3), (4, .int x4), (5, .int x5)]) hx hb d_SK_readTexts_30 hl (by decide) rfl (fun ls hl => ?_)
        refine lv_iload hx hb d_SK_readTexts_32 (lv_at hl 0 rfl) ?_
        refine lv_iconst (v := (-1 : Int32)) hx hb d_SK_readTexts_34 (by decide) ?_
        refine lv_icmp_ne (tgt := 40) hx hb d_SK_readTexts_35 (by decide) (fun hc12 => ?_) (fun hc12 => ?_)
        · have hf := mz_f hc12 hf
          refine lv_iload hx hb d_SK_readTexts_40 (lv_at hl 0 rfl) ?_
          refine lv_iconst (v := (1 : Int32)) hx hb d_SK_readTexts_42 (by decide) ?_
          refine lv_iadd hx hb d_SK_readTexts_43 ?_
          refine lv_istore (lv' := [(4, .int (q10.1 + (1 : Int32))), (6, .int q10.1), (0, .ref (ad 30)), (1, .int x1), (2, .int x2), (3, .int x3), (5, .int x5)]) hx hb d_SK_readTexts_44 hl (by decide) rfl (fun ls hl => ?_)
          refine lv_iinc (v := (x3 + (1 : Int32))) (lv' := [(3, .int (x3 + (1 : Int32))), (4, .int (q10.1 + (1 : Int32))), (6, .int q10.1), (0, .ref (ad 30)), (1, .int x1), (2, .int x2), (5, .int x5)]) hx hb d_SK_readTexts_46 hl (k := 5) rfl rfl (by decide) rfl (fun ls hl => ?_)
          refine lv_iinc (v := (x5 + (1 : Int32))) (lv' := [(5, .int (x5 + (1 : Int32))), (3, .int (x3 + (1 : Int32))), (4, .int (q10.1 + (1 : Int32))), (6, .int q10.1), (0, .ref (ad 30)), (1, .int x1), (2, .int x2)]) hx hb d_SK_readTexts_49 hl (k := 6) rfl rfl (by decide) rfl (fun ls hl => ?_)
          refine lv_goto (tgt := 8) hx hb d_SK_readTexts_52 (by decide) ?_
          exact ih x1 x2 (x3 + (1 : Int32)) (q10.1 + (1 : Int32)) (x5 + (1 : Int32)) q10.2 hf _ _ _ w (lv_sub hl [4, 5, 6, 1, 2, 0] rfl)
        · have hf := mz_t hc12 hf
          refine lv_iconst (v := (-1 : Int32)) hx hb d_SK_readTexts_38 (by decide) ?_
          obtain rfl := Option.some.inj hf
          exact mz_iret E w rfl d_SK_readTexts_39
set_option maxRecDepth 100000 in
set_option maxHeartbeats 4000000 in
theorem c_SK_readTexts {SX : State → Heap → Prop} {dC : Nat → ClassId} {dI : Nat → Nat → Nat} {ad en : Nat → Nat} {ca : Nat → ClassId} (hSK : mz_SK SX ad 80) (l : Launch) (n : Nat) (x1 : Int32) (x2 : Int32) (t : mz_St) (res : (Int32 × mz_St)) (hf : f_SK_readTexts n x1 x2 t = some res) : mz_C SX mz_tC 80 mz_cl dC dI ad en ca l y_SK_readTexts prog_13_method_11_code 7 (some (.int)) (r_SK_readTexts) [.ref (ad 30), .int x1, .int x2] t (some (.int res.1)) res.2 := by
  unfold f_SK_readTexts at hf
  refine mz_met hSK (by decide) (Nat.le_of_ble_eq_true rfl) ?_
  intro p e s m args below meth c ls E w hl
  obtain ⟨hx, hb, hml, hown, hcx, -, -, hSX, -, -, -⟩ := id E
  have hl : lv_has ls 7 [(0, .ref (ad 30)), (1, .int x1), (2, .int x2)] := hl
  refine lv_iconst (v := (0 : Int32)) hx hb d_SK_readTexts_0 (by decide) ?_
  refine lv_istore_n (lv' := [(3, .int (0 : Int32)), (0, .ref (ad 30)), (1, .int x1), (2, .int x2)]) hx hb d_SK_readTexts_1 rfl hl (by decide) rfl (fun ls hl => ?_)
  refine lv_iload_n hx hb d_SK_readTexts_2 rfl (lv_at hl 2 rfl) ?_
  refine lv_istore (lv' := [(4, .int x1), (3, .int (0 : Int32)), (0, .ref (ad 30)), (1, .int x1), (2, .int x2)]) hx hb d_SK_readTexts_3 hl (by decide) rfl (fun ls hl => ?_)
  refine lv_iload_n hx hb d_SK_readTexts_5 rfl (lv_at hl 3 rfl) ?_
  refine lv_istore (lv' := [(5, .int x1), (4, .int x1), (3, .int (0 : Int32)), (0, .ref (ad 30)), (1, .int x1), (2, .int x2)]) hx hb d_SK_readTexts_6 hl (by decide) rfl (fun ls hl => ?_)
  exact b_SK_readTexts_8 E n n x1 x2 (0 : Int32) x1 x1 t hf _ _ _ w (lv_sub hl [3, 4, 5, 2, 1, 0] rfl)
