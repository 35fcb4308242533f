/-! MacroHouse$Macros.parametersOf(I)I -/
abbrev r_MA_parametersOf : Room := { frames := 0, cells := 0, slots := 0, locals := 0 }
def f_MA_parametersOf (n : Nat) (x1 : Int32) (t : mz_St) : Option (Int32 × mz_St) := if x1 < 0 then (some ((0 : Int32), t)) else (if (17 : Int32) ≤ x1 then (some ((0 : Int32), t)) else (if ¬ (x1 < 0 ∨ 17 ≤ x1.toNatClampNeg) then (some ((mz_gI t 19 x1.toNatClampNeg), t)) else none))
set_option maxRecDepth 100000 in
set_option maxHeartbeats 4000000 in
theorem c_MA_parametersOf {SX : State → Heap → Prop} {dC : Nat → ClassId} {dI : Nat → Nat → Nat} {ad en : Nat → Nat} {ca : Nat → ClassId} (hSK : mz_SK SX ad 80) (l : Launch) (n : Nat) (x1 : Int32) (t : mz_St) (res : (Int32 × mz_St)) (hf : f_MA_parametersOf n x1 t = some res) : mz_C SX mz_tC 80 mz_cl dC dI ad en ca l y_MA_parametersOf prog_8_method_7_code 2 (some (.int)) (r_MA_parametersOf) [.ref (ad 18), .int x1] t (some (.int res.1)) res.2 := by
  unfold f_MA_parametersOf at hf
  refine mz_met hSK (by decide) (Nat.le_of_ble_eq_true rfl) ?_
  intro p e s m args below meth c ls E w hl
  obtain ⟨hx, hb, hml, hown, hcx, -, -, hSX, -, -, -⟩ := id E
  have hl : lv_has ls 2 [(0, .ref (ad 18)), (1, .int x1)] := hl
  refine lv_iload_n hx hb d_MA_parametersOf_0 rfl (lv_at hl 1 rfl) ?_
  refine lv_if_lt (tgt := 19) hx hb d_MA_parametersOf_1 (by decide) (fun hc1 => ?_) (fun hc1 => ?_)
  · have hf := mz_t hc1 hf
    refine lv_iconst (v := (0 : Int32)) hx hb d_MA_parametersOf_19 (by decide) ?_
    obtain rfl := Option.some.inj hf
    exact mz_iret E w rfl d_MA_parametersOf_20
  · have hf := mz_f hc1 hf
    refine lv_iload_n hx hb d_MA_parametersOf_4 rfl (lv_at hl 1 rfl) ?_
    refine lv_bipush (v := (17 : Int32)) hx hb d_MA_parametersOf_5 (by decide) ?_
    refine lv_icmp_ge (tgt := 19) hx hb d_MA_parametersOf_7 (by decide) (fun hc2 => ?_) (fun hc2 => ?_)
    · have hf := mz_t hc2 hf
      refine lv_iconst (v := (0 : Int32)) hx hb d_MA_parametersOf_19 (by decide) ?_
      obtain rfl := Option.some.inj hf
      exact mz_iret E w rfl d_MA_parametersOf_20
    · have hf := mz_f hc2 hf
      refine lv_aload_n hx hb d_MA_parametersOf_10 rfl (lv_at hl 0 rfl) ?_
      refine mz_get E w 18 2 (v := .ref (ad 19)) (by decide) rfl rfl ii_7 (by decide) (Nat.le_of_ble_eq_true rfl) k_223 rfl d_MA_parametersOf_11 ?_
      refine lv_iload_n hx hb d_MA_parametersOf_14 rfl (lv_at hl 1 rfl) ?_
      obtain ⟨hi3, hf⟩ := mz_gd hf
      refine mz_iald E w 19 (by decide) rfl hi3 d_MA_parametersOf_15 ?_
      refine lv_goto (tgt := 20) hx hb d_MA_parametersOf_16 (by decide) ?_
      obtain rfl := Option.some.inj hf
      exact mz_iret E w rfl d_MA_parametersOf_20

/-! MacroHouse$Macros.findParameter(III)I -/
abbrev r_MA_findParameter : Room := { frames := 1, cells := 0, slots := 0, locals := 25 }
def f_MA_findParameter_66 (n : Nat) (K3 : Int32 → Int32 → Int32 → Int32 → mz_St → Option (Int32 × mz_St)) (x1 : Int32) (x2 : Int32) (x3 : Int32) (x4 : Int32) (t : mz_St) : Option (Int32 × mz_St) := K3 x1 x2 x3 (x4 + (1 : Int32)) t
def f_MA_findParameter_3 (n : Nat) : Nat → Int32 → Int32 → Int32 → Int32 → mz_St → Option (Int32 × mz_St)
  | 0, _, _, _, _, _ => none
  | k + 1, x1, x2, x3, x4, t => (f_MA_parametersOf n x1 t).bind fun q1 => if q1.1 ≤ x4 then (some ((-1 : Int32), q1.2)) else (if ((x1 * (6 : Int32)) + x4) < 0 then (f_MA_findParameter_66 n (f_MA_findParameter_3 n k) x1 x2 x3 x4 q1.2) else (if (102 : Int32) ≤ ((x1 * (6 : Int32)) + x4) then (f_MA_findParameter_66 n (f_MA_findParameter_3 n k) x1 x2 x3 x4 q1.2) else (if ¬ (((x1 * (6 : Int32)) + x4) < 0 ∨ 102 ≤ ((x1 * (6 : Int32)) + x4).toNatClampNeg) then (if ¬ (((x1 * (6 : Int32)) + x4) < 0 ∨ 102 ≤ ((x1 * (6 : Int32)) + x4).toNatClampNeg) then ((f_SI_same n (mz_gI q1.2 23 ((x1 * (6 : Int32)) + x4).toNatClampNeg) (mz_gI q1.2 24 ((x1 * (6 : Int32)) + x4).toNatClampNeg) x2 x3 q1.2).bind fun q8 => if q8.1 = 0 then (f_MA_findParameter_66 n (f_MA_findParameter_3 n k) x1 x2 x3 x4 q8.2) else (some (x4, q8.2))) else none) else none)))
def f_MA_findParameter (n : Nat) (x1 : Int32) (x2 : Int32) (x3 : Int32) (t : mz_St) : Option (Int32 × mz_St) := f_MA_findParameter_3 n n x1 x2 x3 (0 : Int32) t
set_option maxRecDepth 100000 in
set_option maxHeartbeats 4000000 in
theorem b_MA_findParameter_66 {SX : State → Heap → Prop} {dC : Nat → ClassId} {dI : Nat → Nat → Nat} {ad en : Nat → Nat} {ca : Nat → ClassId} {p : Program} {l : Launch} {e : Env} {s : State} {m : MethodId} {args : Array Value} {below : List Frame} {meth : Method} {c : Code} {res : (Int32 × mz_St)} (E : mz_En SX 80 mz_cl dC dI ad ca p s m meth c prog_8_method_10_code 6 "MacroHouse$Macros" (some (.int))) (n : Nat) (K3 : Int32 → Int32 → Int32 → Int32 → mz_St → Option (Int32 × mz_St)) (hK3 : ∀ (x1 : Int32) (x2 : Int32) (x3 : Int32) (x4 : Int32) (t : mz_St), K3 x1 x2 x3 x4 t = some res → ∀ (H : Heap) (locs : List Loc) (ls : Array Slot), mz_Wd mz_tC 80 mz_cl dC dI ad en ca s t H locs → lv_has ls 6 [(0, .ref (ad 18)), (1, .int x1), (2, .int x2), (3, .int x3), (4, .int x4)] → W p l e (r_MA_findParameter) s m args below meth c H locs 0 0 (MQ below (mz_Q SX mz_tC 80 mz_cl dC dI ad en ca (some (.int res.1)) res.2) args s 0 0 (mz_A ad 80)) (F0 m 3 ls [])) : ∀ (x1 : Int32) (x2 : Int32) (x3 : Int32) (x4 : Int32) (t : mz_St), f_MA_findParameter_66 n K3 x1 x2 x3 x4 t = some res → ∀ (H : Heap) (locs : List Loc) (ls : Array Slot), mz_Wd mz_tC 80 mz_cl dC dI ad en ca s t H locs → lv_has ls 6 [(0, .ref (ad 18)), (1, .int x1), (2, .int x2), (3, .int x3), (4, .int x4)] → W p l e (r_MA_findParameter) s m args below meth c H locs 0 0 (MQ below (mz_Q SX mz_tC 80 mz_cl dC dI ad en ca (some (.int res.1)) res.2) args s 0 0 (mz_A ad 80)) (F0 m 66 ls []) := by
  obtain ⟨hx, hb, hml, hown, hcx, -, -, hSX, -, -, hSK⟩ := id E
  intro x1 x2 x3 x4 t hf H locs ls w hl
  unfold f_MA_findParameter_66 at hf
  refine lv_iinc (v := (x4 + (1 : Int32))) (lv' := [(4, .int (x4 + (1 : Int32))), (0, .ref (ad 18)), (1, .int x1), (2, .int x2), (3, .int x3)]) hx hb d_MA_findParameter_66 hl (k := 4) rfl rfl (by decide) rfl (fun ls hl => ?_)
  refine lv_goto (tgt := 3) hx hb d_MA_findParameter_69 (by decide) ?_
  exact hK3 x1 x2 x3 (x4 + (1 : Int32)) t hf _ _ _ w (lv_sub hl [1, 2, 3, 4, 0] rfl)
set_option maxRecDepth 100000 in
set_option maxHeartbeats 4000000 in
theorem b_MA_findParameter_3 {SX : State → Heap → Prop} {dC : Nat → ClassId} {dI : Nat → Nat → Nat} {ad en : Nat → Nat} {ca : Nat → ClassId} {p : Program} {l : Launch} {e : Env} {s : State} {m : MethodId} {args : Array Value} {below : List Frame} {meth : Method} {c : Code} {res : (Int32 × mz_St)} (E : mz_En SX 80 mz_cl dC dI ad ca p s m meth c prog_8_method_10_code 6 "MacroHouse$Macros" (some (.int))) (n : Nat) (k : Nat) : ∀ (x1 : Int32) (x2 : Int32) (x3 : Int32) (x4 : Int32) (t : mz_St), f_MA_findParameter_3 n k x1 x2 x3 x4 t = some res → ∀ (H : Heap) (locs : List Loc) (ls : Array Slot), mz_Wd mz_tC 80 mz_cl dC dI ad en ca s t H locs → lv_has ls 6 [(0, .ref (ad 18)), (1, .int x1), (2, .int x2), (3, .int x3), (4, .int x4)] → W p l e (r_MA_findParameter) s m args below meth c H locs 0 0 (MQ below (mz_Q SX mz_tC 80 mz_cl dC dI ad en ca (some (.int res.1)) res.2) args s 0 0 (mz_A ad 80)) (F0 m 3 ls []) := by
  obtain ⟨hx, hb, hml, hown, hcx, -, -, hSX, -, -, hSK⟩ := id E
  induction k with
  | zero => intro x1 x2 x3 x4 t hf; exact absurd hf (by unfold f_MA_findParameter_3; exact fun h => nomatch h)
  | succ k ih =>
    intro x1 x2 x3 x4 t hf H locs ls w hl
    unfold f_MA_findParameter_3 at hf
    refine lv_iload hx hb d_MA_findParameter_3 (lv_at hl 4 rfl) ?_
    refine lv_aload_n hx hb d_MA_findParameter_5 rfl (lv_at hl 0 rfl) ?_
    refine lv_iload_n hx hb d_MA_findParameter_6 rfl (lv_at hl 1 rfl) ?_
    obtain ⟨q1, hq2, hf⟩ := mz_bd hf
    refine mz_callV E w (k := 18) (As := [.int x1]) (rest := [.int x4]) (c_MA_parametersOf hSK l n x1 t q1 hq2) (by decide) rfl rfl k_698 k_12 k_695 k_696 k_697 hm_MA_parametersOf ⟨⟨rfl, rfl⟩, Nat.le_of_ble_eq_true rfl, Nat.le_of_ble_eq_true rfl⟩ rfl hl.1 rfl (Nat.le_of_ble_eq_true rfl) d_MA_findParameter_7 ⟨Nat.zero_le _, Nat.zero_le _⟩ (st1 := [.int q1.1, .int x4]) rfl (fun H locs w => ?_)
    refine lv_icmp_ge (tgt := 72) hx hb d_MA_findParameter_10 (by decide) (fun hc3 => ?_) (fun hc3 => ?_)
    · have hf := mz_t hc3 hf
      refine lv_iconst (v := (-1 : Int32)) hx hb d_MA_findParameter_72 (by decide) ?_
      obtain rfl := Option.some.inj hf
      exact mz_iret E w rfl d_MA_findParameter_73
    · have hf := mz_f hc3 hf
      refine lv_iload_n hx hb d_MA_findParameter_13 rfl (lv_at hl 1 rfl) ?_
      refine lv_bipush (v := (6 : Int32)) hx hb d_MA_findParameter_14 (by decide) ?_
      refine lv_imul hx hb d_MA_findParameter_16 ?_
      refine lv_iload hx hb d_MA_findParameter_17 (lv_at hl 4 rfl) ?_
      refine lv_iadd hx hb d_MA_findParameter_19 ?_
      refine lv_istore (lv' := [(5, .int ((x1 * (6 : Int32)) + x4)), (0, .ref (ad 18)), (1, .int x1), (2, .int x2), (3, .int x3), (4, .int x4)]) hx hb d_MA_findParameter_20 hl (by decide) rfl (fun ls hl => ?_)
      refine lv_iload hx hb d_MA_findParameter_22 (lv_at hl 0 rfl) ?_
      refine lv_if_lt (tgt := 66) hx hb d_MA_findParameter_24 (by decide) (fun hc4 => ?_) (fun hc4 => ?_)
      · have hf := mz_t hc4 hf
        exact b_MA_findParameter_66 E n (f_MA_findParameter_3 n k) ih x1 x2 x3 x4 q1.2 hf _ _ _ w (lv_sub hl [1, 2, 3, 4, 5] rfl)
      · have hf := mz_f hc4 hf
        refine lv_iload hx hb d_MA_findParameter_27 (lv_at hl 0 rfl) ?_
        refine lv_aload_n hx hb d_MA_findParameter_29 rfl (lv_at hl 1 rfl) ?_
        refine mz_get E w 18 6 (v := .ref (ad 23)) (by decide) rfl rfl ii_7 (by decide) (Nat.le_of_ble_eq_true rfl) k_227 rfl d_MA_findParameter_30 ?_
        refine mz_alen E w 23 (v := (102 : Int32)) (by decide) rfl (by decide) rfl d_MA_findParameter_33 ?_
        refine lv_icmp_ge (tgt := 66) hx hb d_MA_findParameter_34 (by decide) (fun hc5 => ?_) (fun hc5 => ?_)
        · have hf := mz_t hc5 hf
          exact b_MA_findParameter_66 E n (f_MA_findParameter_3 n k) ih x1 x2 x3 x4 q1.2 hf _ _ _ w (lv_sub hl [1, 2, 3, 4, 5] rfl)
        · have hf := mz_f hc5 hf
          refine lv_aload_n hx hb d_MA_findParameter_37 rfl (lv_at hl 1 rfl) ?_
          refine mz_get E w 18 0 (v := .ref (ad 1)) (by decide) rfl rfl ii_7 (by decide) (Nat.le_of_ble_eq_true rfl) k_219 rfl d_MA_findParameter_38 ?_
          refine lv_aload_n hx hb d_MA_findParameter_41 rfl (lv_at hl 1 rfl) ?_
          refine mz_get E w 18 6 (v := .ref (ad 23)) (by decide) rfl rfl ii_7 (by decide) (Nat.le_of_ble_eq_true rfl) k_227 rfl d_MA_findParameter_42 ?_
          refine lv_iload hx hb d_MA_findParameter_45 (lv_at hl 0 rfl) ?_
          obtain ⟨hi6, hf⟩ := mz_gd hf
          refine mz_iald E w 23 (by decide) rfl hi6 d_MA_findParameter_47 ?_
          refine lv_aload_n hx hb d_MA_findParameter_48 rfl (lv_at hl 1 rfl) ?_
          refine mz_get E w 18 7 (v := .ref (ad 24)) (by decide) rfl rfl ii_7 (by decide) (Nat.le_of_ble_eq_true rfl) k_228 rfl d_MA_findParameter_49 ?_
          refine lv_iload hx hb d_MA_findParameter_52 (lv_at hl 0 rfl) ?_
          obtain ⟨hi7, hf⟩ := mz_gd hf
          refine mz_iald E w 24 (by decide) rfl hi7 d_MA_findParameter_54 ?_
          refine lv_iload_n hx hb d_MA_findParameter_55 rfl (lv_at hl 3 rfl) ?_
          refine lv_iload_n hx hb d_MA_findParameter_56 rfl (lv_at hl 4 rfl) ?_
          obtain ⟨q8, hq9, hf⟩ := mz_bd hf
          refine mz_callV E w (k := 1) (As := [.int (mz_gI q1.2 23 ((x1 * (6 : Int32)) + x4).toNatClampNeg), .int (mz_gI q1.2 24 ((x1 * (6 : Int32)) + x4).toNatClampNeg), .int x2, .int x3]) (rest := []) (c_SI_same hSK l n (mz_gI q1.2 23 ((x1 * (6 : Int32)) + x4).toNatClampNeg) (mz_gI q1.2 24 ((x1 * (6 : Int32)) + x4).toNatClampNeg) x2 x3 q1.2 q8 hq9) (by decide) rfl rfl k_678 k_2 k_699 k_676 k_677 hm_SI_same ⟨⟨rfl, rfl⟩, Nat.le_of_ble_eq_true rfl, Nat.le_of_ble_eq_true rfl⟩ rfl hl.1 rfl (Nat.le_of_ble_eq_true rfl) d_MA_findParameter_57 ⟨Nat.zero_le _, Nat.zero_le _⟩ (st1 := [.int q8.1]) rfl (fun H locs w => ?_)
          refine lv_if_eq (tgt := 66) hx hb d_MA_findParameter_60 (by decide) (fun hc10 => ?_) (fun hc10 => ?_)
          · have hf := mz_t hc10 hf
            exact b_MA_findParameter_66 E n (f_MA_findParameter_3 n k) ih x1 x2 x3 x4 q8.2 hf _ _ _ w (lv_sub hl [1, 2, 3, 4, 5] rfl)
          · have hf := mz_f hc10 hf
            refine lv_iload hx hb d_MA_findParameter_63 (lv_at hl 5 rfl) ?_
            obtain rfl := Option.some.inj hf
            exact mz_iret E w rfl d_MA_findParameter_65
set_option maxRecDepth 100000 in
set_option maxHeartbeats 4000000 in
theorem c_MA_findParameter {SX : State → Heap → Prop} {dC : Nat → ClassId} {dI : Nat → Nat → Nat} {ad en : Nat → Nat} {ca : Nat → ClassId} (hSK : mz_SK SX ad 80) (l : Launch) (n : Nat) (x1 : Int32) (x2 : Int32) (x3 : Int32) (t : mz_St) (res : (Int32 × mz_St)) (hf : f_MA_findParameter n x1 x2 x3 t = some res) : mz_C SX mz_tC 80 mz_cl dC dI ad en ca l y_MA_findParameter prog_8_method_10_code 6 (some (.int)) (r_MA_findParameter) [.ref (ad 18), .int x1, .int x2, .int x3] t (some (.int res.1)) res.2 := by
  unfold f_MA_findParameter at hf
  refine mz_met hSK (by decide) (Nat.le_of_ble_eq_true rfl) ?_
  intro p e s m args below meth c ls E w hl
  obtain ⟨hx, hb, hml, hown, hcx, -, -, hSX, -, -, -⟩ := id E
  have hl : lv_has ls 6 [(0, .ref (ad 18)), (1, .int x1), (2, .int x2), (3, .int x3)] := hl
  refine lv_iconst (v := (0 : Int32)) hx hb d_MA_findParameter_0 (by decide) ?_
  refine lv_istore (lv' := [(4, .int (0 : Int32)), (0, .ref (ad 18)), (1, .int x1), (2, .int x2), (3, .int x3)]) hx hb d_MA_findParameter_1 hl (by decide) rfl (fun ls hl => ?_)
  exact b_MA_findParameter_3 E n n x1 x2 x3 (0 : Int32) t hf _ _ _ w (lv_sub hl [1, 2, 3, 4, 0] rfl)

/-! MacroHouse$Macros.defaultStart(II)I -/
abbrev r_MA_defaultStart : Room := { frames := 0, cells := 0, slots := 0, locals := 0 }
def f_MA_defaultStart (n : Nat) (x1 : Int32) (x2 : Int32) (t : mz_St) : Option (Int32 × mz_St) := if ((x1 * (6 : Int32)) + x2) < 0 then (some ((-1 : Int32), t)) else (if (102 : Int32) ≤ ((x1 * (6 : Int32)) + x2) then (some ((-1 : Int32), t)) else (if ¬ (((x1 * (6 : Int32)) + x2) < 0 ∨ 102 ≤ ((x1 * (6 : Int32)) + x2).toNatClampNeg) then (some ((mz_gI t 25 ((x1 * (6 : Int32)) + x2).toNatClampNeg), t)) else none))
set_option maxRecDepth 100000 in
set_option maxHeartbeats 4000000 in
theorem c_MA_defaultStart {SX : State → Heap → Prop} {dC : Nat → ClassId} {dI : Nat → Nat → Nat} {ad en : Nat → Nat} {ca : Nat → ClassId} (hSK : mz_SK SX ad 80) (l : Launch) (n : Nat) (x1 : Int32) (x2 : Int32) (t : mz_St) (res : (Int32 × mz_St)) (hf : f_MA_defaultStart n x1 x2 t = some res) : mz_C SX mz_tC 80 mz_cl dC dI ad en ca l y_MA_defaultStart prog_8_method_11_code 4 (some (.int)) (r_MA_defaultStart) [.ref (ad 18), .int x1, .int x2] t (some (.int res.1)) res.2 := by
  unfold f_MA_defaultStart at hf
  refine mz_met hSK (by decide) (Nat.le_of_ble_eq_true rfl) ?_
  intro p e s m args below meth c ls E w hl
  obtain ⟨hx, hb, hml, hown, hcx, -, -, hSX, -, -, -⟩ := id E
  have hl : lv_has ls 4 [(0, .ref (ad 18)), (1, .int x1), (2, .int x2)] := hl
  refine lv_iload_n hx hb d_MA_defaultStart_0 rfl (lv_at hl 1 rfl) ?_
  refine lv_bipush (v := (6 : Int32)) hx hb d_MA_defaultStart_1 (by decide) ?_
  refine lv_imul hx hb d_MA_defaultStart_3 ?_
  refine lv_iload_n hx hb d_MA_defaultStart_4 rfl (lv_at hl 2 rfl) ?_
  refine lv_iadd hx hb d_MA_defaultStart_5 ?_
  refine lv_istore_n (lv' := [(3, .int ((x1 * (6 : Int32)) + x2)), (0, .ref (ad 18)), (1, .int x1), (2, .int x2)]) hx hb d_MA_defaultStart_6 rfl hl (by decide) rfl (fun ls hl => ?_)
  refine lv_iload_n hx hb d_MA_defaultStart_7 rfl (lv_at hl 0 rfl) ?_
  refine lv_if_lt (tgt := 29) hx hb d_MA_defaultStart_8 (by decide) (fun hc1 => ?_) (fun hc1 => ?_)
  · have hf := mz_t hc1 hf
    refine lv_iconst (v := (-1 : Int32)) hx hb d_MA_defaultStart_29 (by decide) ?_
    obtain rfl := Option.some.inj hf
    exact mz_iret E w rfl d_MA_defaultStart_30
  · have hf := mz_f hc1 hf
    refine lv_iload_n hx hb d_MA_defaultStart_11 rfl (lv_at hl 0 rfl) ?_
    refine lv_aload_n hx hb d_MA_defaultStart_12 rfl (lv_at hl 1 rfl) ?_
    refine mz_get E w 18 8 (v := .ref (ad 25)) (by decide) rfl rfl ii_7 (by decide) (Nat.le_of_ble_eq_true rfl) k_229 rfl d_MA_defaultStart_13 ?_
    refine mz_alen E w 25 (v := (102 : Int32)) (by decide) rfl (by decide) rfl d_MA_defaultStart_16 ?_
    refine lv_icmp_ge (tgt := 29) hx hb d_MA_defaultStart_17 (by decide) (fun hc2 => ?_) (fun hc2 => ?_)
    · have hf := mz_t hc2 hf
      refine lv_iconst (v := (-1 : Int32)) hx hb d_MA_defaultStart_29 (by decide) ?_
      obtain rfl := Option.some.inj hf
      exact mz_iret E w rfl d_MA_defaultStart_30
    · have hf := mz_f hc2 hf
      refine lv_aload_n hx hb d_MA_defaultStart_20 rfl (lv_at hl 1 rfl) ?_
      refine mz_get E w 18 8 (v := .ref (ad 25)) (by decide) rfl rfl ii_7 (by decide) (Nat.le_of_ble_eq_true rfl) k_229 rfl d_MA_defaultStart_21 ?_
      refine lv_iload_n hx hb d_MA_defaultStart_24 rfl (lv_at hl 0 rfl) ?_
      obtain ⟨hi3, hf⟩ := mz_gd hf
      refine mz_iald E w 25 (by decide) rfl hi3 d_MA_defaultStart_25 ?_
      refine lv_goto (tgt := 30) hx hb d_MA_defaultStart_26 (by decide) ?_
      obtain rfl := Option.some.inj hf
      exact mz_iret E w rfl d_MA_defaultStart_30

/-! MacroHouse$Macros.defaultStop(II)I -/
abbrev r_MA_defaultStop : Room := { frames := 0, cells := 0, slots := 0, locals := 0 }
def f_MA_defaultStop (n : Nat) (x1 : Int32) (x2 : Int32) (t : mz_St) : Option (Int32 × mz_St) := if ((x1 * (6 : Int32)) + x2) < 0 then (some ((-1 : Int32), t)) else (if (102 : Int32) ≤ ((x1 * (6 : Int32)) + x2) then (some ((-1 : Int32), t)) else (if ¬ (((x1 * (6 : Int32)) + x2) < 0 ∨ 102 ≤ ((x1 * (6 : Int32)) + x2).toNatClampNeg) then (some ((mz_gI t 26 ((x1 * (6 : Int32)) + x2).toNatClampNeg), t)) else none))
set_option maxRecDepth 100000 in
set_option maxHeartbeats 4000000 in
theorem c_MA_defaultStop {SX : State → Heap → Prop} {dC : Nat → ClassId} {dI : Nat → Nat → Nat} {ad en : Nat → Nat} {ca : Nat → ClassId} (hSK : mz_SK SX ad 80) (l : Launch) (n : Nat) (x1 : Int32) (x2 : Int32) (t : mz_St) (res : (Int32 × mz_St)) (hf : f_MA_defaultStop n x1 x2 t = some res) : mz_C SX mz_tC 80 mz_cl dC dI ad en ca l y_MA_defaultStop prog_8_method_12_code 4 (some (.int)) (r_MA_defaultStop) [.ref (ad 18), .int x1, .int x2] t (some (.int res.1)) res.2 := by
  unfold f_MA_defaultStop at hf
  refine mz_met hSK (by decide) (Nat.le_of_ble_eq_true rfl) ?_
  intro p e s m args below meth c ls E w hl
  obtain ⟨hx, hb, hml, hown, hcx, -, -, hSX, -, -, -⟩ := id E
  have hl : lv_has ls 4 [(0, .ref (ad 18)), (1, .int x1), (2, .int x2)] := hl
  refine lv_iload_n hx hb d_MA_defaultStop_0 rfl (lv_at hl 1 rfl) ?_
  refine lv_bipush (v := (6 : Int32)) hx hb d_MA_defaultStop_1 (by decide) ?_
  refine lv_imul hx hb d_MA_defaultStop_3 ?_
  refine lv_iload_n hx hb d_MA_defaultStop_4 rfl (lv_at hl 2 rfl) ?_
  refine lv_iadd hx hb d_MA_defaultStop_5 ?_
  refine lv_istore_n (lv' := [(3, .int ((x1 * (6 : Int32)) + x2)), (0, .ref (ad 18)), (1, .int x1), (2, .int x2)]) hx hb d_MA_defaultStop_6 rfl hl (by decide) rfl (fun ls hl => ?_)
  refine lv_iload_n hx hb d_MA_defaultStop_7 rfl (lv_at hl 0 rfl) ?_
  refine lv_if_lt (tgt := 29) hx hb d_MA_defaultStop_8 (by decide) (fun hc1 => ?_) (fun hc1 => ?_)
  · have hf := mz_t hc1 hf
    refine lv_iconst (v := (-1 : Int32)) hx hb d_MA_defaultStop_29 (by decide) ?_
    obtain rfl := Option.some.inj hf
    exact mz_iret E w rfl d_MA_defaultStop_30
  · have hf := mz_f hc1 hf
    refine lv_iload_n hx hb d_MA_defaultStop_11 rfl (lv_at hl 0 rfl) ?_
    refine lv_aload_n hx hb d_MA_defaultStop_12 rfl (lv_at hl 1 rfl) ?_
    refine mz_get E w 18 9 (v := .ref (ad 26)) (by decide) rfl rfl ii_7 (by decide) (Nat.le_of_ble_eq_true rfl) k_230 rfl d_MA_defaultStop_13 ?_
    refine mz_alen E w 26 (v := (102 : Int32)) (by decide) rfl (by decide) rfl d_MA_defaultStop_16 ?_
    refine lv_icmp_ge (tgt := 29) hx hb d_MA_defaultStop_17 (by decide) (fun hc2 => ?_) (fun hc2 => ?_)
    · have hf := mz_t hc2 hf
      refine lv_iconst (v := (-1 : Int32)) hx hb d_MA_defaultStop_29 (by decide) ?_
      obtain rfl := Option.some.inj hf
      exact mz_iret E w rfl d_MA_defaultStop_30
    · have hf := mz_f hc2 hf
      refine lv_aload_n hx hb d_MA_defaultStop_20 rfl (lv_at hl 1 rfl) ?_
      refine mz_get E w 18 9 (v := .ref (ad 26)) (by decide) rfl rfl ii_7 (by decide) (Nat.le_of_ble_eq_true rfl) k_230 rfl d_MA_defaultStop_21 ?_
      refine lv_iload_n hx hb d_MA_defaultStop_24 rfl (lv_at hl 0 rfl) ?_
      obtain ⟨hi3, hf⟩ := mz_gd hf
      refine mz_iald E w 26 (by decide) rfl hi3 d_MA_defaultStop_25 ?_
      refine lv_goto (tgt := 30) hx hb d_MA_defaultStop_26 (by decide) ?_
      obtain rfl := Option.some.inj hf
      exact mz_iret E w rfl d_MA_defaultStop_30

/-! MacroHouse$Macros.firstLineOf(I)I -/
abbrev r_MA_firstLineOf : Room := { frames := 0, cells := 0, slots := 0, locals := 0 }
def f_MA_firstLineOf (n : Nat) (x1 : Int32) (t : mz_St) : Option (Int32 × mz_St) := if x1 < 0 then (some ((0 : Int32), t)) else (if (17 : Int32) ≤ x1 then (some ((0 : Int32), t)) else (if ¬ (x1 < 0 ∨ 17 ≤ x1.toNatClampNeg) then (some (((mz_gI t 21 x1.toNatClampNeg) + (1 : Int32)), t)) else none))
set_option maxRecDepth 100000 in
set_option maxHeartbeats 4000000 in
theorem c_MA_firstLineOf {SX : State → Heap → Prop} {dC : Nat → ClassId} {dI : Nat → Nat → Nat} {ad en : Nat → Nat} {ca : Nat → ClassId} (hSK : mz_SK SX ad 80) (l : Launch) (n : Nat) (x1 : Int32) (t : mz_St) (res : (Int32 × mz_St)) (hf : f_MA_firstLineOf n x1 t = some res) : mz_C SX mz_tC 80 mz_cl dC dI ad en ca l y_MA_firstLineOf prog_8_method_8_code 2 (some (.int)) (r_MA_firstLineOf) [.ref (ad 18), .int x1] t (some (.int res.1)) res.2 := by
  unfold f_MA_firstLineOf at hf
  refine mz_met hSK (by decide) (Nat.le_of_ble_eq_true rfl) ?_
  intro p e s m args below meth c ls E w hl
  obtain ⟨hx, hb, hml, hown, hcx, -, -, hSX, -, -, -⟩ := id E
  have hl : lv_has ls 2 [(0, .ref (ad 18)), (1, .int x1)] := hl
  refine lv_iload_n hx hb d_MA_firstLineOf_0 rfl (lv_at hl 1 rfl) ?_
  refine lv_if_lt (tgt := 21) hx hb d_MA_firstLineOf_1 (by decide) (fun hc1 => ?_) (fun hc1 => ?_)
  · have hf := mz_t hc1 hf
    refine lv_iconst (v := (0 : Int32)) hx hb d_MA_firstLineOf_21 (by decide) ?_
    obtain rfl := Option.some.inj hf
    exact mz_iret E w rfl d_MA_firstLineOf_22
  · have hf := mz_f hc1 hf
    refine lv_iload_n hx hb d_MA_firstLineOf_4 rfl (lv_at hl 1 rfl) ?_
    refine lv_bipush (v := (17 : Int32)) hx hb d_MA_firstLineOf_5 (by decide) ?_
    refine lv_icmp_ge (tgt := 21) hx hb d_MA_firstLineOf_7 (by decide) (fun hc2 => ?_) (fun hc2 => ?_)
    · have hf := mz_t hc2 hf
      refine lv_iconst (v := (0 : Int32)) hx hb d_MA_firstLineOf_21 (by decide) ?_
      obtain rfl := Option.some.inj hf
      exact mz_iret E w rfl d_MA_firstLineOf_22
    · have hf := mz_f hc2 hf
      refine lv_aload_n hx hb d_MA_firstLineOf_10 rfl (lv_at hl 0 rfl) ?_
      refine mz_get E w 18 4 (v := .ref (ad 21)) (by decide) rfl rfl ii_7 (by decide) (Nat.le_of_ble_eq_true rfl) k_225 rfl d_MA_firstLineOf_11 ?_
      refine lv_iload_n hx hb d_MA_firstLineOf_14 rfl (lv_at hl 1 rfl) ?_
      obtain ⟨hi3, hf⟩ := mz_gd hf
      refine mz_iald E w 21 (by decide) rfl hi3 d_MA_firstLineOf_15 ?_
      refine lv_iconst (v := (1 : Int32)) hx hb d_MA_firstLineOf_16 (by decide) ?_
      refine lv_iadd hx hb d_MA_firstLineOf_17 ?_
      refine lv_goto (tgt := 22) hx hb d_MA_firstLineOf_18 (by decide) ?_
      obtain rfl := Option.some.inj hf
      exact mz_iret E w rfl d_MA_firstLineOf_22

/-! MacroHouse$Macros.linesOf(I)I -/
abbrev r_MA_linesOf : Room := { frames := 0, cells := 0, slots := 0, locals := 0 }
def f_MA_linesOf (n : Nat) (x1 : Int32) (t : mz_St) : Option (Int32 × mz_St) := if x1 < 0 then (some ((0 : Int32), t)) else (if (17 : Int32) ≤ x1 then (some ((0 : Int32), t)) else (if ¬ (x1 < 0 ∨ 17 ≤ x1.toNatClampNeg) then (some ((mz_gI t 20 x1.toNatClampNeg), t)) else none))
set_option maxRecDepth 100000 in
set_option maxHeartbeats 4000000 in
theorem c_MA_linesOf {SX : State → Heap → Prop} {dC : Nat → ClassId} {dI : Nat → Nat → Nat} {ad en : Nat → Nat} {ca : Nat → ClassId} (hSK : mz_SK SX ad 80) (l : Launch) (n : Nat) (x1 : Int32) (t : mz_St) (res : (Int32 × mz_St)) (hf : f_MA_linesOf n x1 t = some res) : mz_C SX mz_tC 80 mz_cl dC dI ad en ca l y_MA_linesOf prog_8_method_9_code 2 (some (.int)) (r_MA_linesOf) [.ref (ad 18), .int x1] t (some (.int res.1)) res.2 := by
  unfold f_MA_linesOf at hf
  refine mz_met hSK (by decide) (Nat.le_of_ble_eq_true rfl) ?_
  intro p e s m args below meth c ls E w hl
  obtain ⟨hx, hb, hml, hown, hcx, -, -, hSX, -, -, -⟩ := id E
  have hl : lv_has ls 2 [(0, .ref (ad 18)), (1, .int x1)] := hl
  refine lv_iload_n hx hb d_MA_linesOf_0 rfl (lv_at hl 1 rfl) ?_
  refine lv_if_lt (tgt := 19) hx hb d_MA_linesOf_1 (by decide) (fun hc1 => ?_) (fun hc1 => ?_)
  · have hf := mz_t hc1 hf
    refine lv_iconst (v := (0 : Int32)) hx hb d_MA_linesOf_19 (by decide) ?_
    obtain rfl := Option.some.inj hf
    exact mz_iret E w rfl d_MA_linesOf_20
  · have hf := mz_f hc1 hf
    refine lv_iload_n hx hb d_MA_linesOf_4 rfl (lv_at hl 1 rfl) ?_
    refine lv_bipush (v := (17 : Int32)) hx hb d_MA_linesOf_5 (by decide) ?_
    refine lv_icmp_ge (tgt := 19) hx hb d_MA_linesOf_7 (by decide) (fun hc2 => ?_) (fun hc2 => ?_)
    · have hf := mz_t hc2 hf
      refine lv_iconst (v := (0 : Int32)) hx hb d_MA_linesOf_19 (by decide) ?_
      obtain rfl := Option.some.inj hf
      exact mz_iret E w rfl d_MA_linesOf_20
    · have hf := mz_f hc2 hf
      refine lv_aload_n hx hb d_MA_linesOf_10 rfl (lv_at hl 0 rfl) ?_
      refine mz_get E w 18 3 (v := .ref (ad 20)) (by decide) rfl rfl ii_7 (by decide) (Nat.le_of_ble_eq_true rfl) k_224 rfl d_MA_linesOf_11 ?_
      refine lv_iload_n hx hb d_MA_linesOf_14 rfl (lv_at hl 1 rfl) ?_
      obtain ⟨hi3, hf⟩ := mz_gd hf
      refine mz_iald E w 20 (by decide) rfl hi3 d_MA_linesOf_15 ?_
      refine lv_goto (tgt := 20) hx hb d_MA_linesOf_16 (by decide) ?_
      obtain rfl := Option.some.inj hf
      exact mz_iret E w rfl d_MA_linesOf_20

/-! MacroHouse$Macros.countCall(I)V -/
abbrev r_MA_countCall : Room := { frames := 0, cells := 0, slots := 0, locals := 0 }
def f_MA_countCall (n : Nat) (x1 : Int32) (t : mz_St) : Option mz_St := if x1 < 0 then (some t) else (if (17 : Int32) ≤ x1 then (some t) else (if ¬ (x1 < 0 ∨ 17 ≤ x1.toNatClampNeg) then (if ¬ (x1 < 0 ∨ 17 ≤ x1.toNatClampNeg) then (mz_let (mz_pI t 22 x1.toNatClampNeg ((mz_gI t 22 x1.toNatClampNeg) + (1 : Int32))) fun t5 => some t5) else none) else none))
set_option maxRecDepth 100000 in
set_option maxHeartbeats 4000000 in
theorem c_MA_countCall {SX : State → Heap → Prop} {dC : Nat → ClassId} {dI : Nat → Nat → Nat} {ad en : Nat → Nat} {ca : Nat → ClassId} (hSK : mz_SK SX ad 80) (l : Launch) (n : Nat) (x1 : Int32) (t : mz_St) (res : mz_St) (hf : f_MA_countCall n x1 t = some res) : mz_C SX mz_tC 80 mz_cl dC dI ad en ca l y_MA_countCall prog_8_method_6_code 2 none (r_MA_countCall) [.ref (ad 18), .int x1] t none res := by
  unfold f_MA_countCall at hf
  refine mz_met hSK (by decide) (Nat.le_of_ble_eq_true rfl) ?_
  intro p e s m args below meth c ls E w hl
  obtain ⟨hx, hb, hml, hown, hcx, -, -, hSX, -, -, -⟩ := id E
  have hl : lv_has ls 2 [(0, .ref (ad 18)), (1, .int x1)] := hl
  refine lv_iload_n hx hb d_MA_countCall_0 rfl (lv_at hl 1 rfl) ?_
  refine lv_if_lt (tgt := 20) hx hb d_MA_countCall_1 (by decide) (fun hc1 => ?_) (fun hc1 => ?_)
  · have hf := mz_t hc1 hf
    obtain rfl := Option.some.inj hf
    exact mz_vret E w rfl d_MA_countCall_20
  · have hf := mz_f hc1 hf
    refine lv_iload_n hx hb d_MA_countCall_4 rfl (lv_at hl 1 rfl) ?_
    refine lv_bipush (v := (17 : Int32)) hx hb d_MA_countCall_5 (by decide) ?_
    refine lv_icmp_ge (tgt := 20) hx hb d_MA_countCall_7 (by decide) (fun hc2 => ?_) (fun hc2 => ?_)
    · have hf := mz_t hc2 hf
      obtain rfl := Option.some.inj hf
      exact mz_vret E w rfl d_MA_countCall_20
    · have hf := mz_f hc2 hf
      refine lv_aload_n hx hb d_MA_countCall_10 rfl (lv_at hl 0 rfl) ?_
      refine mz_get E w 18 5 (v := .ref (ad 22)) (by decide) rfl rfl ii_7 (by decide) (Nat.le_of_ble_eq_true rfl) k_226 rfl d_MA_countCall_11 ?_
      refine lv_iload_n hx hb d_MA_countCall_14 rfl (lv_at hl 1 rfl) ?_
      refine lv_dup2_11 hx hb d_MA_countCall_15 rfl rfl ?_
      obtain ⟨hi3, hf⟩ := mz_gd hf
      refine mz_iald E w 22 (by decide) rfl hi3 d_MA_countCall_16 ?_
      refine lv_iconst (v := (1 : Int32)) hx hb d_MA_countCall_17 (by decide) ?_
      refine lv_iadd hx hb d_MA_countCall_18 ?_
      obtain ⟨hi4, hf⟩ := mz_gd hf
      refine mz_iast E w 22 (x := ((mz_gI t 22 x1.toNatClampNeg) + (1 : Int32))) (by decide) rfl hi4 d_MA_countCall_19 (fun H locs w => ?_)
      obtain ⟨t5, e_t5, hf⟩ := mz_lt hf
      rw [← e_t5] at w
      obtain rfl := Option.some.inj hf
      exact mz_vret E w rfl d_MA_countCall_20

/-! MacroHouse$Macros.readParameter(LMacroHouse$Reader;II)Z -/
abbrev r_MA_readParameter : Room := { frames := 3, cells := 0, slots := 0, locals := 64 }
def f_MA_readParameter (n : Nat) (x2 : Int32) (x3 : Int32) (t : mz_St) : Option (Int32 × mz_St) := if x3 < 0 then (some ((0 : Int32), t)) else (if (102 : Int32) ≤ x3 then (some ((0 : Int32), t)) else ((f_RE_takeWord n t).bind fun q3 => if q3.1 = 0 then (some ((0 : Int32), q3.2)) else ((f_MA_findParameter n x2 (mz_gI q3.2 6 4) (mz_gI q3.2 6 5) q3.2).bind fun q6 => if q6.1 = (-1 : Int32) then (if ¬ (x3 < 0 ∨ 102 ≤ x3.toNatClampNeg) then (mz_let (mz_pI q6.2 23 x3.toNatClampNeg (mz_gI q6.2 6 4)) fun t10 => if ¬ (x3 < 0 ∨ 102 ≤ x3.toNatClampNeg) then (mz_let (mz_pI t10 24 x3.toNatClampNeg (mz_gI t10 6 5)) fun t12 => if ¬ (x3 < 0 ∨ 102 ≤ x3.toNatClampNeg) then (mz_let (mz_pI t12 25 x3.toNatClampNeg (-1 : Int32)) fun t14 => if ¬ (x3 < 0 ∨ 102 ≤ x3.toNatClampNeg) then (mz_let (mz_pI t14 26 x3.toNatClampNeg (-1 : Int32)) fun t16 => (f_RE_take n (61 : Int32) t16).bind fun q17 => if q17.1 = 0 then (some ((1 : Int32), q17.2)) else ((f_SI_find n (44 : Int32) (mz_gI q17.2 6 2) (mz_gI q17.2 6 3) q17.2).bind fun q20 => (f_SI_behindBlanks n (mz_gI q20.2 6 2) q20.1 q20.2).bind fun q22 => if ¬ (x3 < 0 ∨ 102 ≤ x3.toNatClampNeg) then (mz_let (mz_pI q22.2 25 x3.toNatClampNeg q22.1) fun t25 => if ¬ (x3 < 0 ∨ 102 ≤ x3.toNatClampNeg) then ((f_SI_aheadOfBlanks n (mz_gI t25 25 x3.toNatClampNeg) q20.1 t25).bind fun q27 => if ¬ (x3 < 0 ∨ 102 ≤ x3.toNatClampNeg) then (mz_let (mz_pI q27.2 26 x3.toNatClampNeg q27.1) fun t30 => mz_let (mz_pI t30 6 2 q20.1) fun t31 => some ((1 : Int32), t31)) else none) else none) else none)) else none) else none) else none) else none) else (some ((0 : Int32), q6.2)))))
set_option maxRecDepth 100000 in
set_option maxHeartbeats 4000000 in
theorem c_MA_readParameter {SX : State → Heap → Prop} {dC : Nat → ClassId} {dI : Nat → Nat → Nat} {ad en : Nat → Nat} {ca : Nat → ClassId} (hSK : mz_SK SX ad 80) (l : Launch) (n : Nat) (x2 : Int32) (x3 : Int32) (t : mz_St) (res : (Int32 × mz_St)) (hf : f_MA_readParameter n x2 x3 t = some res) : mz_C SX mz_tC 80 mz_cl dC dI ad en ca l y_MA_readParameter prog_8_method_3_code 5 (some (.boolean)) (r_MA_readParameter) [.ref (ad 18), .ref (ad 6), .int x2, .int x3] t (some (.int res.1)) res.2 := by
  unfold f_MA_readParameter at hf
  refine mz_met hSK (by decide) (Nat.le_of_ble_eq_true rfl) ?_
  intro p e s m args below meth c ls E w hl
  obtain ⟨hx, hb, hml, hown, hcx, -, -, hSX, -, -, -⟩ := id E
  have hl : lv_has ls 5 [(0, .ref (ad 18)), (1, .ref (ad 6)), (2, .int x2), (3, .int x3)] := hl
  refine lv_iload_n hx hb d_MA_readParameter_0 rfl (lv_at hl 3 rfl) ?_
  refine lv_if_lt (tgt := 20) hx hb d_MA_readParameter_1 (by decide) (fun hc1 => ?_) (fun hc1 => ?_)
  · have hf := mz_t hc1 hf
    refine lv_iconst (v := (0 : Int32)) hx hb d_MA_readParameter_20 (by decide) ?_
    obtain rfl := Option.some.inj hf
    exact mz_zret E w (by decide) rfl d_MA_readParameter_21
  · have hf := mz_f hc1 hf
    refine lv_iload_n hx hb d_MA_readParameter_4 rfl (lv_at hl 3 rfl) ?_
    refine lv_aload_n hx hb d_MA_readParameter_5 rfl (lv_at hl 0 rfl) ?_
    refine mz_get E w 18 6 (v := .ref (ad 23)) (by decide) rfl rfl ii_7 (by decide) (Nat.le_of_ble_eq_true rfl) k_227 rfl d_MA_readParameter_6 ?_
    refine mz_alen E w 23 (v := (102 : Int32)) (by decide) rfl (by decide) rfl d_MA_readParameter_9 ?_
    refine lv_icmp_ge (tgt := 20) hx hb d_MA_readParameter_10 (by decide) (fun hc2 => ?_) (fun hc2 => ?_)
    · have hf := mz_t hc2 hf
      refine lv_iconst (v := (0 : Int32)) hx hb d_MA_readParameter_20 (by decide) ?_
      obtain rfl := Option.some.inj hf
      exact mz_zret E w (by decide) rfl d_MA_readParameter_21
    · have hf := mz_f hc2 hf
      refine lv_aload_n hx hb d_MA_readParameter_13 rfl (lv_at hl 1 rfl) ?_
      obtain ⟨q3, hq4, hf⟩ := mz_bd hf
      refine mz_callV E w (k := 6) (As := []) (rest := []) (c_RE_takeWord hSK l n t q3 hq4) (by decide) rfl rfl k_793 k_11 k_942 k_791 k_792 hm_RE_takeWord ⟨⟨rfl, rfl⟩, Nat.le_of_ble_eq_true rfl, Nat.le_of_ble_eq_true rfl⟩ rfl hl.1 rfl (Nat.le_of_ble_eq_true rfl) d_MA_readParameter_14 ⟨Nat.zero_le _, Nat.zero_le _⟩ (st1 := [.int q3.1]) rfl (fun H locs w => ?_)
      refine lv_if_ne (tgt := 22) hx hb d_MA_readParameter_17 (by decide) (fun hc5 => ?_) (fun hc5 => ?_)
      · have hf := mz_f hc5 hf
        refine lv_aload_n hx hb d_MA_readParameter_22 rfl (lv_at hl 0 rfl) ?_
        refine lv_iload_n hx hb d_MA_readParameter_23 rfl (lv_at hl 2 rfl) ?_
        refine lv_aload_n hx hb d_MA_readParameter_24 rfl (lv_at hl 1 rfl) ?_
        refine mz_get E w 6 4 (v := .int (mz_gI q3.2 6 4)) (by decide) rfl rfl ii_3 (by decide) (Nat.le_of_ble_eq_true rfl) k_184 rfl d_MA_readParameter_25 ?_
        refine lv_aload_n hx hb d_MA_readParameter_28 rfl (lv_at hl 1 rfl) ?_
        refine mz_get E w 6 5 (v := .int (mz_gI q3.2 6 5)) (by decide) rfl rfl ii_3 (by decide) (Nat.le_of_ble_eq_true rfl) k_187 rfl d_MA_readParameter_29 ?_
        obtain ⟨q6, hq7, hf⟩ := mz_bd hf
        refine mz_callV E w (k := 18) (As := [.int x2, .int (mz_gI q3.2 6 4), .int (mz_gI q3.2 6 5)]) (rest := []) (c_MA_findParameter hSK l n x2 (mz_gI q3.2 6 4) (mz_gI q3.2 6 5) q3.2 q6 hq7) (by decide) rfl rfl k_694 k_12 k_948 k_692 k_693 hm_MA_findParameter ⟨⟨rfl, rfl⟩, Nat.le_of_ble_eq_true rfl, Nat.le_of_ble_eq_true rfl⟩ rfl hl.1 rfl (Nat.le_of_ble_eq_true rfl) d_MA_readParameter_32 ⟨Nat.zero_le _, Nat.zero_le _⟩ (st1 := [.int q6.1]) rfl (fun H locs w => ?_)
        refine lv_iconst (v := (-1 : Int32)) hx hb d_MA_readParameter_35 (by decide) ?_
        refine lv_icmp_eq (tgt := 41) hx hb d_MA_readParameter_36 (by decide) (fun hc8 => ?_) (fun hc8 => ?_)
        · have hf := mz_t hc8 hf
          refine lv_aload_n hx hb d_MA_readParameter_41 rfl (lv_at hl 0 rfl) ?_
          refine mz_get E w 18 6 (v := .ref (ad 23)) (by decide) rfl rfl ii_7 (by decide) (Nat.le_of_ble_eq_true rfl) k_227 rfl d_MA_readParameter_42 ?_
          refine lv_iload_n hx hb d_MA_readParameter_45 rfl (lv_at hl 3 rfl) ?_
          refine lv_aload_n hx hb d_MA_readParameter_46 rfl (lv_at hl 1 rfl) ?_
          refine mz_get E w 6 4 (v := .int (mz_gI q6.2 6 4)) (by decide) rfl rfl ii_3 (by decide) (Nat.le_of_ble_eq_true rfl) k_184 rfl d_MA_readParameter_47 ?_
          obtain ⟨hi9, hf⟩ := mz_gd hf
          refine mz_iast E w 23 (x := (mz_gI q6.2 6 4)) (by decide) rfl hi9 d_MA_readParameter_50 (fun H locs w => ?_)
          obtain ⟨t10, e_t10, hf⟩ := mz_lt hf
          rw [← e_t10] at w
          refine lv_aload_n hx hb d_MA_readParameter_51 rfl (lv_at hl 0 rfl) ?_
          refine mz_get E w 18 7 (v := .ref (ad 24)) (by decide) rfl rfl ii_7 (by decide) (Nat.le_of_ble_eq_true rfl) k_228 rfl d_MA_readParameter_52 ?_
          refine lv_iload_n hx hb d_MA_readParameter_55 rfl (lv_at hl 3 rfl) ?_
          refine lv_aload_n hx hb d_MA_readParameter_56 rfl (lv_at hl 1 rfl) ?_
          refine mz_get E w 6 5 (v := .int (mz_gI t10 6 5)) (by decide) rfl rfl ii_3 (by decide) (Nat.le_of_ble_eq_true rfl) k_187 rfl d_MA_readParameter_57 ?_
          obtain ⟨hi11, hf⟩ := mz_gd hf
          refine mz_iast E w 24 (x := (mz_gI t10 6 5)) (by decide) rfl hi11 d_MA_readParameter_60 (fun H locs w => ?_)
          obtain ⟨t12, e_t12, hf⟩ := mz_lt hf
          rw [← e_t12] at w
          refine lv_aload_n hx hb d_MA_readParameter_61 rfl (lv_at hl 0 rfl) ?_
          refine mz_get E w 18 8 (v := .ref (ad 25)) (by decide) rfl rfl ii_7 (by decide) (Nat.le_of_ble_eq_true rfl) k_229 rfl d_MA_readParameter_62 ?_
          refine lv_iload_n hx hb d_MA_readParameter_65 rfl (lv_at hl 3 rfl) ?_
          refine lv_iconst (v := (-1 : Int32)) hx hb d_MA_readParameter_66 (by decide) ?_
          obtain ⟨hi13, hf⟩ := mz_gd hf
          refine mz_iast E w 25 (x := (-1 : Int32)) (by decide) rfl hi13 d_MA_readParameter_67 (fun H locs w => ?_)
          obtain ⟨t14, e_t14, hf⟩ := mz_lt hf
          rw [← e_t14] at w
          refine lv_aload_n hx hb d_MA_readParameter_68 rfl (lv_at hl 0 rfl) ?_
          refine mz_get E w 18 9 (v := .ref (ad 26)) (by decide) rfl rfl ii_7 (by decide) (Nat.le_of_ble_eq_true rfl) k_230 rfl d_MA_readParameter_69 ?_
          refine lv_iload_n hx hb d_MA_readParameter_72 rfl (lv_at hl 3 rfl) ?_
          refine lv_iconst (v := (-1 : Int32)) hx hb d_MA_readParameter_73 (by decide) ?_
          obtain ⟨hi15, hf⟩ := mz_gd hf
          refine mz_iast E w 26 (x := (-1 : Int32)) (by decide) rfl hi15 d_MA_readParameter_74 (fun H locs w => ?_)
          obtain ⟨t16, e_t16, hf⟩ := mz_lt hf
          rw [← e_t16] at w
          refine lv_aload_n hx hb d_MA_readParameter_75 rfl (lv_at hl 1 rfl) ?_
          refine lv_bipush (v := (61 : Int32)) hx hb d_MA_readParameter_76 (by decide) ?_
          obtain ⟨q17, hq18, hf⟩ := mz_bd hf
          refine mz_callV E w (k := 6) (As := [.int (61 : Int32)]) (rest := []) (c_RE_take hSK l n (61 : Int32) t16 q17 hq18) (by decide) rfl rfl k_799 k_11 k_949 k_797 k_798 hm_RE_take ⟨⟨rfl, rfl⟩, Nat.le_of_ble_eq_true rfl, Nat.le_of_ble_eq_true rfl⟩ rfl hl.1 rfl (Nat.le_of_ble_eq_true rfl) d_MA_readParameter_78 ⟨Nat.zero_le _, Nat.zero_le _⟩ (st1 := [.int q17.1]) rfl (fun H locs w => ?_)
          refine lv_if_eq (tgt := 149) hx hb d_MA_readParameter_81 (by decide) (fun hc19 => ?_) (fun hc19 => ?_)
          · have hf := mz_t hc19 hf
            refine lv_iconst (v := (1 : Int32)) hx hb d_MA_readParameter_149 (by decide) ?_
            obtain rfl := Option.some.inj hf
            exact mz_zret E w (by decide) rfl d_MA_readParameter_150
          · have hf := mz_f hc19 hf
            refine lv_aload_n hx hb d_MA_readParameter_84 rfl (lv_at hl 0 rfl) ?_
            refine mz_get E w 18 0 (v := .ref (ad 1)) (by decide) rfl rfl ii_7 (by decide) (Nat.le_of_ble_eq_true rfl) k_219 rfl d_MA_readParameter_85 ?_
            refine lv_bipush (v := (44 : Int32)) hx hb d_MA_readParameter_88 (by decide) ?_
            refine lv_aload_n hx hb d_MA_readParameter_90 rfl (lv_at hl 1 rfl) ?_
            refine mz_get E w 6 2 (v := .int (mz_gI q17.2 6 2)) (by decide) rfl rfl ii_3 (by decide) (Nat.le_of_ble_eq_true rfl) k_180 rfl d_MA_readParameter_91 ?_
            refine lv_aload_n hx hb d_MA_readParameter_94 rfl (lv_at hl 1 rfl) ?_
            refine mz_get E w 6 3 (v := .int (mz_gI q17.2 6 3)) (by decide) rfl rfl ii_3 (by decide) (Nat.le_of_ble_eq_true rfl) k_183 rfl d_MA_readParameter_95 ?_
            obtain ⟨q20, hq21, hf⟩ := mz_bd hf
            refine mz_callV E w (k := 1) (As := [.int (44 : Int32), .int (mz_gI q17.2 6 2), .int (mz_gI q17.2 6 3)]) (rest := []) (c_SI_find hSK l n (44 : Int32) (mz_gI q17.2 6 2) (mz_gI q17.2 6 3) q17.2 q20 hq21) (by decide) rfl rfl k_458 k_2 k_950 k_456 k_457 hm_SI_find ⟨⟨rfl, rfl⟩, Nat.le_of_ble_eq_true rfl, Nat.le_of_ble_eq_true rfl⟩ rfl hl.1 rfl (Nat.le_of_ble_eq_true rfl) d_MA_readParameter_98 ⟨Nat.zero_le _, Nat.zero_le _⟩ (st1 := [.int q20.1]) rfl (fun H locs w => ?_)
            refine lv_istore (lv' := [(4, .int q20.1), (0, .ref (ad 18)), (1, .ref (ad 6)), (2, .int x2), (3, .int x3)]) hx hb d_MA_readParameter_101 hl (by decide) rfl (fun ls hl => ?_)
            refine lv_aload_n hx hb d_MA_readParameter_103 rfl (lv_at hl 1 rfl) ?_
            refine mz_get E w 18 8 (v := .ref (ad 25)) (by decide) rfl rfl ii_7 (by decide) (Nat.le_of_ble_eq_true rfl) k_229 rfl d_MA_readParameter_104 ?_
            refine lv_iload_n hx hb d_MA_readParameter_107 rfl (lv_at hl 4 rfl) ?_
            refine lv_aload_n hx hb d_MA_readParameter_108 rfl (lv_at hl 1 rfl) ?_
            refine mz_get E w 18 0 (v := .ref (ad 1)) (by decide) rfl rfl ii_7 (by decide) (Nat.le_of_ble_eq_true rfl) k_219 rfl d_MA_readParameter_109 ?_
            refine lv_aload_n hx hb d_MA_readParameter_112 rfl (lv_at hl 2 rfl) ?_
            refine mz_get E w 6 2 (v := .int (mz_gI q20.2 6 2)) (by decide) rfl rfl ii_3 (by decide) (Nat.le_of_ble_eq_true rfl) k_180 rfl d_MA_readParameter_113 ?_
            refine lv_iload hx hb d_MA_readParameter_116 (lv_at hl 0 rfl) ?_
            obtain ⟨q22, hq23, hf⟩ := mz_bd hf
            refine mz_callV E w (k := 1) (As := [.int (mz_gI q20.2 6 2), .int q20.1]) (rest := [.int x3, .ref (ad 25)]) (c_SI_behindBlanks hSK l n (mz_gI q20.2 6 2) q20.1 q20.2 q22 hq23) (by decide) rfl rfl k_462 k_2 k_951 k_460 k_461 hm_SI_behindBlanks ⟨⟨rfl, rfl⟩, Nat.le_of_ble_eq_true rfl, Nat.le_of_ble_eq_true rfl⟩ rfl hl.1 rfl (Nat.le_of_ble_eq_true rfl) d_MA_readParameter_118 ⟨Nat.zero_le _, Nat.zero_le _⟩ (st1 := [.int q22.1, .int x3, .ref (ad 25)]) rfl (fun H locs w => ?_)
            obtain ⟨hi24, hf⟩ := mz_gd hf
            refine mz_iast E w 25 (x := q22.1) (by decide) rfl hi24 d_MA_readParameter_121 (fun H locs w => ?_)
            obtain ⟨t25, e_t25, hf⟩ := mz_lt hf
            rw [← e_t25] at w
            refine lv_aload_n hx hb d_MA_readParameter_122 rfl (lv_at hl 1 rfl) ?_
            refine mz_get E w 18 9 (v := .ref (ad 26)) (by decide) rfl rfl ii_7 (by decide) (Nat.le_of_ble_eq_true rfl) k_230 rfl d_MA_readParameter_123 ?_
            refine lv_iload_n hx hb d_MA_readParameter_126 rfl (lv_at hl 4 rfl) ?_
            refine lv_aload_n hx hb d_MA_readParameter_127 rfl (lv_at hl 1 rfl) ?_
            refine mz_get E w 18 0 (v := .ref (ad 1)) (by decide) rfl rfl ii_7 (by decide) (Nat.le_of_ble_eq_true rfl) k_219 rfl d_MA_readParameter_128 ?_
            refine lv_aload_n hx hb d_MA_readParameter_131 rfl (lv_at hl 1 rfl) ?_
            refine mz_get E w 18 8 (v := .ref (ad 25)) (by decide) rfl rfl ii_7 (by decide) (Nat.le_of_ble_eq_true rfl) k_229 rfl d_MA_readParameter_132 ?_
            refine lv_iload_n hx hb d_MA_readParameter_135 rfl (lv_at hl 4 rfl) ?_
            obtain ⟨hi26, hf⟩ := mz_gd hf
            refine mz_iald E w 25 (by decide) rfl hi26 d_MA_readParameter_136 ?_
            refine lv_iload hx hb d_MA_readParameter_137 (lv_at hl 0 rfl) ?_
            obtain ⟨q27, hq28, hf⟩ := mz_bd hf
            refine mz_callV E w (k := 1) (As := [.int (mz_gI t25 25 x3.toNatClampNeg), .int q20.1]) (rest := [.int x3, .ref (ad 26)]) (c_SI_aheadOfBlanks hSK l n (mz_gI t25 25 x3.toNatClampNeg) q20.1 t25 q27 hq28) (by decide) rfl rfl k_466 k_2 k_952 k_464 k_465 hm_SI_aheadOfBlanks ⟨⟨rfl, rfl⟩, Nat.le_of_ble_eq_true rfl, Nat.le_of_ble_eq_true rfl⟩ rfl hl.1 rfl (Nat.le_of_ble_eq_true rfl) d_MA_readParameter_139 ⟨Nat.zero_le _, Nat.zero_le _⟩ (st1 := [.int q27.1, .int x3, .ref (ad 26)]) rfl (fun H locs w => ?_)
            obtain ⟨hi29, hf⟩ := mz_gd hf
            refine mz_iast E w 26 (x := q27.1) (by decide) rfl hi29 d_MA_readParameter_142 (fun H locs w => ?_)
            obtain ⟨t30, e_t30, hf⟩ := mz_lt hf
            rw [← e_t30] at w
            refine lv_aload_n hx hb d_MA_readParameter_143 rfl (lv_at hl 2 rfl) ?_
            refine lv_iload hx hb d_MA_readParameter_144 (lv_at hl 0 rfl) ?_
            refine mz_put E w 6 2 (v := q20.1) (by decide) rfl rfl ii_3 tk_3 nm_3 (by decide) (Nat.le_of_ble_eq_true rfl) k_180 rfl (tk_3 2 (by decide)) rfl rfl rfl d_MA_readParameter_146 (fun H locs w => ?_)
            obtain ⟨t31, e_t31, hf⟩ := mz_lt hf
            rw [← e_t31] at w
            refine lv_iconst (v := (1 : Int32)) hx hb d_MA_readParameter_149 (by decide) ?_
            obtain rfl := Option.some.inj hf
            exact mz_zret E w (by decide) rfl d_MA_readParameter_150
        · have hf := mz_f hc8 hf
          refine lv_iconst (v := (0 : Int32)) hx hb d_MA_readParameter_39 (by decide) ?_
          obtain rfl := Option.some.inj hf
          exact mz_zret E w (by decide) rfl d_MA_readParameter_40
      · have hf := mz_t hc5 hf
        refine lv_iconst (v := (0 : Int32)) hx hb d_MA_readParameter_20 (by decide) ?_
        obtain rfl := Option.some.inj hf
        exact mz_zret E w (by decide) rfl d_MA_readParameter_21

/-! MacroHouse$Macros.readHead(LMacroHouse$Reader;)Z -/
abbrev r_MA_readHead : Room := { frames := 4, cells := 0, slots := 0, locals := 88 }
def f_MA_readHead_61 (n : Nat) : Nat → Int32 → Int32 → mz_St → Option (Int32 × mz_St)
  | 0, _, _, _ => none
  | k + 1, x2, x3, t => if (6 : Int32) ≤ x3 then (some ((0 : Int32), t)) else ((f_MA_readParameter n x2 ((x2 * (6 : Int32)) + x3) t).bind fun q14 => if q14.1 = 0 then (some ((0 : Int32), q14.2)) else (if ¬ (x2 < 0 ∨ 17 ≤ x2.toNatClampNeg) then (mz_let (mz_pI q14.2 19 x2.toNatClampNeg (x3 + (1 : Int32))) fun t18 => (f_RE_isDone n t18).bind fun q19 => if q19.1 = 0 then ((f_RE_take n (44 : Int32) q19.2).bind fun q22 => if q22.1 = 0 then (some ((0 : Int32), q22.2)) else ((f_MA_readHead_61 n k) x2 (x3 + (1 : Int32)) q22.2)) else (some ((1 : Int32), q19.2))) else none))
def f_MA_readHead (n : Nat) (t : mz_St) : Option (Int32 × mz_St) := if (mz_gI t 27 4) < 0 then (some ((0 : Int32), t)) else (if (17 : Int32) ≤ (mz_gI t 27 4) then (some ((0 : Int32), t)) else ((f_RE_takeWord n t).bind fun q3 => if q3.1 = 0 then (some ((0 : Int32), q3.2)) else (mz_let (mz_pI q3.2 18 10 (mz_gI q3.2 6 4)) fun t6 => mz_let (mz_pI t6 18 11 (mz_gI t6 6 5)) fun t7 => if ¬ ((mz_gI t 27 4) < 0 ∨ 17 ≤ (mz_gI t 27 4).toNatClampNeg) then (mz_let (mz_pI t7 19 (mz_gI t 27 4).toNatClampNeg (0 : Int32)) fun t9 => (f_RE_isDone n t9).bind fun q10 => if q10.1 = 0 then (f_MA_readHead_61 n n (mz_gI t 27 4) (0 : Int32) q10.2) else (some ((1 : Int32), q10.2))) else none)))
set_option maxRecDepth 100000 in
set_option maxHeartbeats 4000000 in
theorem b_MA_readHead_61 {SX : State → Heap → Prop} {dC : Nat → ClassId} {dI : Nat → Nat → Nat} {ad en : Nat → Nat} {ca : Nat → ClassId} {p : Program} {l : Launch} {e : Env} {s : State} {m : MethodId} {args : Array Value} {below : List Frame} {meth : Method} {c : Code} {res : (Int32 × mz_St)} (E : mz_En SX 80 mz_cl dC dI ad ca p s m meth c prog_8_method_2_code 4 "MacroHouse$Macros" (some (.boolean))) (n : Nat) (k : Nat) : ∀ (x2 : Int32) (x3 : Int32) (t : mz_St), f_MA_readHead_61 n k x2 x3 t = some res → ∀ (H : Heap) (locs : List Loc) (ls : Array Slot), mz_Wd mz_tC 80 mz_cl dC dI ad en ca s t H locs → lv_has ls 4 [(0, .ref (ad 18)), (1, .ref (ad 6)), (2, .int x2), (3, .int x3)] → W p l e (r_MA_readHead) s m args below meth c H locs 0 0 (MQ below (mz_Q SX mz_tC 80 mz_cl dC dI ad en ca (some (.int res.1)) res.2) args s 0 0 (mz_A ad 80)) (F0 m 61 ls []) := by
  obtain ⟨hx, hb, hml, hown, hcx, -, -, hSX, -, -, hSK⟩ := id E
  induction k with
  | zero => intro x2 x3 t hf; exact absurd hf (by unfold f_MA_readHead_61; exact fun h => nomatch h)
  | succ k ih =>
    intro x2 x3 t hf H locs ls w hl
    unfold f_MA_readHead_61 at hf
    refine lv_iload_n hx hb d_MA_readHead_61 rfl (lv_at hl 3 rfl) ?_
    refine lv_bipush (v := (6 : Int32)) hx hb d_MA_readHead_62 (by decide) ?_
    refine lv_icmp_ge (tgt := 119) hx hb d_MA_readHead_64 (by decide) (fun hc13 => ?_) (fun hc13 => ?_)
    · have hf := mz_t hc13 hf
      refine lv_iconst (v := (0 : Int32)) hx hb d_MA_readHead_119 (by decide) ?_
      obtain rfl := Option.some.inj hf
      exact mz_zret E w (by decide) rfl d_MA_readHead_120
    · have hf := mz_f hc13 hf
      refine lv_aload_n hx hb d_MA_readHead_67 rfl (lv_at hl 0 rfl) ?_
      refine lv_aload_n hx hb d_MA_readHead_68 rfl (lv_at hl 1 rfl) ?_
      refine lv_iload_n hx hb d_MA_readHead_69 rfl (lv_at hl 2 rfl) ?_
      refine lv_iload_n hx hb d_MA_readHead_70 rfl (lv_at hl 2 rfl) ?_
      refine lv_bipush (v := (6 : Int32)) hx hb d_MA_readHead_71 (by decide) ?_
      refine lv_imul hx hb d_MA_readHead_73 ?_
      refine lv_iload_n hx hb d_MA_readHead_74 rfl (lv_at hl 3 rfl) ?_
      refine lv_iadd hx hb d_MA_readHead_75 ?_
      obtain ⟨q14, hq15, hf⟩ := mz_bd hf
      refine mz_callV E w (k := 18) (As := [.ref (ad 6), .int x2, .int ((x2 * (6 : Int32)) + x3)]) (rest := []) (c_MA_readParameter hSK l n x2 ((x2 * (6 : Int32)) + x3) t q14 hq15) (by decide) rfl rfl k_947 k_12 k_944 k_946 ks_37 hm_MA_readParameter ⟨⟨rfl, rfl⟩, Nat.le_of_ble_eq_true rfl, Nat.le_of_ble_eq_true rfl⟩ rfl hl.1 rfl (Nat.le_of_ble_eq_true rfl) d_MA_readHead_76 ⟨Nat.zero_le _, Nat.zero_le _⟩ (st1 := [.int q14.1]) rfl (fun H locs w => ?_)
      refine lv_if_ne (tgt := 84) hx hb d_MA_readHead_79 (by decide) (fun hc16 => ?_) (fun hc16 => ?_)
      · have hf := mz_f hc16 hf
        refine lv_aload_n hx hb d_MA_readHead_84 rfl (lv_at hl 0 rfl) ?_
        refine mz_get E w 18 2 (v := .ref (ad 19)) (by decide) rfl rfl ii_7 (by decide) (Nat.le_of_ble_eq_true rfl) k_223 rfl d_MA_readHead_85 ?_
        refine lv_iload_n hx hb d_MA_readHead_88 rfl (lv_at hl 2 rfl) ?_
        refine lv_iload_n hx hb d_MA_readHead_89 rfl (lv_at hl 3 rfl) ?_
        refine lv_iconst (v := (1 : Int32)) hx hb d_MA_readHead_90 (by decide) ?_
        refine lv_iadd hx hb d_MA_readHead_91 ?_
        obtain ⟨hi17, hf⟩ := mz_gd hf
        refine mz_iast E w 19 (x := (x3 + (1 : Int32))) (by decide) rfl hi17 d_MA_readHead_92 (fun H locs w => ?_)
        obtain ⟨t18, e_t18, hf⟩ := mz_lt hf
        rw [← e_t18] at w
        refine lv_aload_n hx hb d_MA_readHead_93 rfl (lv_at hl 1 rfl) ?_
        obtain ⟨q19, hq20, hf⟩ := mz_bd hf
        refine mz_callV E w (k := 6) (As := []) (rest := []) (c_RE_isDone hSK l n t18 q19 hq20) (by decide) rfl rfl k_862 k_11 k_943 k_860 k_861 hm_RE_isDone ⟨⟨rfl, rfl⟩, Nat.le_of_ble_eq_true rfl, Nat.le_of_ble_eq_true rfl⟩ rfl hl.1 rfl (Nat.le_of_ble_eq_true rfl) d_MA_readHead_94 ⟨Nat.zero_le _, Nat.zero_le _⟩ (st1 := [.int q19.1]) rfl (fun H locs w => ?_)
        refine lv_if_eq (tgt := 102) hx hb d_MA_readHead_97 (by decide) (fun hc21 => ?_) (fun hc21 => ?_)
        · have hf := mz_t hc21 hf
          refine lv_aload_n hx hb d_MA_readHead_102 rfl (lv_at hl 1 rfl) ?_
          refine lv_bipush (v := (44 : Int32)) hx hb d_MA_readHead_103 (by decide) ?_
          obtain ⟨q22, hq23, hf⟩ := mz_bd hf
          refine mz_callV E w (k := 6) (As := [.int (44 : Int32)]) (rest := []) (c_RE_take hSK l n (44 : Int32) q19.2 q22 hq23) (by decide) rfl rfl k_799 k_11 k_949 k_797 k_798 hm_RE_take ⟨⟨rfl, rfl⟩, Nat.le_of_ble_eq_true rfl, Nat.le_of_ble_eq_true rfl⟩ rfl hl.1 rfl (Nat.le_of_ble_eq_true rfl) d_MA_readHead_105 ⟨Nat.zero_le _, Nat.zero_le _⟩ (st1 := [.int q22.1]) rfl (fun H locs w => ?_)
          refine lv_if_ne (tgt := 113) hx hb d_MA_readHead_108 (by decide) (fun hc24 => ?_) (fun hc24 => ?_)
          · have hf := mz_f hc24 hf
            refine lv_iinc (v := (x3 + (1 : Int32))) (lv' := [(3, .int (x3 + (1 : Int32))), (0, .ref (ad 18)), (1, .ref (ad 6)), (2, .int x2)]) hx hb d_MA_readHead_113 hl (k := 3) rfl rfl (by decide) rfl (fun ls hl => ?_)
            refine lv_goto (tgt := 61) hx hb d_MA_readHead_116 (by decide) ?_
            exact ih x2 (x3 + (1 : Int32)) q22.2 hf _ _ _ w (lv_sub hl [1, 2, 3, 0] rfl)
          · have hf := mz_t hc24 hf
            refine lv_iconst (v := (0 : Int32)) hx hb d_MA_readHead_111 (by decide) ?_
            obtain rfl := Option.some.inj hf
            exact mz_zret E w (by decide) rfl d_MA_readHead_112
        · have hf := mz_f hc21 hf
          refine lv_iconst (v := (1 : Int32)) hx hb d_MA_readHead_100 (by decide) ?_
          obtain rfl := Option.some.inj hf
          exact mz_zret E w (by decide) rfl d_MA_readHead_101
      · have hf := mz_t hc16 hf
        refine lv_iconst (v := (0 : Int32)) hx hb d_MA_readHead_82 (by decide) ?_
        obtain rfl := Option.some.inj hf
        exact mz_zret E w (by decide) rfl d_MA_readHead_83
set_option maxRecDepth 100000 in
set_option maxHeartbeats 4000000 in
theorem c_MA_readHead {SX : State → Heap → Prop} {dC : Nat → ClassId} {dI : Nat → Nat → Nat} {ad en : Nat → Nat} {ca : Nat → ClassId} (hSK : mz_SK SX ad 80) (l : Launch) (n : Nat) (t : mz_St) (res : (Int32 × mz_St)) (hf : f_MA_readHead n t = some res) : mz_C SX mz_tC 80 mz_cl dC dI ad en ca l y_MA_readHead prog_8_method_2_code 4 (some (.boolean)) (r_MA_readHead) [.ref (ad 18), .ref (ad 6)] t (some (.int res.1)) res.2 := by
  unfold f_MA_readHead at hf
  refine mz_met hSK (by decide) (Nat.le_of_ble_eq_true rfl) ?_
  intro p e s m args below meth c ls E w hl
  obtain ⟨hx, hb, hml, hown, hcx, -, -, hSX, -, -, -⟩ := id E
  have hl : lv_has ls 4 [(0, .ref (ad 18)), (1, .ref (ad 6))] := hl
  refine lv_aload_n hx hb d_MA_readHead_0 rfl (lv_at hl 0 rfl) ?_
  refine mz_get E w 18 1 (v := .ref (ad 27)) (by decide) rfl rfl ii_7 (by decide) (Nat.le_of_ble_eq_true rfl) k_220 rfl d_MA_readHead_1 ?_
  refine mz_get E w 27 4 (v := .int (mz_gI t 27 4)) (by decide) rfl rfl ii_6 (by decide) (Nat.le_of_ble_eq_true rfl) k_146 rfl d_MA_readHead_4 ?_
  refine lv_istore_n (lv' := [(2, .int (mz_gI t 27 4)), (0, .ref (ad 18)), (1, .ref (ad 6))]) hx hb d_MA_readHead_7 rfl hl (by decide) rfl (fun ls hl => ?_)
  refine lv_iload_n hx hb d_MA_readHead_8 rfl (lv_at hl 0 rfl) ?_
  refine lv_if_lt (tgt := 25) hx hb d_MA_readHead_9 (by decide) (fun hc1 => ?_) (fun hc1 => ?_)
  · have hf := mz_t hc1 hf
    refine lv_iconst (v := (0 : Int32)) hx hb d_MA_readHead_25 (by decide) ?_
    obtain rfl := Option.some.inj hf
    exact mz_zret E w (by decide) rfl d_MA_readHead_26
  · have hf := mz_f hc1 hf
    refine lv_iload_n hx hb d_MA_readHead_12 rfl (lv_at hl 0 rfl) ?_
    refine lv_bipush (v := (17 : Int32)) hx hb d_MA_readHead_13 (by decide) ?_
    refine lv_icmp_ge (tgt := 25) hx hb d_MA_readHead_15 (by decide) (fun hc2 => ?_) (fun hc2 => ?_)
    · have hf := mz_t hc2 hf
      refine lv_iconst (v := (0 : Int32)) hx hb d_MA_readHead_25 (by decide) ?_
      obtain rfl := Option.some.inj hf
      exact mz_zret E w (by decide) rfl d_MA_readHead_26
    · have hf := mz_f hc2 hf
      refine lv_aload_n hx hb d_MA_readHead_18 rfl (lv_at hl 2 rfl) ?_
      obtain ⟨q3, hq4, hf⟩ := mz_bd hf
      refine mz_callV E w (k := 6) (As := []) (rest := []) (c_RE_takeWord hSK l n t q3 hq4) (by decide) rfl rfl k_793 k_11 k_942 k_791 k_792 hm_RE_takeWord ⟨⟨rfl, rfl⟩, Nat.le_of_ble_eq_true rfl, Nat.le_of_ble_eq_true rfl⟩ rfl hl.1 rfl (Nat.le_of_ble_eq_true rfl) d_MA_readHead_19 ⟨Nat.zero_le _, Nat.zero_le _⟩ (st1 := [.int q3.1]) rfl (fun H locs w => ?_)
      refine lv_if_ne (tgt := 27) hx hb d_MA_readHead_22 (by decide) (fun hc5 => ?_) (fun hc5 => ?_)
      · have hf := mz_f hc5 hf
        refine lv_aload_n hx hb d_MA_readHead_27 rfl (lv_at hl 1 rfl) ?_
        refine lv_aload_n hx hb d_MA_readHead_28 rfl (lv_at hl 2 rfl) ?_
        refine mz_get E w 6 4 (v := .int (mz_gI q3.2 6 4)) (by decide) rfl rfl ii_3 (by decide) (Nat.le_of_ble_eq_true rfl) k_184 rfl d_MA_readHead_29 ?_
        refine mz_put E w 18 10 (v := (mz_gI q3.2 6 4)) (by decide) rfl rfl ii_7 tk_7 nm_7 (by decide) (Nat.le_of_ble_eq_true rfl) k_231 rfl (tk_7 10 (by decide)) rfl rfl rfl d_MA_readHead_32 (fun H locs w => ?_)
        obtain ⟨t6, e_t6, hf⟩ := mz_lt hf
        rw [← e_t6] at w
        refine lv_aload_n hx hb d_MA_readHead_35 rfl (lv_at hl 1 rfl) ?_
        refine lv_aload_n hx hb d_MA_readHead_36 rfl (lv_at hl 2 rfl) ?_
        refine mz_get E w 6 5 (v := .int (mz_gI t6 6 5)) (by decide) rfl rfl ii_3 (by decide) (Nat.le_of_ble_eq_true rfl) k_187 rfl d_MA_readHead_37 ?_
        refine mz_put E w 18 11 (v := (mz_gI t6 6 5)) (by decide) rfl rfl ii_7 tk_7 nm_7 (by decide) (Nat.le_of_ble_eq_true rfl) k_232 rfl (tk_7 11 (by decide)) rfl rfl rfl d_MA_readHead_40 (fun H locs w => ?_)
        obtain ⟨t7, e_t7, hf⟩ := mz_lt hf
        rw [← e_t7] at w
        refine lv_aload_n hx hb d_MA_readHead_43 rfl (lv_at hl 1 rfl) ?_
        refine mz_get E w 18 2 (v := .ref (ad 19)) (by decide) rfl rfl ii_7 (by decide) (Nat.le_of_ble_eq_true rfl) k_223 rfl d_MA_readHead_44 ?_
        refine lv_iload_n hx hb d_MA_readHead_47 rfl (lv_at hl 0 rfl) ?_
        refine lv_iconst (v := (0 : Int32)) hx hb d_MA_readHead_48 (by decide) ?_
        obtain ⟨hi8, hf⟩ := mz_gd hf
        refine mz_iast E w 19 (x := (0 : Int32)) (by decide) rfl hi8 d_MA_readHead_49 (fun H locs w => ?_)
        obtain ⟨t9, e_t9, hf⟩ := mz_lt hf
        rw [← e_t9] at w
        refine lv_aload_n hx hb d_MA_readHead_50 rfl (lv_at hl 2 rfl) ?_
        obtain ⟨q10, hq11, hf⟩ := mz_bd hf
        refine mz_callV E w (k := 6) (As := []) (rest := []) (c_RE_isDone hSK l n t9 q10 hq11) (by decide) rfl rfl k_862 k_11 k_943 k_860 k_861 hm_RE_isDone ⟨⟨rfl, rfl⟩, Nat.le_of_ble_eq_true rfl, Nat.le_of_ble_eq_true rfl⟩ rfl hl.1 rfl (Nat.le_of_ble_eq_true rfl) d_MA_readHead_51 ⟨Nat.zero_le _, Nat.zero_le _⟩ (st1 := [.int q10.1]) rfl (fun H locs w => ?_)
        refine lv_if_eq (tgt := 59) hx hb d_MA_readHead_54 (by decide) (fun hc12 => ?_) (fun hc12 => ?_)
        · have hf := mz_t hc12 hf
          refine lv_iconst (v := (0 : Int32)) hx hb d_MA_readHead_59 (by decide) ?_
          refine lv_istore_n (lv' := [(3, .int (0 : Int32)), (2, .int (mz_gI t 27 4)), (0, .ref (ad 18)), (1, .ref (ad 6))]) hx hb d_MA_readHead_60 rfl hl (by decide) rfl (fun ls hl => ?_)
          exact b_MA_readHead_61 E n n (mz_gI t 27 4) (0 : Int32) q10.2 hf _ _ _ w (lv_sub hl [2, 3, 1, 0] rfl)
        · have hf := mz_f hc12 hf
          refine lv_iconst (v := (1 : Int32)) hx hb d_MA_readHead_57 (by decide) ?_
          obtain rfl := Option.some.inj hf
          exact mz_zret E w (by decide) rfl d_MA_readHead_58
      · have hf := mz_t hc5 hf
        refine lv_iconst (v := (0 : Int32)) hx hb d_MA_readHead_25 (by decide) ?_
        obtain rfl := Option.some.inj hf
        exact mz_zret E w (by decide) rfl d_MA_readHead_26

/-! MacroHouse$Macros.isHeadTold()Z -/
abbrev r_MA_isHeadTold : Room := { frames := 3, cells := 0, slots := 0, locals := 70 }
def f_MA_isHeadTold (n : Nat) (t : mz_St) : Option (Int32 × mz_St) := (f_NA_find_m n (mz_gI t 18 10) (mz_gI t 18 11) t).bind fun q1 => if q1.1 = (-1 : Int32) then (some ((0 : Int32), q1.2)) else (some ((1 : Int32), q1.2))
set_option maxRecDepth 100000 in
set_option maxHeartbeats 4000000 in
theorem c_MA_isHeadTold {SX : State → Heap → Prop} {dC : Nat → ClassId} {dI : Nat → Nat → Nat} {ad en : Nat → Nat} {ca : Nat → ClassId} (hSK : mz_SK SX ad 80) (l : Launch) (n : Nat) (t : mz_St) (res : (Int32 × mz_St)) (hf : f_MA_isHeadTold n t = some res) : mz_C SX mz_tC 80 mz_cl dC dI ad en ca l y_MA_isHeadTold prog_8_method_4_code 1 (some (.boolean)) (r_MA_isHeadTold) [.ref (ad 18)] t (some (.int res.1)) res.2 := by
  unfold f_MA_isHeadTold at hf
  refine mz_met hSK (by decide) (Nat.le_of_ble_eq_true rfl) ?_
  intro p e s m args below meth c ls E w hl
  obtain ⟨hx, hb, hml, hown, hcx, -, -, hSX, -, -, -⟩ := id E
  have hl : lv_has ls 1 [(0, .ref (ad 18))] := hl
  refine lv_aload_n hx hb d_MA_isHeadTold_0 rfl (lv_at hl 0 rfl) ?_
  refine mz_get E w 18 1 (v := .ref (ad 27)) (by decide) rfl rfl ii_7 (by decide) (Nat.le_of_ble_eq_true rfl) k_220 rfl d_MA_isHeadTold_1 ?_
  refine lv_aload_n hx hb d_MA_isHeadTold_4 rfl (lv_at hl 0 rfl) ?_
  refine mz_get E w 18 10 (v := .int (mz_gI t 18 10)) (by decide) rfl rfl ii_7 (by decide) (Nat.le_of_ble_eq_true rfl) k_231 rfl d_MA_isHeadTold_5 ?_
  refine lv_aload_n hx hb d_MA_isHeadTold_8 rfl (lv_at hl 0 rfl) ?_
  refine mz_get E w 18 11 (v := .int (mz_gI t 18 11)) (by decide) rfl rfl ii_7 (by decide) (Nat.le_of_ble_eq_true rfl) k_232 rfl d_MA_isHeadTold_9 ?_
  obtain ⟨q1, hq2, hf⟩ := mz_bd hf
  refine mz_callV E w (k := 27) (As := [.int (mz_gI t 18 10), .int (mz_gI t 18 11)]) (rest := []) (c_NA_find_m hSK l n (mz_gI t 18 10) (mz_gI t 18 11) t q1 hq2) (by decide) rfl rfl k_731 k_9 k_961 k_729 k_730 hm_NA_find ⟨⟨rfl, rfl⟩, Nat.le_of_ble_eq_true rfl, Nat.le_of_ble_eq_true rfl⟩ rfl hl.1 rfl (Nat.le_of_ble_eq_true rfl) d_MA_isHeadTold_12 ⟨Nat.zero_le _, Nat.zero_le _⟩ (st1 := [.int q1.1]) rfl (fun H locs w => ?_)
  refine lv_iconst (v := (-1 : Int32)) hx hb d_MA_isHeadTold_15 (by decide) ?_
  refine lv_icmp_eq (tgt := 23) hx hb d_MA_isHeadTold_16 (by decide) (fun hc3 => ?_) (fun hc3 => ?_)
  · have hf := mz_t hc3 hf
    refine lv_iconst (v := (0 : Int32)) hx hb d_MA_isHeadTold_23 (by decide) ?_
    obtain rfl := Option.some.inj hf
    exact mz_zret E w (by decide) rfl d_MA_isHeadTold_24
  · have hf := mz_f hc3 hf
    refine lv_iconst (v := (1 : Int32)) hx hb d_MA_isHeadTold_19 (by decide) ?_
    refine lv_goto (tgt := 24) hx hb d_MA_isHeadTold_20 (by decide) ?_
    obtain rfl := Option.some.inj hf
    exact mz_zret E w (by decide) rfl d_MA_isHeadTold_24

/-! MacroHouse$Macros.add(II)Z -/
abbrev r_MA_add : Room := { frames := 2, cells := 0, slots := 0, locals := 48 }
def f_MA_add (n : Nat) (x1 : Int32) (x2 : Int32) (t : mz_St) : Option (Int32 × mz_St) := (f_NA_isFull_m n t).bind fun q1 => if q1.1 = 0 then (if (mz_gI t 27 4) < 0 then (some ((0 : Int32), q1.2)) else (if (mz_gI t 27 4) < (17 : Int32) then ((f_NA_add_m n (mz_gI q1.2 18 10) (mz_gI q1.2 18 11) q1.2).bind fun q6 => if ¬ ((mz_gI t 27 4) < 0 ∨ 17 ≤ (mz_gI t 27 4).toNatClampNeg) then (mz_let (mz_pI q6 21 (mz_gI t 27 4).toNatClampNeg x1) fun t9 => if ¬ ((mz_gI t 27 4) < 0 ∨ 17 ≤ (mz_gI t 27 4).toNatClampNeg) then (mz_let (mz_pI t9 20 (mz_gI t 27 4).toNatClampNeg x2) fun t11 => if ¬ ((mz_gI t 27 4) < 0 ∨ 17 ≤ (mz_gI t 27 4).toNatClampNeg) then (mz_let (mz_pI t11 22 (mz_gI t 27 4).toNatClampNeg (0 : Int32)) fun t13 => some ((1 : Int32), t13)) else none) else none) else none) else (some ((0 : Int32), q1.2)))) else (some ((0 : Int32), q1.2))
set_option maxRecDepth 100000 in
set_option maxHeartbeats 4000000 in
theorem c_MA_add {SX : State → Heap → Prop} {dC : Nat → ClassId} {dI : Nat → Nat → Nat} {ad en : Nat → Nat} {ca : Nat → ClassId} (hSK : mz_SK SX ad 80) (l : Launch) (n : Nat) (x1 : Int32) (x2 : Int32) (t : mz_St) (res : (Int32 × mz_St)) (hf : f_MA_add n x1 x2 t = some res) : mz_C SX mz_tC 80 mz_cl dC dI ad en ca l y_MA_add prog_8_method_5_code 4 (some (.boolean)) (r_MA_add) [.ref (ad 18), .int x1, .int x2] t (some (.int res.1)) res.2 := by
  unfold f_MA_add at hf
  refine mz_met hSK (by decide) (Nat.le_of_ble_eq_true rfl) ?_
  intro p e s m args below meth c ls E w hl
  obtain ⟨hx, hb, hml, hown, hcx, -, -, hSX, -, -, -⟩ := id E
  have hl : lv_has ls 4 [(0, .ref (ad 18)), (1, .int x1), (2, .int x2)] := hl
  refine lv_aload_n hx hb d_MA_add_0 rfl (lv_at hl 0 rfl) ?_
  refine mz_get E w 18 1 (v := .ref (ad 27)) (by decide) rfl rfl ii_7 (by decide) (Nat.le_of_ble_eq_true rfl) k_220 rfl d_MA_add_1 ?_
  refine mz_get E w 27 4 (v := .int (mz_gI t 27 4)) (by decide) rfl rfl ii_6 (by decide) (Nat.le_of_ble_eq_true rfl) k_146 rfl d_MA_add_4 ?_
  refine lv_istore_n (lv' := [(3, .int (mz_gI t 27 4)), (0, .ref (ad 18)), (1, .int x1), (2, .int x2)]) hx hb d_MA_add_7 rfl hl (by decide) rfl (fun ls hl => ?_)
  refine lv_aload_n hx hb d_MA_add_8 rfl (lv_at hl 1 rfl) ?_
  refine mz_get E w 18 1 (v := .ref (ad 27)) (by decide) rfl rfl ii_7 (by decide) (Nat.le_of_ble_eq_true rfl) k_220 rfl d_MA_add_9 ?_
  obtain ⟨q1, hq2, hf⟩ := mz_bd hf
  refine mz_callV E w (k := 27) (As := []) (rest := []) (c_NA_isFull_m hSK l n t q1 hq2) (by decide) rfl rfl k_871 k_9 k_972 k_869 k_870 hm_NA_isFull ⟨⟨rfl, rfl⟩, Nat.le_of_ble_eq_true rfl, Nat.le_of_ble_eq_true rfl⟩ rfl hl.1 rfl (Nat.le_of_ble_eq_true rfl) d_MA_add_12 ⟨Nat.zero_le _, Nat.zero_le _⟩ (st1 := [.int q1.1]) rfl (fun H locs w => ?_)
  refine lv_if_ne (tgt := 28) hx hb d_MA_add_15 (by decide) (fun hc3 => ?_) (fun hc3 => ?_)
  · have hf := mz_f hc3 hf
    refine lv_iconst (v := (0 : Int32)) hx hb d_MA_add_28 (by decide) ?_
    obtain rfl := Option.some.inj hf
    exact mz_zret E w (by decide) rfl d_MA_add_29
  · have hf := mz_t hc3 hf
    refine lv_iload_n hx hb d_MA_add_18 rfl (lv_at hl 0 rfl) ?_
    refine lv_if_lt (tgt := 28) hx hb d_MA_add_19 (by decide) (fun hc4 => ?_) (fun hc4 => ?_)
    · have hf := mz_t hc4 hf
      refine lv_iconst (v := (0 : Int32)) hx hb d_MA_add_28 (by decide) ?_
      obtain rfl := Option.some.inj hf
      exact mz_zret E w (by decide) rfl d_MA_add_29
    · have hf := mz_f hc4 hf
      refine lv_iload_n hx hb d_MA_add_22 rfl (lv_at hl 0 rfl) ?_
      refine lv_bipush (v := (17 : Int32)) hx hb d_MA_add_23 (by decide) ?_
      refine lv_icmp_lt (tgt := 30) hx hb d_MA_add_25 (by decide) (fun hc5 => ?_) (fun hc5 => ?_)
      · have hf := mz_t hc5 hf
        refine lv_aload_n hx hb d_MA_add_30 rfl (lv_at hl 1 rfl) ?_
        refine mz_get E w 18 1 (v := .ref (ad 27)) (by decide) rfl rfl ii_7 (by decide) (Nat.le_of_ble_eq_true rfl) k_220 rfl d_MA_add_31 ?_
        refine lv_aload_n hx hb d_MA_add_34 rfl (lv_at hl 1 rfl) ?_
        refine mz_get E w 18 10 (v := .int (mz_gI q1.2 18 10)) (by decide) rfl rfl ii_7 (by decide) (Nat.le_of_ble_eq_true rfl) k_231 rfl d_MA_add_35 ?_
        refine lv_aload_n hx hb d_MA_add_38 rfl (lv_at hl 1 rfl) ?_
        refine mz_get E w 18 11 (v := .int (mz_gI q1.2 18 11)) (by decide) rfl rfl ii_7 (by decide) (Nat.le_of_ble_eq_true rfl) k_232 rfl d_MA_add_39 ?_
        obtain ⟨q6, hq7, hf⟩ := mz_bd hf
        refine mz_callV E w (k := 27) (As := [.int (mz_gI q1.2 18 10), .int (mz_gI q1.2 18 11)]) (rest := []) (c_NA_add_m hSK l n (mz_gI q1.2 18 10) (mz_gI q1.2 18 11) q1.2 q6 hq7) (by decide) rfl rfl k_875 k_9 k_973 k_873 k_874 hm_NA_add ⟨⟨rfl, rfl⟩, Nat.le_of_ble_eq_true rfl, Nat.le_of_ble_eq_true rfl⟩ rfl hl.1 rfl (Nat.le_of_ble_eq_true rfl) d_MA_add_42 ⟨Nat.zero_le _, Nat.zero_le _⟩ (st1 := []) rfl (fun H locs w => ?_)
        refine lv_aload_n hx hb d_MA_add_45 rfl (lv_at hl 1 rfl) ?_
        refine mz_get E w 18 4 (v := .ref (ad 21)) (by decide) rfl rfl ii_7 (by decide) (Nat.le_of_ble_eq_true rfl) k_225 rfl d_MA_add_46 ?_
        refine lv_iload_n hx hb d_MA_add_49 rfl (lv_at hl 0 rfl) ?_
        refine lv_iload_n hx hb d_MA_add_50 rfl (lv_at hl 2 rfl) ?_
        obtain ⟨hi8, hf⟩ := mz_gd hf
        refine mz_iast E w 21 (x := x1) (by decide) rfl hi8 d_MA_add_51 (fun H locs w => ?_)
        obtain ⟨t9, e_t9, hf⟩ := mz_lt hf
        rw [← e_t9] at w
        refine lv_aload_n hx hb d_MA_add_52 rfl (lv_at hl 1 rfl) ?_
        refine mz_get E w 18 3 (v := .ref (ad 20)) (by decide) rfl rfl ii_7 (by decide) (Nat.le_of_ble_eq_true rfl) k_224 rfl d_MA_add_53 ?_
        refine lv_iload_n hx hb d_MA_add_56 rfl (lv_at hl 0 rfl) ?_
        refine lv_iload_n hx hb d_MA_add_57 rfl (lv_at hl 3 rfl) ?_
        obtain ⟨hi10, hf⟩ := mz_gd hf
        refine mz_iast E w 20 (x := x2) (by decide) rfl hi10 d_MA_add_58 (fun H locs w => ?_)
        obtain ⟨t11, e_t11, hf⟩ := mz_lt hf
        rw [← e_t11] at w
        refine lv_aload_n hx hb d_MA_add_59 rfl (lv_at hl 1 rfl) ?_
        refine mz_get E w 18 5 (v := .ref (ad 22)) (by decide) rfl rfl ii_7 (by decide) (Nat.le_of_ble_eq_true rfl) k_226 rfl d_MA_add_60 ?_
        refine lv_iload_n hx hb d_MA_add_63 rfl (lv_at hl 0 rfl) ?_
        refine lv_iconst (v := (0 : Int32)) hx hb d_MA_add_64 (by decide) ?_
        obtain ⟨hi12, hf⟩ := mz_gd hf
        refine mz_iast E w 22 (x := (0 : Int32)) (by decide) rfl hi12 d_MA_add_65 (fun H locs w => ?_)
        obtain ⟨t13, e_t13, hf⟩ := mz_lt hf
        rw [← e_t13] at w
        refine lv_iconst (v := (1 : Int32)) hx hb d_MA_add_66 (by decide) ?_
        obtain rfl := Option.some.inj hf
        exact mz_zret E w (by decide) rfl d_MA_add_67
      · have hf := mz_f hc5 hf
        refine lv_iconst (v := (0 : Int32)) hx hb d_MA_add_28 (by decide) ?_
        obtain rfl := Option.some.inj hf
        exact mz_zret E w (by decide) rfl d_MA_add_29

/-! MacroHouse$Macros.tell(II)I -/
abbrev r_MA_tell : Room := { frames := 2, cells := 0, slots := 0, locals := 44 }
def f_MA_tell (n : Nat) (x1 : Int32) (x2 : Int32) (t : mz_St) : Option (Int32 × mz_St) := if x1 < 0 then (some ((-1 : Int32), t)) else (if x1 < (17 : Int32) then (if x2 = (0 : Int32) then (if ¬ (x1 < 0 ∨ 17 ≤ x1.toNatClampNeg) then (some ((mz_gI t 19 x1.toNatClampNeg), t)) else none) else (if x2 = (1 : Int32) then (if ¬ (x1 < 0 ∨ 17 ≤ x1.toNatClampNeg) then (some ((mz_gI t 20 x1.toNatClampNeg), t)) else none) else (if x2 = (2 : Int32) then (if ¬ (x1 < 0 ∨ 17 ≤ x1.toNatClampNeg) then (some ((mz_gI t 21 x1.toNatClampNeg), t)) else none) else (if x2 = (3 : Int32) then (if ¬ (x1 < 0 ∨ 17 ≤ x1.toNatClampNeg) then (some ((mz_gI t 22 x1.toNatClampNeg), t)) else none) else ((f_NA_sign_m n x1 (x2 - (4 : Int32)) t).bind fun q11 => some (q11.1, q11.2)))))) else (some ((-1 : Int32), t)))
set_option maxRecDepth 100000 in
set_option maxHeartbeats 4000000 in
theorem c_MA_tell {SX : State → Heap → Prop} {dC : Nat → ClassId} {dI : Nat → Nat → Nat} {ad en : Nat → Nat} {ca : Nat → ClassId} (hSK : mz_SK SX ad 80) (l : Launch) (n : Nat) (x1 : Int32) (x2 : Int32) (t : mz_St) (res : (Int32 × mz_St)) (hf : f_MA_tell n x1 x2 t = some res) : mz_C SX mz_tC 80 mz_cl dC dI ad en ca l y_MA_tell prog_8_method_13_code 3 (some (.int)) (r_MA_tell) [.ref (ad 18), .int x1, .int x2] t (some (.int res.1)) res.2 := by
  unfold f_MA_tell at hf
  refine mz_met hSK (by decide) (Nat.le_of_ble_eq_true rfl) ?_
  intro p e s m args below meth c ls E w hl
  obtain ⟨hx, hb, hml, hown, hcx, -, -, hSX, -, -, -⟩ := id E
  have hl : lv_has ls 3 [(0, .ref (ad 18)), (1, .int x1), (2, .int x2)] := hl
  refine lv_iload_n hx hb d_MA_tell_0 rfl (lv_at hl 1 rfl) ?_
  refine lv_if_lt (tgt := 10) hx hb d_MA_tell_1 (by decide) (fun hc1 => ?_) (fun hc1 => ?_)
  · have hf := mz_t hc1 hf
    refine lv_iconst (v := (-1 : Int32)) hx hb d_MA_tell_10 (by decide) ?_
    obtain rfl := Option.some.inj hf
    exact mz_iret E w rfl d_MA_tell_11
  · have hf := mz_f hc1 hf
    refine lv_iload_n hx hb d_MA_tell_4 rfl (lv_at hl 1 rfl) ?_
    refine lv_bipush (v := (17 : Int32)) hx hb d_MA_tell_5 (by decide) ?_
    refine lv_icmp_lt (tgt := 12) hx hb d_MA_tell_7 (by decide) (fun hc2 => ?_) (fun hc2 => ?_)
    · have hf := mz_t hc2 hf
      refine lv_iload_n hx hb d_MA_tell_12 rfl (lv_at hl 2 rfl) ?_
      by_cases hc3 : x2 = (0 : Int32)
      · have hf := mz_t hc3 hf
        refine lv_tableIn (off := 31) (tgt := 44) hx hb d_MA_tell_13 (by rw [hc3]; decide) (by rw [hc3]; decide) (by rw [hc3]; rfl) (by decide) ?_
        refine lv_aload_n hx hb d_MA_tell_44 rfl (lv_at hl 0 rfl) ?_
        refine mz_get E w 18 2 (v := .ref (ad 19)) (by decide) rfl rfl ii_7 (by decide) (Nat.le_of_ble_eq_true rfl) k_223 rfl d_MA_tell_45 ?_
        refine lv_iload_n hx hb d_MA_tell_48 rfl (lv_at hl 1 rfl) ?_
        obtain ⟨hi4, hf⟩ := mz_gd hf
        refine mz_iald E w 19 (by decide) rfl hi4 d_MA_tell_49 ?_
        obtain rfl := Option.some.inj hf
        exact mz_iret E w rfl d_MA_tell_50
      · have hf := mz_f hc3 hf
        by_cases hc5 : x2 = (1 : Int32)
        · have hf := mz_t hc5 hf
          refine lv_tableIn (off := 38) (tgt := 51) hx hb d_MA_tell_13 (by rw [hc5]; decide) (by rw [hc5]; decide) (by rw [hc5]; rfl) (by decide) ?_
          refine lv_aload_n hx hb d_MA_tell_51 rfl (lv_at hl 0 rfl) ?_
          refine mz_get E w 18 3 (v := .ref (ad 20)) (by decide) rfl rfl ii_7 (by decide) (Nat.le_of_ble_eq_true rfl) k_224 rfl d_MA_tell_52 ?_
          refine lv_iload_n hx hb d_MA_tell_55 rfl (lv_at hl 1 rfl) ?_
          obtain ⟨hi6, hf⟩ := mz_gd hf
          refine mz_iald E w 20 (by decide) rfl hi6 d_MA_tell_56 ?_
          obtain rfl := Option.some.inj hf
          exact mz_iret E w rfl d_MA_tell_57
        · have hf := mz_f hc5 hf
          by_cases hc7 : x2 = (2 : Int32)
          · have hf := mz_t hc7 hf
            refine lv_tableIn (off := 45) (tgt := 58) hx hb d_MA_tell_13 (by rw [hc7]; decide) (by rw [hc7]; decide) (by rw [hc7]; rfl) (by decide) ?_
            refine lv_aload_n hx hb d_MA_tell_58 rfl (lv_at hl 0 rfl) ?_
            refine mz_get E w 18 4 (v := .ref (ad 21)) (by decide) rfl rfl ii_7 (by decide) (Nat.le_of_ble_eq_true rfl) k_225 rfl d_MA_tell_59 ?_
            refine lv_iload_n hx hb d_MA_tell_62 rfl (lv_at hl 1 rfl) ?_
            obtain ⟨hi8, hf⟩ := mz_gd hf
            refine mz_iald E w 21 (by decide) rfl hi8 d_MA_tell_63 ?_
            obtain rfl := Option.some.inj hf
            exact mz_iret E w rfl d_MA_tell_64
          · have hf := mz_f hc7 hf
            by_cases hc9 : x2 = (3 : Int32)
            · have hf := mz_t hc9 hf
              refine lv_tableIn (off := 52) (tgt := 65) hx hb d_MA_tell_13 (by rw [hc9]; decide) (by rw [hc9]; decide) (by rw [hc9]; rfl) (by decide) ?_
              refine lv_aload_n hx hb d_MA_tell_65 rfl (lv_at hl 0 rfl) ?_
              refine mz_get E w 18 5 (v := .ref (ad 22)) (by decide) rfl rfl ii_7 (by decide) (Nat.le_of_ble_eq_true rfl) k_226 rfl d_MA_tell_66 ?_
              refine lv_iload_n hx hb d_MA_tell_69 rfl (lv_at hl 1 rfl) ?_
              obtain ⟨hi10, hf⟩ := mz_gd hf
              refine mz_iald E w 22 (by decide) rfl hi10 d_MA_tell_70 ?_
              obtain rfl := Option.some.inj hf
              exact mz_iret E w rfl d_MA_tell_71
            · have hf := mz_f hc9 hf
              refine lv_tableOut (tgt := 72) hx hb d_MA_tell_13 (by have := lv_neT (a := 0) hc3 rfl; have := lv_neT (a := 1) hc5 rfl; have := lv_neT (a := 2) hc7 rfl; have := lv_neT (a := 3) hc9 rfl; omega) (by decide) ?_
              refine lv_aload_n hx hb d_MA_tell_72 rfl (lv_at hl 0 rfl) ?_
              refine mz_get E w 18 1 (v := .ref (ad 27)) (by decide) rfl rfl ii_7 (by decide) (Nat.le_of_ble_eq_true rfl) k_220 rfl d_MA_tell_73 ?_
              refine lv_iload_n hx hb d_MA_tell_76 rfl (lv_at hl 1 rfl) ?_
              refine lv_iload_n hx hb d_MA_tell_77 rfl (lv_at hl 2 rfl) ?_
              refine lv_iconst (v := (4 : Int32)) hx hb d_MA_tell_78 (by decide) ?_
              refine lv_isub hx hb d_MA_tell_79 ?_
              obtain ⟨q11, hq12, hf⟩ := mz_bd hf
              refine mz_callV E w (k := 27) (As := [.int x1, .int (x2 - (4 : Int32))]) (rest := []) (c_NA_sign_m hSK l n x1 (x2 - (4 : Int32)) t q11 hq12) (by decide) rfl rfl k_897 k_9 k_1175 k_895 k_896 hm_NA_sign ⟨⟨rfl, rfl⟩, Nat.le_of_ble_eq_true rfl, Nat.le_of_ble_eq_true rfl⟩ rfl hl.1 rfl (Nat.le_of_ble_eq_true rfl) d_MA_tell_80 ⟨Nat.zero_le _, Nat.zero_le _⟩ (st1 := [.int q11.1]) rfl (fun H locs w => ?_)
              obtain rfl := Option.some.inj hf
              exact mz_iret E w rfl d_MA_tell_83
    · have hf := mz_f hc2 hf
      refine lv_iconst (v := (-1 : Int32)) hx hb d_MA_tell_10 (by decide) ?_
      obtain rfl := Option.some.inj hf
      exact mz_iret E w rfl d_MA_tell_11
