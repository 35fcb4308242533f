/-! MacroHouseModel.add(I)V -/
abbrev r_MO_add : Room := { frames := 0, cells := 0, slots := 0, locals := 0 }
def f_MO_add (n : Nat) (x1 : Int32) (t : mz_St) : Option mz_St := if (6000 : Int32) ≤ (mz_gI t 0 60) then (some t) else (if ¬ ((mz_gI t 0 60) < 0 ∨ 6000 ≤ (mz_gI t 0 60).toNatClampNeg) then (mz_let (mz_pI t 43 (mz_gI t 0 60).toNatClampNeg x1) fun t3 => mz_let (mz_pI t3 0 60 ((mz_gI t3 0 60) + (1 : Int32))) fun t4 => some t4) else none)
set_option maxRecDepth 100000 in
set_option maxHeartbeats 4000000 in
theorem c_MO_add {SX : State → Heap → Prop} {dC : Nat → ClassId} {dI : Nat → Nat → Nat} {ad en : Nat → Nat} {ca : Nat → ClassId} (hSK : mz_SK SX ad 55) (l : Launch) (n : Nat) (x1 : Int32) (t : mz_St) (res : mz_St) (hf : f_MO_add n x1 t = some res) : mz_C SX mz_tM 55 mz_cl dC dI ad en ca l y_MO_add prog_15_method_15_code 2 none (r_MO_add) [.ref (ad 0), .int x1] t none res := by
  unfold f_MO_add at hf
  refine mz_met hSK (by decide) (Nat.le_of_ble_eq_true rfl) ?_
  intro p e s m args below meth c ls E w hl
  obtain ⟨hx, hb, hml, hown, hcx, -, -, hSX, -, -, -⟩ := id E
  have hl : lv_has ls 2 [(0, .ref (ad 0)), (1, .int x1)] := hl
  refine lv_aload_n hx hb d_MO_add_0 rfl (lv_at hl 0 rfl) ?_
  refine mz_get E w 0 60 (v := .int (mz_gI t 0 60)) (by decide) rfl rfl ii_11 (by decide) (Nat.le_of_ble_eq_true rfl) k_1243 rfl d_MO_add_1 ?_
  refine lv_sipush (v := (6000 : Int32)) hx hb d_MO_add_4 (by decide) ?_
  refine lv_icmp_ge (tgt := 30) hx hb d_MO_add_7 (by decide) (fun hc1 => ?_) (fun hc1 => ?_)
  · have hf := mz_t hc1 hf
    obtain rfl := Option.some.inj hf
    exact mz_vret E w rfl d_MO_add_30
  · have hf := mz_f hc1 hf
    refine lv_aload_n hx hb d_MO_add_10 rfl (lv_at hl 0 rfl) ?_
    refine mz_get E w 0 59 (v := .ref (ad 43)) (by decide) rfl rfl ii_11 (by decide) (Nat.le_of_ble_eq_true rfl) k_1242 rfl d_MO_add_11 ?_
    refine lv_aload_n hx hb d_MO_add_14 rfl (lv_at hl 0 rfl) ?_
    refine mz_get E w 0 60 (v := .int (mz_gI t 0 60)) (by decide) rfl rfl ii_11 (by decide) (Nat.le_of_ble_eq_true rfl) k_1243 rfl d_MO_add_15 ?_
    refine lv_iload_n hx hb d_MO_add_18 rfl (lv_at hl 1 rfl) ?_
    obtain ⟨hi2, hf⟩ := mz_gd hf
    refine mz_iast E w 43 (x := x1) (by decide) rfl hi2 d_MO_add_19 (fun H locs w => ?_)
    obtain ⟨t3, e_t3, hf⟩ := mz_lt hf
    rw [← e_t3] at w
    refine lv_aload_n hx hb d_MO_add_20 rfl (lv_at hl 0 rfl) ?_
    refine lv_dup hx hb d_MO_add_21 rfl ?_
    refine mz_get E w 0 60 (v := .int (mz_gI t3 0 60)) (by decide) rfl rfl ii_11 (by decide) (Nat.le_of_ble_eq_true rfl) k_1243 rfl d_MO_add_22 ?_
    refine lv_iconst (v := (1 : Int32)) hx hb d_MO_add_25 (by decide) ?_
    refine lv_iadd hx hb d_MO_add_26 ?_
    refine mz_put E w 0 60 (v := ((mz_gI t3 0 60) + (1 : Int32))) (by decide) rfl rfl ii_11 tk_11 nm_11 (by decide) (Nat.le_of_ble_eq_true rfl) k_1243 rfl (tk_11 60 (by decide)) rfl rfl rfl d_MO_add_27 (fun H locs w => ?_)
    obtain ⟨t4, e_t4, hf⟩ := mz_lt hf
    rw [← e_t4] at w
    obtain rfl := Option.some.inj hf
    exact mz_vret E w rfl d_MO_add_30

/-! MacroHouseModel.macroFrame()I -/
abbrev r_MO_macroFrame : Room := { frames := 0, cells := 0, slots := 0, locals := 0 }
def f_MO_macroFrame_27 (n : Nat) (x1 : Int32) (t : mz_St) : Option (Int32 × mz_St) := if x1 ≤ 0 then (some ((-1 : Int32), t)) else (some (x1, t))
def f_MO_macroFrame_7 (n : Nat) : Nat → Int32 → mz_St → Option (Int32 × mz_St)
  | 0, _, _ => none
  | k + 1, x1, t => if x1 ≤ 0 then (f_MO_macroFrame_27 n x1 t) else (if ¬ (x1 < 0 ∨ 14 ≤ x1.toNatClampNeg) then (if (mz_gI t 22 x1.toNatClampNeg) = (1 : Int32) then (f_MO_macroFrame_27 n x1 t) else ((f_MO_macroFrame_7 n k) (x1 + (-1 : Int32)) t)) else none)
def f_MO_macroFrame (n : Nat) (t : mz_St) : Option (Int32 × mz_St) := f_MO_macroFrame_7 n n ((mz_gI t 0 34) - (1 : Int32)) t
set_option maxRecDepth 100000 in
set_option maxHeartbeats 4000000 in
theorem b_MO_macroFrame_27 {SX : State → Heap → Prop} {dC : Nat → ClassId} {dI : Nat → Nat → Nat} {ad en : Nat → Nat} {ca : Nat → ClassId} {p : Program} {l : Launch} {e : Env} {s : State} {m : MethodId} {args : Array Value} {below : List Frame} {meth : Method} {c : Code} {res : (Int32 × mz_St)} (E : mz_En SX 55 mz_cl dC dI ad ca p s m meth c prog_15_method_18_code 2 "MacroHouseModel" (some (.int))) (n : Nat) : ∀ (x1 : Int32) (t : mz_St), f_MO_macroFrame_27 n x1 t = some res → ∀ (H : Heap) (locs : List Loc) (ls : Array Slot), mz_Wd mz_tM 55 mz_cl dC dI ad en ca s t H locs → lv_has ls 2 [(1, .int x1)] → W p l e (r_MO_macroFrame) s m args below meth c H locs 0 0 (MQ below (mz_Q SX mz_tM 55 mz_cl dC dI ad en ca (some (.int res.1)) res.2) args s 0 0 (mz_A ad 55)) (F0 m 27 ls []) := by
  obtain ⟨hx, hb, hml, hown, hcx, -, -, hSX, -, -, hSK⟩ := id E
  intro x1 t hf H locs ls w hl
  unfold f_MO_macroFrame_27 at hf
  refine lv_iload_n hx hb d_MO_macroFrame_27 rfl (lv_at hl 0 rfl) ?_
  refine lv_if_le (tgt := 35) hx hb d_MO_macroFrame_28 (by decide) (fun hc2 => ?_) (fun hc2 => ?_)
  · have hf := mz_t hc2 hf
    refine lv_iconst (v := (-1 : Int32)) hx hb d_MO_macroFrame_35 (by decide) ?_
    obtain rfl := Option.some.inj hf
    exact mz_iret E w rfl d_MO_macroFrame_36
  · have hf := mz_f hc2 hf
    refine lv_iload_n hx hb d_MO_macroFrame_31 rfl (lv_at hl 0 rfl) ?_
    refine lv_goto (tgt := 36) hx hb d_MO_macroFrame_32 (by decide) ?_
    obtain rfl := Option.some.inj hf
    exact mz_iret E w rfl d_MO_macroFrame_36
set_option maxRecDepth 100000 in
set_option maxHeartbeats 4000000 in
theorem b_MO_macroFrame_7 {SX : State → Heap → Prop} {dC : Nat → ClassId} {dI : Nat → Nat → Nat} {ad en : Nat → Nat} {ca : Nat → ClassId} {p : Program} {l : Launch} {e : Env} {s : State} {m : MethodId} {args : Array Value} {below : List Frame} {meth : Method} {c : Code} {res : (Int32 × mz_St)} (E : mz_En SX 55 mz_cl dC dI ad ca p s m meth c prog_15_method_18_code 2 "MacroHouseModel" (some (.int))) (n : Nat) (k : Nat) : ∀ (x1 : Int32) (t : mz_St), f_MO_macroFrame_7 n k x1 t = some res → ∀ (H : Heap) (locs : List Loc) (ls : Array Slot), mz_Wd mz_tM 55 mz_cl dC dI ad en ca s t H locs → lv_has ls 2 [(0, .ref (ad 0)), (1, .int x1)] → W p l e (r_MO_macroFrame) s m args below meth c H locs 0 0 (MQ below (mz_Q SX mz_tM 55 mz_cl dC dI ad en ca (some (.int res.1)) res.2) args s 0 0 (mz_A ad 55)) (F0 m 7 ls []) := by
  obtain ⟨hx, hb, hml, hown, hcx, -, -, hSX, -, -, hSK⟩ := id E
  induction k with
  | zero => intro x1 t hf; exact absurd hf (by unfold f_MO_macroFrame_7; exact fun h => nomatch h)
  | succ k ih =>
    intro x1 t hf H locs ls w hl
    unfold f_MO_macroFrame_7 at hf
    refine lv_iload_n hx hb d_MO_macroFrame_7 rfl (lv_at hl 1 rfl) ?_
    refine lv_if_le (tgt := 27) hx hb d_MO_macroFrame_8 (by decide) (fun hc1 => ?_) (fun hc1 => ?_)
    · have hf := mz_t hc1 hf
      exact b_MO_macroFrame_27 E n x1 t hf _ _ _ w (lv_sub hl [1] rfl)
    · have hf := mz_f hc1 hf
      refine lv_aload_n hx hb d_MO_macroFrame_11 rfl (lv_at hl 0 rfl) ?_
      refine mz_get E w 0 35 (v := .ref (ad 22)) (by decide) rfl rfl ii_11 (by decide) (Nat.le_of_ble_eq_true rfl) k_1218 rfl d_MO_macroFrame_12 ?_
      refine lv_iload_n hx hb d_MO_macroFrame_15 rfl (lv_at hl 1 rfl) ?_
      obtain ⟨hi3, hf⟩ := mz_gd hf
      refine mz_iald E w 22 (by decide) rfl hi3 d_MO_macroFrame_16 ?_
      refine lv_iconst (v := (1 : Int32)) hx hb d_MO_macroFrame_17 (by decide) ?_
      refine lv_icmp_eq (tgt := 27) hx hb d_MO_macroFrame_18 (by decide) (fun hc4 => ?_) (fun hc4 => ?_)
      · have hf := mz_t hc4 hf
        exact b_MO_macroFrame_27 E n x1 t hf _ _ _ w (lv_sub hl [1] rfl)
      · have hf := mz_f hc4 hf
        refine lv_iinc (v := (x1 + (-1 : Int32))) (lv' := [(1, .int (x1 + (-1 : Int32))), (0, .ref (ad 0))]) hx hb d_MO_macroFrame_21 hl (k := 1) rfl rfl (by decide) rfl (fun ls hl => ?_)
        refine lv_goto (tgt := 7) hx hb d_MO_macroFrame_24 (by decide) ?_
        exact ih (x1 + (-1 : Int32)) t hf _ _ _ w (lv_sub hl [1, 0] rfl)
set_option maxRecDepth 100000 in
set_option maxHeartbeats 4000000 in
theorem c_MO_macroFrame {SX : State → Heap → Prop} {dC : Nat → ClassId} {dI : Nat → Nat → Nat} {ad en : Nat → Nat} {ca : Nat → ClassId} (hSK : mz_SK SX ad 55) (l : Launch) (n : Nat) (t : mz_St) (res : (Int32 × mz_St)) (hf : f_MO_macroFrame n t = some res) : mz_C SX mz_tM 55 mz_cl dC dI ad en ca l y_MO_macroFrame prog_15_method_18_code 2 (some (.int)) (r_MO_macroFrame) [.ref (ad 0)] t (some (.int res.1)) res.2 := by
  unfold f_MO_macroFrame at hf
  refine mz_met hSK (by decide) (Nat.le_of_ble_eq_true rfl) ?_
  intro p e s m args below meth c ls E w hl
  obtain ⟨hx, hb, hml, hown, hcx, -, -, hSX, -, -, -⟩ := id E
  have hl : lv_has ls 2 [(0, .ref (ad 0))] := hl
  refine lv_aload_n hx hb d_MO_macroFrame_0 rfl (lv_at hl 0 rfl) ?_
  refine mz_get E w 0 34 (v := .int (mz_gI t 0 34)) (by decide) rfl rfl ii_11 (by decide) (Nat.le_of_ble_eq_true rfl) k_1217 rfl d_MO_macroFrame_1 ?_
  refine lv_iconst (v := (1 : Int32)) hx hb d_MO_macroFrame_4 (by decide) ?_
  refine lv_isub hx hb d_MO_macroFrame_5 ?_
  refine lv_istore_n (lv' := [(1, .int ((mz_gI t 0 34) - (1 : Int32))), (0, .ref (ad 0))]) hx hb d_MO_macroFrame_6 rfl hl (by decide) rfl (fun ls hl => ?_)
  exact b_MO_macroFrame_7 E n n ((mz_gI t 0 34) - (1 : Int32)) t hf _ _ _ w (lv_sub hl [1, 0] rfl)

/-! MacroHouseModel.givingFrame()I -/
abbrev r_MO_givingFrame : Room := { frames := 0, cells := 0, slots := 0, locals := 0 }
def f_MO_givingFrame (n : Nat) (t : mz_St) : Option (Int32 × mz_St) := if ((mz_gI t 0 34) - (1 : Int32)) ≤ 0 then (some ((-1 : Int32), t)) else (if ¬ (((mz_gI t 0 34) - (1 : Int32)) < 0 ∨ 14 ≤ ((mz_gI t 0 34) - (1 : Int32)).toNatClampNeg) then (if (mz_gI t 22 ((mz_gI t 0 34) - (1 : Int32)).toNatClampNeg) = (1 : Int32) then (some ((-1 : Int32), t)) else (some (((mz_gI t 0 34) - (1 : Int32)), t))) else none)
set_option maxRecDepth 100000 in
set_option maxHeartbeats 4000000 in
theorem c_MO_givingFrame {SX : State → Heap → Prop} {dC : Nat → ClassId} {dI : Nat → Nat → Nat} {ad en : Nat → Nat} {ca : Nat → ClassId} (hSK : mz_SK SX ad 55) (l : Launch) (n : Nat) (t : mz_St) (res : (Int32 × mz_St)) (hf : f_MO_givingFrame n t = some res) : mz_C SX mz_tM 55 mz_cl dC dI ad en ca l y_MO_givingFrame prog_15_method_19_code 2 (some (.int)) (r_MO_givingFrame) [.ref (ad 0)] t (some (.int res.1)) res.2 := by
  unfold f_MO_givingFrame at hf
  refine mz_met hSK (by decide) (Nat.le_of_ble_eq_true rfl) ?_
  intro p e s m args below meth c ls E w hl
  obtain ⟨hx, hb, hml, hown, hcx, -, -, hSX, -, -, -⟩ := id E
  have hl : lv_has ls 2 [(0, .ref (ad 0))] := hl
  refine lv_aload_n hx hb d_MO_givingFrame_0 rfl (lv_at hl 0 rfl) ?_
  refine mz_get E w 0 34 (v := .int (mz_gI t 0 34)) (by decide) rfl rfl ii_11 (by decide) (Nat.le_of_ble_eq_true rfl) k_1217 rfl d_MO_givingFrame_1 ?_
  refine lv_iconst (v := (1 : Int32)) hx hb d_MO_givingFrame_4 (by decide) ?_
  refine lv_isub hx hb d_MO_givingFrame_5 ?_
  refine lv_istore_n (lv' := [(1, .int ((mz_gI t 0 34) - (1 : Int32))), (0, .ref (ad 0))]) hx hb d_MO_givingFrame_6 rfl hl (by decide) rfl (fun ls hl => ?_)
  refine lv_iload_n hx hb d_MO_givingFrame_7 rfl (lv_at hl 0 rfl) ?_
  refine lv_if_le (tgt := 25) hx hb d_MO_givingFrame_8 (by decide) (fun hc1 => ?_) (fun hc1 => ?_)
  · have hf := mz_t hc1 hf
    refine lv_iconst (v := (-1 : Int32)) hx hb d_MO_givingFrame_25 (by decide) ?_
    obtain rfl := Option.some.inj hf
    exact mz_iret E w rfl d_MO_givingFrame_26
  · have hf := mz_f hc1 hf
    refine lv_aload_n hx hb d_MO_givingFrame_11 rfl (lv_at hl 1 rfl) ?_
    refine mz_get E w 0 35 (v := .ref (ad 22)) (by decide) rfl rfl ii_11 (by decide) (Nat.le_of_ble_eq_true rfl) k_1218 rfl d_MO_givingFrame_12 ?_
    refine lv_iload_n hx hb d_MO_givingFrame_15 rfl (lv_at hl 0 rfl) ?_
    obtain ⟨hi2, hf⟩ := mz_gd hf
    refine mz_iald E w 22 (by decide) rfl hi2 d_MO_givingFrame_16 ?_
    refine lv_iconst (v := (1 : Int32)) hx hb d_MO_givingFrame_17 (by decide) ?_
    refine lv_icmp_eq (tgt := 25) hx hb d_MO_givingFrame_18 (by decide) (fun hc3 => ?_) (fun hc3 => ?_)
    · have hf := mz_t hc3 hf
      refine lv_iconst (v := (-1 : Int32)) hx hb d_MO_givingFrame_25 (by decide) ?_
      obtain rfl := Option.some.inj hf
      exact mz_iret E w rfl d_MO_givingFrame_26
    · have hf := mz_f hc3 hf
      refine lv_iload_n hx hb d_MO_givingFrame_21 rfl (lv_at hl 0 rfl) ?_
      refine lv_goto (tgt := 26) hx hb d_MO_givingFrame_22 (by decide) ?_
      obtain rfl := Option.some.inj hf
      exact mz_iret E w rfl d_MO_givingFrame_26

/-! MacroHouseModel.addNumber(I)V -/
abbrev r_MO_addNumber : Room := { frames := 1, cells := 0, slots := 0, locals := 21 }
def f_MO_addNumber_31 (n : Nat) (K4 : Int32 → Int32 → mz_St → Option mz_St) (x1 : Int32) (x2 : Int32) (t : mz_St) : Option mz_St := if ¬ (10 : Int32) = 0 then (K4 x1 (x2 / (10 : Int32)) t) else none
def f_MO_addNumber_18 (n : Nat) (K4 : Int32 → Int32 → mz_St → Option mz_St) (x1 : Int32) (x2 : Int32) (t : mz_St) : Option mz_St := if ¬ x2 = 0 then (if ¬ (10 : Int32) = 0 then ((f_MO_add n ((48 : Int32) + ((x1 / x2) - (x1 / x2) / (10 : Int32) * (10 : Int32))) t).bind fun q5 => f_MO_addNumber_31 n K4 x1 x2 q5) else none) else none
def f_MO_addNumber_4 (n : Nat) : Nat → Int32 → Int32 → mz_St → Option mz_St
  | 0, _, _, _ => none
  | k + 1, x1, x2, t => if x2 ≤ 0 then (some t) else (if x2 ≤ x1 then (f_MO_addNumber_18 n (f_MO_addNumber_4 n k) x1 x2 t) else (if x2 = (1 : Int32) then (f_MO_addNumber_18 n (f_MO_addNumber_4 n k) x1 x2 t) else (f_MO_addNumber_31 n (f_MO_addNumber_4 n k) x1 x2 t)))
def f_MO_addNumber (n : Nat) (x1 : Int32) (t : mz_St) : Option mz_St := f_MO_addNumber_4 n n x1 (10000 : Int32) t
set_option maxRecDepth 100000 in
set_option maxHeartbeats 4000000 in
theorem b_MO_addNumber_31 {SX : State → Heap → Prop} {dC : Nat → ClassId} {dI : Nat → Nat → Nat} {ad en : Nat → Nat} {ca : Nat → ClassId} {p : Program} {l : Launch} {e : Env} {s : State} {m : MethodId} {args : Array Value} {below : List Frame} {meth : Method} {c : Code} {res : mz_St} (E : mz_En SX 55 mz_cl dC dI ad ca p s m meth c prog_15_method_16_code 3 "MacroHouseModel" none) (n : Nat) (K4 : Int32 → Int32 → mz_St → Option mz_St) (hK4 : ∀ (x1 : Int32) (x2 : Int32) (t : mz_St), K4 x1 x2 t = some res → ∀ (H : Heap) (locs : List Loc) (ls : Array Slot), mz_Wd mz_tM 55 mz_cl dC dI ad en ca s t H locs → lv_has ls 3 [(0, .ref (ad 0)), (1, .int x1), (2, .int x2)] → W p l e (r_MO_addNumber) s m args below meth c H locs 0 0 (MQ below (mz_Q SX mz_tM 55 mz_cl dC dI ad en ca none res) args s 0 0 (mz_A ad 55)) (F0 m 4 ls [])) : ∀ (x1 : Int32) (x2 : Int32) (t : mz_St), f_MO_addNumber_31 n K4 x1 x2 t = some res → ∀ (H : Heap) (locs : List Loc) (ls : Array Slot), mz_Wd mz_tM 55 mz_cl dC dI ad en ca s t H locs → lv_has ls 3 [(0, .ref (ad 0)), (1, .int x1), (2, .int x2)] → W p l e (r_MO_addNumber) s m args below meth c H locs 0 0 (MQ below (mz_Q SX mz_tM 55 mz_cl dC dI ad en ca none res) args s 0 0 (mz_A ad 55)) (F0 m 31 ls []) := by
  obtain ⟨hx, hb, hml, hown, hcx, -, -, hSX, -, -, hSK⟩ := id E
  intro x1 x2 t hf H locs ls w hl
  unfold f_MO_addNumber_31 at hf
  refine lv_iload_n hx hb d_MO_addNumber_31 rfl (lv_at hl 2 rfl) ?_
  refine lv_bipush (v := (10 : Int32)) hx hb d_MO_addNumber_32 (by decide) ?_
  obtain ⟨hz7, hf⟩ := mz_gd hf
  refine lv_idiv hx hb d_MO_addNumber_34 hz7 ?_
  refine lv_istore_n (lv' := [(2, .int (x2 / (10 : Int32))), (0, .ref (ad 0)), (1, .int x1)]) hx hb d_MO_addNumber_35 rfl hl (by decide) rfl (fun ls hl => ?_)
  refine lv_goto (tgt := 4) hx hb d_MO_addNumber_36 (by decide) ?_
  exact hK4 x1 (x2 / (10 : Int32)) t hf _ _ _ w (lv_sub hl [1, 2, 0] rfl)
set_option maxRecDepth 100000 in
set_option maxHeartbeats 4000000 in
theorem b_MO_addNumber_18 {SX : State → Heap → Prop} {dC : Nat → ClassId} {dI : Nat → Nat → Nat} {ad en : Nat → Nat} {ca : Nat → ClassId} {p : Program} {l : Launch} {e : Env} {s : State} {m : MethodId} {args : Array Value} {below : List Frame} {meth : Method} {c : Code} {res : mz_St} (E : mz_En SX 55 mz_cl dC dI ad ca p s m meth c prog_15_method_16_code 3 "MacroHouseModel" none) (n : Nat) (K4 : Int32 → Int32 → mz_St → Option mz_St) (hK4 : ∀ (x1 : Int32) (x2 : Int32) (t : mz_St), K4 x1 x2 t = some res → ∀ (H : Heap) (locs : List Loc) (ls : Array Slot), mz_Wd mz_tM 55 mz_cl dC dI ad en ca s t H locs → lv_has ls 3 [(0, .ref (ad 0)), (1, .int x1), (2, .int x2)] → W p l e (r_MO_addNumber) s m args below meth c H locs 0 0 (MQ below (mz_Q SX mz_tM 55 mz_cl dC dI ad en ca none res) args s 0 0 (mz_A ad 55)) (F0 m 4 ls [])) : ∀ (x1 : Int32) (x2 : Int32) (t : mz_St), f_MO_addNumber_18 n K4 x1 x2 t = some res → ∀ (H : Heap) (locs : List Loc) (ls : Array Slot), mz_Wd mz_tM 55 mz_cl dC dI ad en ca s t H locs → lv_has ls 3 [(0, .ref (ad 0)), (1, .int x1), (2, .int x2)] → W p l e (r_MO_addNumber) s m args below meth c H locs 0 0 (MQ below (mz_Q SX mz_tM 55 mz_cl dC dI ad en ca none res) args s 0 0 (mz_A ad 55)) (F0 m 18 ls []) := by
  obtain ⟨hx, hb, hml, hown, hcx, -, -, hSX, -, -, hSK⟩ := id E
  intro x1 x2 t hf H locs ls w hl
  unfold f_MO_addNumber_18 at hf
  refine lv_aload_n hx hb d_MO_addNumber_18 rfl (lv_at hl 0 rfl) ?_
  refine lv_bipush (v := (48 : Int32)) hx hb d_MO_addNumber_19 (by decide) ?_
  refine lv_iload_n hx hb d_MO_addNumber_21 rfl (lv_at hl 1 rfl) ?_
  refine lv_iload_n hx hb d_MO_addNumber_22 rfl (lv_at hl 2 rfl) ?_
  obtain ⟨hz3, hf⟩ := mz_gd hf
  refine lv_idiv hx hb d_MO_addNumber_23 hz3 ?_
  refine lv_bipush (v := (10 : Int32)) hx hb d_MO_addNumber_24 (by decide) ?_
  obtain ⟨hz4, hf⟩ := mz_gd hf
  refine lv_irem hx hb d_MO_addNumber_26 hz4 ?_
  refine lv_iadd hx hb d_MO_addNumber_27 ?_
  obtain ⟨q5, hq6, hf⟩ := mz_bd hf
  refine mz_callV E w (k := 0) (As := [.int ((48 : Int32) + ((x1 / x2) - (x1 / x2) / (10 : Int32) * (10 : Int32)))]) (rest := []) (c_MO_add hSK l n ((48 : Int32) + ((x1 / x2) - (x1 / x2) / (10 : Int32) * (10 : Int32))) t q5 hq6) (by decide) rfl rfl k_1521 k_15 k_1518 k_1520 ks_60 hm_MO_add ⟨⟨rfl, rfl⟩, Nat.le_of_ble_eq_true rfl, Nat.le_of_ble_eq_true rfl⟩ rfl hl.1 rfl (Nat.le_of_ble_eq_true rfl) d_MO_addNumber_28 ⟨Nat.zero_le _, Nat.zero_le _⟩ (st1 := []) rfl (fun H locs w => ?_)
  exact b_MO_addNumber_31 E n K4 hK4 x1 x2 q5 hf _ _ _ w (lv_sub hl [0, 1, 2] rfl)
set_option maxRecDepth 100000 in
set_option maxHeartbeats 4000000 in
theorem b_MO_addNumber_4 {SX : State → Heap → Prop} {dC : Nat → ClassId} {dI : Nat → Nat → Nat} {ad en : Nat → Nat} {ca : Nat → ClassId} {p : Program} {l : Launch} {e : Env} {s : State} {m : MethodId} {args : Array Value} {below : List Frame} {meth : Method} {c : Code} {res : mz_St} (E : mz_En SX 55 mz_cl dC dI ad ca p s m meth c prog_15_method_16_code 3 "MacroHouseModel" none) (n : Nat) (k : Nat) : ∀ (x1 : Int32) (x2 : Int32) (t : mz_St), f_MO_addNumber_4 n k x1 x2 t = some res → ∀ (H : Heap) (locs : List Loc) (ls : Array Slot), mz_Wd mz_tM 55 mz_cl dC dI ad en ca s t H locs → lv_has ls 3 [(0, .ref (ad 0)), (1, .int x1), (2, .int x2)] → W p l e (r_MO_addNumber) s m args below meth c H locs 0 0 (MQ below (mz_Q SX mz_tM 55 mz_cl dC dI ad en ca none res) args s 0 0 (mz_A ad 55)) (F0 m 4 ls []) := by
  obtain ⟨hx, hb, hml, hown, hcx, -, -, hSX, -, -, hSK⟩ := id E
  induction k with
  | zero => intro x1 x2 t hf; exact absurd hf (by unfold f_MO_addNumber_4; exact fun h => nomatch h)
  | succ k ih =>
    intro x1 x2 t hf H locs ls w hl
    unfold f_MO_addNumber_4 at hf
    refine lv_iload_n hx hb d_MO_addNumber_4 rfl (lv_at hl 2 rfl) ?_
    refine lv_if_le (tgt := 39) hx hb d_MO_addNumber_5 (by decide) (fun hc1 => ?_) (fun hc1 => ?_)
    · have hf := mz_t hc1 hf
      obtain rfl := Option.some.inj hf
      exact mz_vret E w rfl d_MO_addNumber_39
    · have hf := mz_f hc1 hf
      refine lv_iload_n hx hb d_MO_addNumber_8 rfl (lv_at hl 1 rfl) ?_
      refine lv_iload_n hx hb d_MO_addNumber_9 rfl (lv_at hl 2 rfl) ?_
      refine lv_icmp_ge (tgt := 18) hx hb d_MO_addNumber_10 (by decide) (fun hc2 => ?_) (fun hc2 => ?_)
      · have hf := mz_t hc2 hf
        exact b_MO_addNumber_18 E n (f_MO_addNumber_4 n k) ih x1 x2 t hf _ _ _ w (lv_sub hl [0, 1, 2] rfl)
      · have hf := mz_f hc2 hf
        refine lv_iload_n hx hb d_MO_addNumber_13 rfl (lv_at hl 2 rfl) ?_
        refine lv_iconst (v := (1 : Int32)) hx hb d_MO_addNumber_14 (by decide) ?_
        refine lv_icmp_ne (tgt := 31) hx hb d_MO_addNumber_15 (by decide) (fun hc8 => ?_) (fun hc8 => ?_)
        · have hf := mz_f hc8 hf
          exact b_MO_addNumber_31 E n (f_MO_addNumber_4 n k) ih x1 x2 t hf _ _ _ w (lv_sub hl [0, 1, 2] rfl)
        · have hf := mz_t hc8 hf
          exact b_MO_addNumber_18 E n (f_MO_addNumber_4 n k) ih x1 x2 t hf _ _ _ w (lv_sub hl [0, 1, 2] rfl)
set_option maxRecDepth 100000 in
set_option maxHeartbeats 4000000 in
theorem c_MO_addNumber {SX : State → Heap → Prop} {dC : Nat → ClassId} {dI : Nat → Nat → Nat} {ad en : Nat → Nat} {ca : Nat → ClassId} (hSK : mz_SK SX ad 55) (l : Launch) (n : Nat) (x1 : Int32) (t : mz_St) (res : mz_St) (hf : f_MO_addNumber n x1 t = some res) : mz_C SX mz_tM 55 mz_cl dC dI ad en ca l y_MO_addNumber prog_15_method_16_code 3 none (r_MO_addNumber) [.ref (ad 0), .int x1] t none res := by
  unfold f_MO_addNumber at hf
  refine mz_met hSK (by decide) (Nat.le_of_ble_eq_true rfl) ?_
  intro p e s m args below meth c ls E w hl
  obtain ⟨hx, hb, hml, hown, hcx, -, -, hSX, -, -, -⟩ := id E
  have hl : lv_has ls 3 [(0, .ref (ad 0)), (1, .int x1)] := hl
  refine lv_sipush (v := (10000 : Int32)) hx hb d_MO_addNumber_0 (by decide) ?_
  refine lv_istore_n (lv' := [(2, .int (10000 : Int32)), (0, .ref (ad 0)), (1, .int x1)]) hx hb d_MO_addNumber_3 rfl hl (by decide) rfl (fun ls hl => ?_)
  exact b_MO_addNumber_4 E n n x1 (10000 : Int32) t hf _ _ _ w (lv_sub hl [1, 2, 0] rfl)

/-! MacroHouseModel.addHeld(I)V -/
abbrev r_MO_addHeld : Room := { frames := 1, cells := 0, slots := 0, locals := 21 }
def f_MO_addHeld_7 (n : Nat) : Nat → Int32 → Int32 → mz_St → Option mz_St
  | 0, _, _, _ => none
  | k + 1, x1, x2, t => if ¬ (x1 < 0 ∨ 24000 ≤ x1.toNatClampNeg) then (if (mz_gI t 36 x1.toNatClampNeg) ≤ x2 then (some t) else (if ¬ (x2 < 0 ∨ 48000 ≤ x2.toNatClampNeg) then ((f_MO_add n (mz_gI t 37 x2.toNatClampNeg) t).bind fun q5 => (f_MO_addHeld_7 n k) x1 (x2 + (1 : Int32)) q5) else none)) else none
def f_MO_addHeld (n : Nat) (x1 : Int32) (t : mz_St) : Option mz_St := if ¬ (x1 < 0 ∨ 24000 ≤ x1.toNatClampNeg) then (f_MO_addHeld_7 n n x1 (mz_gI t 35 x1.toNatClampNeg) t) else none
set_option maxRecDepth 100000 in
set_option maxHeartbeats 4000000 in
theorem b_MO_addHeld_7 {SX : State → Heap → Prop} {dC : Nat → ClassId} {dI : Nat → Nat → Nat} {ad en : Nat → Nat} {ca : Nat → ClassId} {p : Program} {l : Launch} {e : Env} {s : State} {m : MethodId} {args : Array Value} {below : List Frame} {meth : Method} {c : Code} {res : mz_St} (E : mz_En SX 55 mz_cl dC dI ad ca p s m meth c prog_15_method_17_code 3 "MacroHouseModel" none) (n : Nat) (k : Nat) : ∀ (x1 : Int32) (x2 : Int32) (t : mz_St), f_MO_addHeld_7 n k x1 x2 t = some res → ∀ (H : Heap) (locs : List Loc) (ls : Array Slot), mz_Wd mz_tM 55 mz_cl dC dI ad en ca s t H locs → lv_has ls 3 [(0, .ref (ad 0)), (1, .int x1), (2, .int x2)] → W p l e (r_MO_addHeld) s m args below meth c H locs 0 0 (MQ below (mz_Q SX mz_tM 55 mz_cl dC dI ad en ca none res) args s 0 0 (mz_A ad 55)) (F0 m 7 ls []) := by
  obtain ⟨hx, hb, hml, hown, hcx, -, -, hSX, -, -, hSK⟩ := id E
  induction k with
  | zero => intro x1 x2 t hf; exact absurd hf (by unfold f_MO_addHeld_7; exact fun h => nomatch h)
  | succ k ih =>
    intro x1 x2 t hf H locs ls w hl
    unfold f_MO_addHeld_7 at hf
    refine lv_iload_n hx hb d_MO_addHeld_7 rfl (lv_at hl 2 rfl) ?_
    refine lv_aload_n hx hb d_MO_addHeld_8 rfl (lv_at hl 0 rfl) ?_
    refine mz_get E w 0 50 (v := .ref (ad 36)) (by decide) rfl rfl ii_11 (by decide) (Nat.le_of_ble_eq_true rfl) k_1233 rfl d_MO_addHeld_9 ?_
    refine lv_iload_n hx hb d_MO_addHeld_12 rfl (lv_at hl 1 rfl) ?_
    obtain ⟨hi2, hf⟩ := mz_gd hf
    refine mz_iald E w 36 (by decide) rfl hi2 d_MO_addHeld_13 ?_
    refine lv_icmp_ge (tgt := 33) hx hb d_MO_addHeld_14 (by decide) (fun hc3 => ?_) (fun hc3 => ?_)
    · have hf := mz_t hc3 hf
      obtain rfl := Option.some.inj hf
      exact mz_vret E w rfl d_MO_addHeld_33
    · have hf := mz_f hc3 hf
      refine lv_aload_n hx hb d_MO_addHeld_17 rfl (lv_at hl 0 rfl) ?_
      refine lv_aload_n hx hb d_MO_addHeld_18 rfl (lv_at hl 0 rfl) ?_
      refine mz_get E w 0 52 (v := .ref (ad 37)) (by decide) rfl rfl ii_11 (by decide) (Nat.le_of_ble_eq_true rfl) k_1235 rfl d_MO_addHeld_19 ?_
      refine lv_iload_n hx hb d_MO_addHeld_22 rfl (lv_at hl 2 rfl) ?_
      obtain ⟨hi4, hf⟩ := mz_gd hf
      refine mz_iald E w 37 (by decide) rfl hi4 d_MO_addHeld_23 ?_
      obtain ⟨q5, hq6, hf⟩ := mz_bd hf
      refine mz_callV E w (k := 0) (As := [.int (mz_gI t 37 x2.toNatClampNeg)]) (rest := []) (c_MO_add hSK l n (mz_gI t 37 x2.toNatClampNeg) t q5 hq6) (by decide) rfl rfl k_1521 k_15 k_1518 k_1520 ks_60 hm_MO_add ⟨⟨rfl, rfl⟩, Nat.le_of_ble_eq_true rfl, Nat.le_of_ble_eq_true rfl⟩ rfl hl.1 rfl (Nat.le_of_ble_eq_true rfl) d_MO_addHeld_24 ⟨Nat.zero_le _, Nat.zero_le _⟩ (st1 := []) rfl (fun H locs w => ?_)
      refine lv_iinc (v := (x2 + (1 : Int32))) (lv' := [(2, .int (x2 + (1 : Int32))), (0, .ref (ad 0)), (1, .int x1)]) hx hb d_MO_addHeld_27 hl (k := 2) rfl rfl (by decide) rfl (fun ls hl => ?_)
      refine lv_goto (tgt := 7) hx hb d_MO_addHeld_30 (by decide) ?_
      exact ih x1 (x2 + (1 : Int32)) q5 hf _ _ _ w (lv_sub hl [1, 2, 0] rfl)
set_option maxRecDepth 100000 in
set_option maxHeartbeats 4000000 in
theorem c_MO_addHeld {SX : State → Heap → Prop} {dC : Nat → ClassId} {dI : Nat → Nat → Nat} {ad en : Nat → Nat} {ca : Nat → ClassId} (hSK : mz_SK SX ad 55) (l : Launch) (n : Nat) (x1 : Int32) (t : mz_St) (res : mz_St) (hf : f_MO_addHeld n x1 t = some res) : mz_C SX mz_tM 55 mz_cl dC dI ad en ca l y_MO_addHeld prog_15_method_17_code 3 none (r_MO_addHeld) [.ref (ad 0), .int x1] t none res := by
  unfold f_MO_addHeld at hf
  refine mz_met hSK (by decide) (Nat.le_of_ble_eq_true rfl) ?_
  intro p e s m args below meth c ls E w hl
  obtain ⟨hx, hb, hml, hown, hcx, -, -, hSX, -, -, -⟩ := id E
  have hl : lv_has ls 3 [(0, .ref (ad 0)), (1, .int x1)] := hl
  refine lv_aload_n hx hb d_MO_addHeld_0 rfl (lv_at hl 0 rfl) ?_
  refine mz_get E w 0 49 (v := .ref (ad 35)) (by decide) rfl rfl ii_11 (by decide) (Nat.le_of_ble_eq_true rfl) k_1232 rfl d_MO_addHeld_1 ?_
  refine lv_iload_n hx hb d_MO_addHeld_4 rfl (lv_at hl 1 rfl) ?_
  obtain ⟨hi1, hf⟩ := mz_gd hf
  refine mz_iald E w 35 (by decide) rfl hi1 d_MO_addHeld_5 ?_
  refine lv_istore_n (lv' := [(2, .int (mz_gI t 35 x1.toNatClampNeg)), (0, .ref (ad 0)), (1, .int x1)]) hx hb d_MO_addHeld_6 rfl hl (by decide) rfl (fun ls hl => ?_)
  exact b_MO_addHeld_7 E n n x1 (mz_gI t 35 x1.toNatClampNeg) t hf _ _ _ w (lv_sub hl [1, 2, 0] rfl)

/-! MacroHouseModel.addWord(JJ)Z -/
abbrev r_MO_addWord : Room := { frames := 2, cells := 0, slots := 0, locals := 43 }
def f_MO_addWord_159 (n : Nat) (K95 : Int64 → Int64 → Int32 → Int32 → Int32 → mz_St → Option (Int32 × mz_St)) (x1 : Int64) (x3 : Int64) (x5 : Int32) (x6 : Int32) (x7 : Int32) (t : mz_St) : Option (Int32 × mz_St) := K95 x1 x3 x5 x6 (x7 + (1 : Int32)) t
def f_MO_addWord_95 (n : Nat) : Nat → Int64 → Int64 → Int32 → Int32 → Int32 → mz_St → Option (Int32 × mz_St)
  | 0, _, _, _, _, _, _ => none
  | k + 1, x1, x3, x5, x6, x7, t => if ¬ (x6 < 0 ∨ 16 ≤ x6.toNatClampNeg) then (if (mz_gI t 10 x6.toNatClampNeg) ≤ x7 then (some ((0 : Int32), t)) else (if ¬ ((((6 : Int32) * x6) + x7) < 0 ∨ 96 ≤ (((6 : Int32) * x6) + x7).toNatClampNeg) then (if (lg_cmp (mz_gL t 11 (((6 : Int32) * x6) + x7).toNatClampNeg) x1) = 0 then (if ¬ ((((6 : Int32) * x6) + x7) < 0 ∨ 96 ≤ (((6 : Int32) * x6) + x7).toNatClampNeg) then (if (lg_cmp (mz_gL t 12 (((6 : Int32) * x6) + x7).toNatClampNeg) x3) = 0 then (if ¬ (x5 < 0 ∨ 14 ≤ x5.toNatClampNeg) then ((f_MO_addHeld n ((mz_gI t 31 x5.toNatClampNeg) + x7) t).bind fun q14 => some ((1 : Int32), q14)) else none) else (f_MO_addWord_159 n (f_MO_addWord_95 n k) x1 x3 x5 x6 x7 t)) else none) else (f_MO_addWord_159 n (f_MO_addWord_95 n k) x1 x3 x5 x6 x7 t)) else none)) else none
def f_MO_addWord_69 (n : Nat) (K8 : Int64 → Int64 → Int32 → mz_St → Option (Int32 × mz_St)) (x1 : Int64) (x3 : Int64) (x5 : Int32) (t : mz_St) : Option (Int32 × mz_St) := if ¬ (x5 < 0 ∨ 14 ≤ x5.toNatClampNeg) then (if (mz_gI t 22 x5.toNatClampNeg) = (1 : Int32) then (if ¬ (x5 < 0 ∨ 14 ≤ x5.toNatClampNeg) then (f_MO_addWord_95 n n x1 x3 x5 (mz_gI t 28 x5.toNatClampNeg) (0 : Int32) t) else none) else (K8 x1 x3 (x5 + (-1 : Int32)) t)) else none
def f_MO_addWord_8 (n : Nat) : Nat → Int64 → Int64 → Int32 → mz_St → Option (Int32 × mz_St)
  | 0, _, _, _, _ => none
  | k + 1, x1, x3, x5, t => if x5 ≤ 0 then (some ((0 : Int32), t)) else (if ¬ (x5 < 0 ∨ 14 ≤ x5.toNatClampNeg) then (if (mz_gI t 22 x5.toNatClampNeg) = (3 : Int32) then (if ¬ (x5 < 0 ∨ 14 ≤ x5.toNatClampNeg) then (if (lg_cmp (mz_gL t 33 x5.toNatClampNeg) x1) = 0 then (if ¬ (x5 < 0 ∨ 14 ≤ x5.toNatClampNeg) then (if (lg_cmp (mz_gL t 34 x5.toNatClampNeg) x3) = 0 then (if ¬ (x5 < 0 ∨ 14 ≤ x5.toNatClampNeg) then (if ¬ (x5 < 0 ∨ 14 ≤ x5.toNatClampNeg) then ((f_MO_addHeld n ((mz_gI t 31 x5.toNatClampNeg) + (mz_gI t 27 x5.toNatClampNeg)) t).bind fun q22 => some ((1 : Int32), q22)) else none) else none) else (f_MO_addWord_69 n (f_MO_addWord_8 n k) x1 x3 x5 t)) else none) else (f_MO_addWord_69 n (f_MO_addWord_8 n k) x1 x3 x5 t)) else none) else (f_MO_addWord_69 n (f_MO_addWord_8 n k) x1 x3 x5 t)) else none)
def f_MO_addWord (n : Nat) (x1 : Int64) (x3 : Int64) (t : mz_St) : Option (Int32 × mz_St) := f_MO_addWord_8 n n x1 x3 ((mz_gI t 0 34) - (1 : Int32)) t
set_option maxRecDepth 100000 in
set_option maxHeartbeats 4000000 in
theorem b_MO_addWord_159 {SX : State → Heap → Prop} {dC : Nat → ClassId} {dI : Nat → Nat → Nat} {ad en : Nat → Nat} {ca : Nat → ClassId} {p : Program} {l : Launch} {e : Env} {s : State} {m : MethodId} {args : Array Value} {below : List Frame} {meth : Method} {c : Code} {res : (Int32 × mz_St)} (E : mz_En SX 55 mz_cl dC dI ad ca p s m meth c prog_15_method_20_code 8 "MacroHouseModel" (some (.boolean))) (n : Nat) (K95 : Int64 → Int64 → Int32 → Int32 → Int32 → mz_St → Option (Int32 × mz_St)) (hK95 : ∀ (x1 : Int64) (x3 : Int64) (x5 : Int32) (x6 : Int32) (x7 : Int32) (t : mz_St), K95 x1 x3 x5 x6 x7 t = some res → ∀ (H : Heap) (locs : List Loc) (ls : Array Slot), mz_Wd mz_tM 55 mz_cl dC dI ad en ca s t H locs → lv_has ls 8 [(0, .ref (ad 0)), (1, .long x1), (3, .long x3), (5, .int x5), (6, .int x6), (7, .int x7)] → W p l e (r_MO_addWord) s m args below meth c H locs 0 0 (MQ below (mz_Q SX mz_tM 55 mz_cl dC dI ad en ca (some (.int res.1)) res.2) args s 0 0 (mz_A ad 55)) (F0 m 95 ls [])) : ∀ (x1 : Int64) (x3 : Int64) (x5 : Int32) (x6 : Int32) (x7 : Int32) (t : mz_St), f_MO_addWord_159 n K95 x1 x3 x5 x6 x7 t = some res → ∀ (H : Heap) (locs : List Loc) (ls : Array Slot), mz_Wd mz_tM 55 mz_cl dC dI ad en ca s t H locs → lv_has ls 8 [(0, .ref (ad 0)), (1, .long x1), (3, .long x3), (5, .int x5), (6, .int x6), (7, .int x7)] → W p l e (r_MO_addWord) s m args below meth c H locs 0 0 (MQ below (mz_Q SX mz_tM 55 mz_cl dC dI ad en ca (some (.int res.1)) res.2) args s 0 0 (mz_A ad 55)) (F0 m 159 ls []) := by
  obtain ⟨hx, hb, hml, hown, hcx, -, -, hSX, -, -, hSK⟩ := id E
  intro x1 x3 x5 x6 x7 t hf H locs ls w hl
  unfold f_MO_addWord_159 at hf
  refine lv_iinc (v := (x7 + (1 : Int32))) (lv' := [(7, .int (x7 + (1 : Int32))), (0, .ref (ad 0)), (1, .long x1), (3, .long x3), (5, .int x5), (6, .int x6)]) hx hb d_MO_addWord_159 hl (k := 5) rfl rfl (by decide) rfl (fun ls hl => ?_)
  refine lv_goto (tgt := 95) hx hb d_MO_addWord_162 (by decide) ?_
  exact hK95 x1 x3 x5 x6 (x7 + (1 : Int32)) t hf _ _ _ w (lv_sub hl [1, 2, 3, 4, 5, 0] rfl)
set_option maxRecDepth 100000 in
set_option maxHeartbeats 4000000 in
theorem b_MO_addWord_95 {SX : State → Heap → Prop} {dC : Nat → ClassId} {dI : Nat → Nat → Nat} {ad en : Nat → Nat} {ca : Nat → ClassId} {p : Program} {l : Launch} {e : Env} {s : State} {m : MethodId} {args : Array Value} {below : List Frame} {meth : Method} {c : Code} {res : (Int32 × mz_St)} (E : mz_En SX 55 mz_cl dC dI ad ca p s m meth c prog_15_method_20_code 8 "MacroHouseModel" (some (.boolean))) (n : Nat) (k : Nat) : ∀ (x1 : Int64) (x3 : Int64) (x5 : Int32) (x6 : Int32) (x7 : Int32) (t : mz_St), f_MO_addWord_95 n k x1 x3 x5 x6 x7 t = some res → ∀ (H : Heap) (locs : List Loc) (ls : Array Slot), mz_Wd mz_tM 55 mz_cl dC dI ad en ca s t H locs → lv_has ls 8 [(0, .ref (ad 0)), (1, .long x1), (3, .long x3), (5, .int x5), (6, .int x6), (7, .int x7)] → W p l e (r_MO_addWord) s m args below meth c H locs 0 0 (MQ below (mz_Q SX mz_tM 55 mz_cl dC dI ad en ca (some (.int res.1)) res.2) args s 0 0 (mz_A ad 55)) (F0 m 95 ls []) := by
  obtain ⟨hx, hb, hml, hown, hcx, -, -, hSX, -, -, hSK⟩ := id E
  induction k with
  | zero => intro x1 x3 x5 x6 x7 t hf; exact absurd hf (by unfold f_MO_addWord_95; exact fun h => nomatch h)
  | succ k ih =>
    intro x1 x3 x5 x6 x7 t hf H locs ls w hl
    unfold f_MO_addWord_95 at hf
    refine lv_iload hx hb d_MO_addWord_95 (lv_at hl 5 rfl) ?_
    refine lv_aload_n hx hb d_MO_addWord_97 rfl (lv_at hl 0 rfl) ?_
    refine mz_get E w 0 19 (v := .ref (ad 10)) (by decide) rfl rfl ii_11 (by decide) (Nat.le_of_ble_eq_true rfl) k_1202 rfl d_MO_addWord_98 ?_
    refine lv_iload hx hb d_MO_addWord_101 (lv_at hl 4 rfl) ?_
    obtain ⟨hi7, hf⟩ := mz_gd hf
    refine mz_iald E w 10 (by decide) rfl hi7 d_MO_addWord_103 ?_
    refine lv_icmp_ge (tgt := 165) hx hb d_MO_addWord_104 (by decide) (fun hc8 => ?_) (fun hc8 => ?_)
    · have hf := mz_t hc8 hf
      refine lv_iconst (v := (0 : Int32)) hx hb d_MO_addWord_165 (by decide) ?_
      obtain rfl := Option.some.inj hf
      exact mz_zret E w (by decide) rfl d_MO_addWord_166
    · have hf := mz_f hc8 hf
      refine lv_aload_n hx hb d_MO_addWord_107 rfl (lv_at hl 0 rfl) ?_
      refine mz_get E w 0 20 (v := .ref (ad 11)) (by decide) rfl rfl ii_11 (by decide) (Nat.le_of_ble_eq_true rfl) k_1203 rfl d_MO_addWord_108 ?_
      refine lv_bipush (v := (6 : Int32)) hx hb d_MO_addWord_111 (by decide) ?_
      refine lv_iload hx hb d_MO_addWord_113 (lv_at hl 4 rfl) ?_
      refine lv_imul hx hb d_MO_addWord_115 ?_
      refine lv_iload hx hb d_MO_addWord_116 (lv_at hl 5 rfl) ?_
      refine lv_iadd hx hb d_MO_addWord_118 ?_
      obtain ⟨hi9, hf⟩ := mz_gd hf
      refine mz_lald E w 11 (by decide) rfl hi9 d_MO_addWord_119 ?_
      refine lv_lload_n hx hb d_MO_addWord_120 rfl (lv_at hl 1 rfl) ?_
      refine W.lcmp hx hb d_MO_addWord_121 ?_
      refine lv_if_ne (tgt := 159) hx hb d_MO_addWord_122 (by decide) (fun hc10 => ?_) (fun hc10 => ?_)
      · have hf := mz_f hc10 hf
        exact b_MO_addWord_159 E n (f_MO_addWord_95 n k) ih x1 x3 x5 x6 x7 t hf _ _ _ w (lv_sub hl [0, 1, 2, 3, 4, 5] rfl)
      · have hf := mz_t hc10 hf
        refine lv_aload_n hx hb d_MO_addWord_125 rfl (lv_at hl 0 rfl) ?_
        refine mz_get E w 0 21 (v := .ref (ad 12)) (by decide) rfl rfl ii_11 (by decide) (Nat.le_of_ble_eq_true rfl) k_1204 rfl d_MO_addWord_126 ?_
        refine lv_bipush (v := (6 : Int32)) hx hb d_MO_addWord_129 (by decide) ?_
        refine lv_iload hx hb d_MO_addWord_131 (lv_at hl 4 rfl) ?_
        refine lv_imul hx hb d_MO_addWord_133 ?_
        refine lv_iload hx hb d_MO_addWord_134 (lv_at hl 5 rfl) ?_
        refine lv_iadd hx hb d_MO_addWord_136 ?_
        obtain ⟨hi11, hf⟩ := mz_gd hf
        refine mz_lald E w 12 (by decide) rfl hi11 d_MO_addWord_137 ?_
        refine lv_lload_n hx hb d_MO_addWord_138 rfl (lv_at hl 2 rfl) ?_
        refine W.lcmp hx hb d_MO_addWord_139 ?_
        refine lv_if_ne (tgt := 159) hx hb d_MO_addWord_140 (by decide) (fun hc12 => ?_) (fun hc12 => ?_)
        · have hf := mz_f hc12 hf
          exact b_MO_addWord_159 E n (f_MO_addWord_95 n k) ih x1 x3 x5 x6 x7 t hf _ _ _ w (lv_sub hl [0, 1, 2, 3, 4, 5] rfl)
        · have hf := mz_t hc12 hf
          refine lv_aload_n hx hb d_MO_addWord_143 rfl (lv_at hl 0 rfl) ?_
          refine lv_aload_n hx hb d_MO_addWord_144 rfl (lv_at hl 0 rfl) ?_
          refine mz_get E w 0 44 (v := .ref (ad 31)) (by decide) rfl rfl ii_11 (by decide) (Nat.le_of_ble_eq_true rfl) k_1227 rfl d_MO_addWord_145 ?_
          refine lv_iload hx hb d_MO_addWord_148 (lv_at hl 3 rfl) ?_
          obtain ⟨hi13, hf⟩ := mz_gd hf
          refine mz_iald E w 31 (by decide) rfl hi13 d_MO_addWord_150 ?_
          refine lv_iload hx hb d_MO_addWord_151 (lv_at hl 5 rfl) ?_
          refine lv_iadd hx hb d_MO_addWord_153 ?_
          obtain ⟨q14, hq15, hf⟩ := mz_bd hf
          refine mz_callV E w (k := 0) (As := [.int ((mz_gI t 31 x5.toNatClampNeg) + x7)]) (rest := []) (c_MO_addHeld hSK l n ((mz_gI t 31 x5.toNatClampNeg) + x7) t q14 hq15) (by decide) rfl rfl k_1541 k_15 k_1538 k_1540 ks_65 hm_MO_addHeld ⟨⟨rfl, rfl⟩, Nat.le_of_ble_eq_true rfl, Nat.le_of_ble_eq_true rfl⟩ rfl hl.1 rfl (Nat.le_of_ble_eq_true rfl) d_MO_addWord_154 ⟨Nat.zero_le _, Nat.zero_le _⟩ (st1 := []) rfl (fun H locs w => ?_)
          refine lv_iconst (v := (1 : Int32)) hx hb d_MO_addWord_157 (by decide) ?_
          obtain rfl := Option.some.inj hf
          exact mz_zret E w (by decide) rfl d_MO_addWord_158
set_option maxRecDepth 100000 in
set_option maxHeartbeats 4000000 in
theorem b_MO_addWord_69 {SX : State → Heap → Prop} {dC : Nat → ClassId} {dI : Nat → Nat → Nat} {ad en : Nat → Nat} {ca : Nat → ClassId} {p : Program} {l : Launch} {e : Env} {s : State} {m : MethodId} {args : Array Value} {below : List Frame} {meth : Method} {c : Code} {res : (Int32 × mz_St)} (E : mz_En SX 55 mz_cl dC dI ad ca p s m meth c prog_15_method_20_code 8 "MacroHouseModel" (some (.boolean))) (n : Nat) (K8 : Int64 → Int64 → Int32 → mz_St → Option (Int32 × mz_St)) (hK8 : ∀ (x1 : Int64) (x3 : Int64) (x5 : Int32) (t : mz_St), K8 x1 x3 x5 t = some res → ∀ (H : Heap) (locs : List Loc) (ls : Array Slot), mz_Wd mz_tM 55 mz_cl dC dI ad en ca s t H locs → lv_has ls 8 [(0, .ref (ad 0)), (1, .long x1), (3, .long x3), (5, .int x5)] → W p l e (r_MO_addWord) s m args below meth c H locs 0 0 (MQ below (mz_Q SX mz_tM 55 mz_cl dC dI ad en ca (some (.int res.1)) res.2) args s 0 0 (mz_A ad 55)) (F0 m 8 ls [])) : ∀ (x1 : Int64) (x3 : Int64) (x5 : Int32) (t : mz_St), f_MO_addWord_69 n K8 x1 x3 x5 t = some res → ∀ (H : Heap) (locs : List Loc) (ls : Array Slot), mz_Wd mz_tM 55 mz_cl dC dI ad en ca s t H locs → lv_has ls 8 [(0, .ref (ad 0)), (1, .long x1), (3, .long x3), (5, .int x5)] → W p l e (r_MO_addWord) s m args below meth c H locs 0 0 (MQ below (mz_Q SX mz_tM 55 mz_cl dC dI ad en ca (some (.int res.1)) res.2) args s 0 0 (mz_A ad 55)) (F0 m 69 ls []) := by
  obtain ⟨hx, hb, hml, hown, hcx, -, -, hSX, -, -, hSK⟩ := id E
  intro x1 x3 x5 t hf H locs ls w hl
  unfold f_MO_addWord_69 at hf
  refine lv_aload_n hx hb d_MO_addWord_69 rfl (lv_at hl 0 rfl) ?_
  refine mz_get E w 0 35 (v := .ref (ad 22)) (by decide) rfl rfl ii_11 (by decide) (Nat.le_of_ble_eq_true rfl) k_1218 rfl d_MO_addWord_70 ?_
  refine lv_iload hx hb d_MO_addWord_73 (lv_at hl 3 rfl) ?_
  obtain ⟨hi4, hf⟩ := mz_gd hf
  refine mz_iald E w 22 (by decide) rfl hi4 d_MO_addWord_75 ?_
  refine lv_iconst (v := (1 : Int32)) hx hb d_MO_addWord_76 (by decide) ?_
  refine lv_icmp_eq (tgt := 83) hx hb d_MO_addWord_77 (by decide) (fun hc5 => ?_) (fun hc5 => ?_)
  · have hf := mz_t hc5 hf
    refine lv_aload_n hx hb d_MO_addWord_83 rfl (lv_at hl 0 rfl) ?_
    refine mz_get E w 0 41 (v := .ref (ad 28)) (by decide) rfl rfl ii_11 (by decide) (Nat.le_of_ble_eq_true rfl) k_1224 rfl d_MO_addWord_84 ?_
    refine lv_iload hx hb d_MO_addWord_87 (lv_at hl 3 rfl) ?_
    obtain ⟨hi6, hf⟩ := mz_gd hf
    refine mz_iald E w 28 (by decide) rfl hi6 d_MO_addWord_89 ?_
    refine lv_istore (lv' := [(6, .int (mz_gI t 28 x5.toNatClampNeg)), (0, .ref (ad 0)), (1, .long x1), (3, .long x3), (5, .int x5)]) hx hb d_MO_addWord_90 hl (by decide) rfl (fun ls hl => ?_)
    refine lv_iconst (v := (0 : Int32)) hx hb d_MO_addWord_92 (by decide) ?_
    refine lv_istore (lv' := [(7, .int (0 : Int32)), (6, .int (mz_gI t 28 x5.toNatClampNeg)), (0, .ref (ad 0)), (1, .long x1), (3, .long x3), (5, .int x5)]) hx hb d_MO_addWord_93 hl (by decide) rfl (fun ls hl => ?_)
    exact b_MO_addWord_95 E n n x1 x3 x5 (mz_gI t 28 x5.toNatClampNeg) (0 : Int32) t hf _ _ _ w (lv_sub hl [2, 3, 4, 5, 1, 0] rfl)
  · have hf := mz_f hc5 hf
    refine lv_goto (tgt := 167) hx hb d_MO_addWord_80 (by decide) ?_
    refine lv_iinc (v := (x5 + (-1 : Int32))) (lv' := [(5, .int (x5 + (-1 : Int32))), (0, .ref (ad 0)), (1, .long x1), (3, .long x3)]) hx hb d_MO_addWord_167 hl (k := 3) rfl rfl (by decide) rfl (fun ls hl => ?_)
    refine lv_goto (tgt := 8) hx hb d_MO_addWord_170 (by decide) ?_
    exact hK8 x1 x3 (x5 + (-1 : Int32)) t hf _ _ _ w (lv_sub hl [1, 2, 3, 0] rfl)
set_option maxRecDepth 100000 in
set_option maxHeartbeats 4000000 in
theorem b_MO_addWord_8 {SX : State → Heap → Prop} {dC : Nat → ClassId} {dI : Nat → Nat → Nat} {ad en : Nat → Nat} {ca : Nat → ClassId} {p : Program} {l : Launch} {e : Env} {s : State} {m : MethodId} {args : Array Value} {below : List Frame} {meth : Method} {c : Code} {res : (Int32 × mz_St)} (E : mz_En SX 55 mz_cl dC dI ad ca p s m meth c prog_15_method_20_code 8 "MacroHouseModel" (some (.boolean))) (n : Nat) (k : Nat) : ∀ (x1 : Int64) (x3 : Int64) (x5 : Int32) (t : mz_St), f_MO_addWord_8 n k x1 x3 x5 t = some res → ∀ (H : Heap) (locs : List Loc) (ls : Array Slot), mz_Wd mz_tM 55 mz_cl dC dI ad en ca s t H locs → lv_has ls 8 [(0, .ref (ad 0)), (1, .long x1), (3, .long x3), (5, .int x5)] → W p l e (r_MO_addWord) s m args below meth c H locs 0 0 (MQ below (mz_Q SX mz_tM 55 mz_cl dC dI ad en ca (some (.int res.1)) res.2) args s 0 0 (mz_A ad 55)) (F0 m 8 ls []) := by
  obtain ⟨hx, hb, hml, hown, hcx, -, -, hSX, -, -, hSK⟩ := id E
  induction k with
  | zero => intro x1 x3 x5 t hf; exact absurd hf (by unfold f_MO_addWord_8; exact fun h => nomatch h)
  | succ k ih =>
    intro x1 x3 x5 t hf H locs ls w hl
    unfold f_MO_addWord_8 at hf
    refine lv_iload hx hb d_MO_addWord_8 (lv_at hl 3 rfl) ?_
    refine lv_if_le (tgt := 173) hx hb d_MO_addWord_10 (by decide) (fun hc1 => ?_) (fun hc1 => ?_)
    · have hf := mz_t hc1 hf
      refine lv_iconst (v := (0 : Int32)) hx hb d_MO_addWord_173 (by decide) ?_
      obtain rfl := Option.some.inj hf
      exact mz_zret E w (by decide) rfl d_MO_addWord_174
    · have hf := mz_f hc1 hf
      refine lv_aload_n hx hb d_MO_addWord_13 rfl (lv_at hl 0 rfl) ?_
      refine mz_get E w 0 35 (v := .ref (ad 22)) (by decide) rfl rfl ii_11 (by decide) (Nat.le_of_ble_eq_true rfl) k_1218 rfl d_MO_addWord_14 ?_
      refine lv_iload hx hb d_MO_addWord_17 (lv_at hl 3 rfl) ?_
      obtain ⟨hi2, hf⟩ := mz_gd hf
      refine mz_iald E w 22 (by decide) rfl hi2 d_MO_addWord_19 ?_
      refine lv_iconst (v := (3 : Int32)) hx hb d_MO_addWord_20 (by decide) ?_
      refine lv_icmp_ne (tgt := 69) hx hb d_MO_addWord_21 (by decide) (fun hc3 => ?_) (fun hc3 => ?_)
      · have hf := mz_f hc3 hf
        exact b_MO_addWord_69 E n (f_MO_addWord_8 n k) ih x1 x3 x5 t hf _ _ _ w (lv_sub hl [0, 1, 2, 3] rfl)
      · have hf := mz_t hc3 hf
        refine lv_aload_n hx hb d_MO_addWord_24 rfl (lv_at hl 0 rfl) ?_
        refine mz_get E w 0 46 (v := .ref (ad 33)) (by decide) rfl rfl ii_11 (by decide) (Nat.le_of_ble_eq_true rfl) k_1229 rfl d_MO_addWord_25 ?_
        refine lv_iload hx hb d_MO_addWord_28 (lv_at hl 3 rfl) ?_
        obtain ⟨hi16, hf⟩ := mz_gd hf
        refine mz_lald E w 33 (by decide) rfl hi16 d_MO_addWord_30 ?_
        refine lv_lload_n hx hb d_MO_addWord_31 rfl (lv_at hl 1 rfl) ?_
        refine W.lcmp hx hb d_MO_addWord_32 ?_
        refine lv_if_ne (tgt := 69) hx hb d_MO_addWord_33 (by decide) (fun hc17 => ?_) (fun hc17 => ?_)
        · have hf := mz_f hc17 hf
          exact b_MO_addWord_69 E n (f_MO_addWord_8 n k) ih x1 x3 x5 t hf _ _ _ w (lv_sub hl [0, 1, 2, 3] rfl)
        · have hf := mz_t hc17 hf
          refine lv_aload_n hx hb d_MO_addWord_36 rfl (lv_at hl 0 rfl) ?_
          refine mz_get E w 0 47 (v := .ref (ad 34)) (by decide) rfl rfl ii_11 (by decide) (Nat.le_of_ble_eq_true rfl) k_1230 rfl d_MO_addWord_37 ?_
          refine lv_iload hx hb d_MO_addWord_40 (lv_at hl 3 rfl) ?_
          obtain ⟨hi18, hf⟩ := mz_gd hf
          refine mz_lald E w 34 (by decide) rfl hi18 d_MO_addWord_42 ?_
          refine lv_lload_n hx hb d_MO_addWord_43 rfl (lv_at hl 2 rfl) ?_
          refine W.lcmp hx hb d_MO_addWord_44 ?_
          refine lv_if_ne (tgt := 69) hx hb d_MO_addWord_45 (by decide) (fun hc19 => ?_) (fun hc19 => ?_)
          · have hf := mz_f hc19 hf
            exact b_MO_addWord_69 E n (f_MO_addWord_8 n k) ih x1 x3 x5 t hf _ _ _ w (lv_sub hl [0, 1, 2, 3] rfl)
          · have hf := mz_t hc19 hf
            refine lv_aload_n hx hb d_MO_addWord_48 rfl (lv_at hl 0 rfl) ?_
            refine lv_aload_n hx hb d_MO_addWord_49 rfl (lv_at hl 0 rfl) ?_
            refine mz_get E w 0 44 (v := .ref (ad 31)) (by decide) rfl rfl ii_11 (by decide) (Nat.le_of_ble_eq_true rfl) k_1227 rfl d_MO_addWord_50 ?_
            refine lv_iload hx hb d_MO_addWord_53 (lv_at hl 3 rfl) ?_
            obtain ⟨hi20, hf⟩ := mz_gd hf
            refine mz_iald E w 31 (by decide) rfl hi20 d_MO_addWord_55 ?_
            refine lv_aload_n hx hb d_MO_addWord_56 rfl (lv_at hl 0 rfl) ?_
            refine mz_get E w 0 40 (v := .ref (ad 27)) (by decide) rfl rfl ii_11 (by decide) (Nat.le_of_ble_eq_true rfl) k_1223 rfl d_MO_addWord_57 ?_
            refine lv_iload hx hb d_MO_addWord_60 (lv_at hl 3 rfl) ?_
            obtain ⟨hi21, hf⟩ := mz_gd hf
            refine mz_iald E w 27 (by decide) rfl hi21 d_MO_addWord_62 ?_
            refine lv_iadd hx hb d_MO_addWord_63 ?_
            obtain ⟨q22, hq23, hf⟩ := mz_bd hf
            refine mz_callV E w (k := 0) (As := [.int ((mz_gI t 31 x5.toNatClampNeg) + (mz_gI t 27 x5.toNatClampNeg))]) (rest := []) (c_MO_addHeld hSK l n ((mz_gI t 31 x5.toNatClampNeg) + (mz_gI t 27 x5.toNatClampNeg)) t q22 hq23) (by decide) rfl rfl k_1541 k_15 k_1538 k_1540 ks_65 hm_MO_addHeld ⟨⟨rfl, rfl⟩, Nat.le_of_ble_eq_true rfl, Nat.le_of_ble_eq_true rfl⟩ rfl hl.1 rfl (Nat.le_of_ble_eq_true rfl) d_MO_addWord_64 ⟨Nat.zero_le _, Nat.zero_le _⟩ (st1 := []) rfl (fun H locs w => ?_)
            refine lv_iconst (v := (1 : Int32)) hx hb d_MO_addWord_67 (by decide) ?_
            obtain rfl := Option.some.inj hf
            exact mz_zret E w (by decide) rfl d_MO_addWord_68
set_option maxRecDepth 100000 in
set_option maxHeartbeats 4000000 in
theorem c_MO_addWord {SX : State → Heap → Prop} {dC : Nat → ClassId} {dI : Nat → Nat → Nat} {ad en : Nat → Nat} {ca : Nat → ClassId} (hSK : mz_SK SX ad 55) (l : Launch) (n : Nat) (x1 : Int64) (x3 : Int64) (t : mz_St) (res : (Int32 × mz_St)) (hf : f_MO_addWord n x1 x3 t = some res) : mz_C SX mz_tM 55 mz_cl dC dI ad en ca l y_MO_addWord prog_15_method_20_code 8 (some (.boolean)) (r_MO_addWord) [.ref (ad 0), .long x1, .long x3] t (some (.int res.1)) res.2 := by
  unfold f_MO_addWord at hf
  refine mz_met hSK (by decide) (Nat.le_of_ble_eq_true rfl) ?_
  intro p e s m args below meth c ls E w hl
  obtain ⟨hx, hb, hml, hown, hcx, -, -, hSX, -, -, -⟩ := id E
  have hl : lv_has ls 8 [(0, .ref (ad 0)), (1, .long x1), (3, .long x3)] := hl
  refine lv_aload_n hx hb d_MO_addWord_0 rfl (lv_at hl 0 rfl) ?_
  refine mz_get E w 0 34 (v := .int (mz_gI t 0 34)) (by decide) rfl rfl ii_11 (by decide) (Nat.le_of_ble_eq_true rfl) k_1217 rfl d_MO_addWord_1 ?_
  refine lv_iconst (v := (1 : Int32)) hx hb d_MO_addWord_4 (by decide) ?_
  refine lv_isub hx hb d_MO_addWord_5 ?_
  refine lv_istore (lv' := [(5, .int ((mz_gI t 0 34) - (1 : Int32))), (0, .ref (ad 0)), (1, .long x1), (3, .long x3)]) hx hb d_MO_addWord_6 hl (by decide) rfl (fun ls hl => ?_)
  exact b_MO_addWord_8 E n n x1 x3 ((mz_gI t 0 34) - (1 : Int32)) t hf _ _ _ w (lv_sub hl [1, 2, 3, 0] rfl)

/-! MacroHouseModel.takeLine(I)I -/
abbrev r_MO_takeLine : Room := { frames := 3, cells := 0, slots := 0, locals := 70 }
def f_MO_takeLine_361 (n : Nat) (t : mz_St) : Option (Int32 × mz_St) := some ((0 : Int32), t)
def f_MO_takeLine_50 (n : Nat) (K14 : Int32 → Int32 → Int32 → mz_St → Option (Int32 × mz_St)) (x1 : Int32) (x2 : Int32) (x3 : Int32) (x4 : Int32) (t : mz_St) : Option (Int32 × mz_St) := (f_MO_add n x4 t).bind fun q10 => K14 x1 x2 x3 q10
def f_MO_takeLine_163 (n : Nat) (K14 : Int32 → Int32 → Int32 → mz_St → Option (Int32 × mz_St)) (x1 : Int32) (x2 : Int32) (x3 : Int32) (t : mz_St) : Option (Int32 × mz_St) := K14 x1 x2 (x3 + (1 : Int32)) t
def f_MO_takeLine_160 (n : Nat) (K14 : Int32 → Int32 → Int32 → mz_St → Option (Int32 × mz_St)) (x1 : Int32) (x2 : Int32) (x3 : Int32) (s1 : Int32) (t : mz_St) : Option (Int32 × mz_St) := (f_MO_addNumber n s1 t).bind fun q23 => f_MO_takeLine_163 n K14 x1 x2 x3 q23
def f_MO_takeLine_129 (n : Nat) (K14 : Int32 → Int32 → Int32 → mz_St → Option (Int32 × mz_St)) (x1 : Int32) (x3 : Int32) (x5 : Int32) (x6 : Int32) (s0 : Int32) (t : mz_St) : Option (Int32 × mz_St) := if x6 < 0 then (f_MO_takeLine_163 n K14 x1 s0 x3 t) else (if x5 = (64 : Int32) then (if ¬ (x6 < 0 ∨ 14 ≤ x6.toNatClampNeg) then (f_MO_takeLine_160 n K14 x1 s0 x3 (mz_gI t 29 x6.toNatClampNeg) t) else none) else (if ¬ (x6 < 0 ∨ 14 ≤ x6.toNatClampNeg) then (f_MO_takeLine_160 n K14 x1 s0 x3 (mz_gI t 27 x6.toNatClampNeg) t) else none))
def f_MO_takeLine_128 (n : Nat) (K14 : Int32 → Int32 → Int32 → mz_St → Option (Int32 × mz_St)) (x1 : Int32) (x3 : Int32) (x5 : Int32) (x6 : Int32) (t : mz_St) : Option (Int32 × mz_St) := f_MO_takeLine_129 n K14 x1 x3 x5 x6 (0 : Int32) t
def f_MO_takeLine_115 (n : Nat) (K14 : Int32 → Int32 → Int32 → mz_St → Option (Int32 × mz_St)) (x1 : Int32) (x2 : Int32) (x3 : Int32) (x5 : Int32) (x6 : Int32) (t : mz_St) : Option (Int32 × mz_St) := if x2 = 0 then (f_MO_takeLine_128 n K14 x1 x3 x5 x6 t) else (if x6 < 0 then (f_MO_takeLine_128 n K14 x1 x3 x5 x6 t) else (f_MO_takeLine_129 n K14 x1 x3 x5 x6 (1 : Int32) t))
def f_MO_takeLine_330 (n : Nat) (K14 : Int32 → Int32 → Int32 → mz_St → Option (Int32 × mz_St)) (x1 : Int32) (x3 : Int32) (s0 : Int32) (t : mz_St) : Option (Int32 × mz_St) := K14 x1 s0 x3 t
def f_MO_takeLine_329 (n : Nat) (K14 : Int32 → Int32 → Int32 → mz_St → Option (Int32 × mz_St)) (x1 : Int32) (x3 : Int32) (t : mz_St) : Option (Int32 × mz_St) := f_MO_takeLine_330 n K14 x1 x3 (0 : Int32) t
def f_MO_takeLine_299 (n : Nat) (K14 : Int32 → Int32 → Int32 → mz_St → Option (Int32 × mz_St)) (x1 : Int32) (x2 : Int32) (x3 : Int32) (x7 : Int64) (x9 : Int64) (x11 : Int32) (t : mz_St) : Option (Int32 × mz_St) := (f_MO_in n x11 (1 : Int32) (12 : Int32) t).bind fun q30 => if q30.1 = 0 then (f_MO_takeLine_329 n K14 x1 x3 q30.2) else ((f_MO_addWord n x7 x9 q30.2).bind fun q33 => if q33.1 = 0 then (f_MO_takeLine_329 n K14 x1 x3 q33.2) else (if x2 = 0 then (f_MO_takeLine_329 n K14 x1 x3 q33.2) else (f_MO_takeLine_330 n K14 x1 x3 (1 : Int32) q33.2)))
def f_MO_takeLine_288 (n : Nat) (K178 : Int32 → Int32 → Int32 → Int64 → Int64 → Int32 → mz_St → Option (Int32 × mz_St)) (x1 : Int32) (x2 : Int32) (x3 : Int32) (x7 : Int64) (x11 : Int32) (s0 : Int64) (t : mz_St) : Option (Int32 × mz_St) := K178 x1 x2 (x3 + (1 : Int32)) x7 s0 (x11 + (1 : Int32)) t
def f_MO_takeLine_286 (n : Nat) (K178 : Int32 → Int32 → Int32 → Int64 → Int64 → Int32 → mz_St → Option (Int32 × mz_St)) (x1 : Int32) (x2 : Int32) (x3 : Int32) (x7 : Int64) (x9 : Int64) (x11 : Int32) (t : mz_St) : Option (Int32 × mz_St) := f_MO_takeLine_288 n K178 x1 x2 x3 x7 x11 x9 t
def f_MO_takeLine_248 (n : Nat) (K178 : Int32 → Int32 → Int32 → Int64 → Int64 → Int32 → mz_St → Option (Int32 × mz_St)) (x1 : Int32) (x2 : Int32) (x3 : Int32) (x9 : Int64) (x11 : Int32) (s0 : Int64) (t : mz_St) : Option (Int32 × mz_St) := if x11 < (8 : Int32) then (f_MO_takeLine_286 n K178 x1 x2 x3 s0 x9 x11 t) else (if (12 : Int32) ≤ x11 then (f_MO_takeLine_286 n K178 x1 x2 x3 s0 x9 x11 t) else (if ¬ (x3 < 0 ∨ 3000 ≤ x3.toNatClampNeg) then (f_MO_takeLine_288 n K178 x1 x2 x3 s0 x11 (x9 ||| ((mz_gI t 1 x3.toNatClampNeg).toInt64 <<< (((8 : Int32) * (x11 - (8 : Int32))).toInt64 &&& 63))) t) else none))
def f_MO_takeLine_220 (n : Nat) (K178 : Int32 → Int32 → Int32 → Int64 → Int64 → Int32 → mz_St → Option (Int32 × mz_St)) (x1 : Int32) (x2 : Int32) (x3 : Int32) (x7 : Int64) (x9 : Int64) (x11 : Int32) (t : mz_St) : Option (Int32 × mz_St) := if (8 : Int32) ≤ x11 then (f_MO_takeLine_248 n K178 x1 x2 x3 x9 x11 x7 t) else (if ¬ (x3 < 0 ∨ 3000 ≤ x3.toNatClampNeg) then (f_MO_takeLine_248 n K178 x1 x2 x3 x9 x11 (x7 ||| ((mz_gI t 1 x3.toNatClampNeg).toInt64 <<< (((8 : Int32) * x11).toInt64 &&& 63))) t) else none)
def f_MO_takeLine_178 (n : Nat) (K14 : Int32 → Int32 → Int32 → mz_St → Option (Int32 × mz_St)) : Nat → Int32 → Int32 → Int32 → Int64 → Int64 → Int32 → mz_St → Option (Int32 × mz_St)
  | 0, _, _, _, _, _, _, _ => none
  | k + 1, x1, x2, x3, x7, x9, x11, t => if ¬ (x1 < 0 ∨ 3001 ≤ x1.toNatClampNeg) then (if (mz_gI t 3 x1.toNatClampNeg) ≤ x3 then (f_MO_takeLine_299 n K14 x1 x2 x3 x7 x9 x11 t) else (if x11 = 0 then (if ¬ (x3 < 0 ∨ 3000 ≤ x3.toNatClampNeg) then ((f_MO_isBegin n (mz_gI t 1 x3.toNatClampNeg) t).bind fun q48 => if q48.1 = 0 then (f_MO_takeLine_299 n K14 x1 x2 x3 x7 x9 x11 q48.2) else (f_MO_takeLine_220 n (f_MO_takeLine_178 n K14 k) x1 x2 x3 x7 x9 x11 q48.2)) else none) else (if ¬ (x3 < 0 ∨ 3000 ≤ x3.toNatClampNeg) then ((f_MO_isWordSign n (mz_gI t 1 x3.toNatClampNeg) t).bind fun q39 => if q39.1 = 0 then (f_MO_takeLine_299 n K14 x1 x2 x3 x7 x9 x11 q39.2) else (f_MO_takeLine_220 n (f_MO_takeLine_178 n K14 k) x1 x2 x3 x7 x9 x11 q39.2)) else none))) else none
def f_MO_takeLine_99 (n : Nat) (K14 : Int32 → Int32 → Int32 → mz_St → Option (Int32 × mz_St)) (x1 : Int32) (x2 : Int32) (x3 : Int32) (x5 : Int32) (s0 : Int32) (t : mz_St) : Option (Int32 × mz_St) := if x5 = (64 : Int32) then (f_MO_takeLine_115 n K14 x1 x2 x3 x5 s0 t) else (if x5 = (63 : Int32) then (f_MO_takeLine_115 n K14 x1 x2 x3 x5 s0 t) else (f_MO_takeLine_178 n K14 n x1 x2 x3 (0 : Int64) (0 : Int64) (0 : Int32) t))
def f_MO_takeLine_79 (n : Nat) (K14 : Int32 → Int32 → Int32 → mz_St → Option (Int32 × mz_St)) (x1 : Int32) (x2 : Int32) (x3 : Int32) (s0 : Int32) (t : mz_St) : Option (Int32 × mz_St) := if s0 = (64 : Int32) then ((f_MO_macroFrame n t).bind fun q51 => f_MO_takeLine_99 n K14 x1 x2 x3 s0 q51.1 q51.2) else ((f_MO_givingFrame n t).bind fun q16 => f_MO_takeLine_99 n K14 x1 x2 x3 s0 q16.1 q16.2)
def f_MO_takeLine_14 (n : Nat) : Nat → Int32 → Int32 → Int32 → mz_St → Option (Int32 × mz_St)
  | 0, _, _, _, _ => none
  | k + 1, x1, x2, x3, t => if ¬ (x1 < 0 ∨ 3001 ≤ x1.toNatClampNeg) then (if (mz_gI t 3 x1.toNatClampNeg) ≤ x3 then (if x2 = 0 then (some ((1 : Int32), t)) else (if (mz_gI t 0 34) ≤ (1 : Int32) then (f_MO_takeLine_361 n  t) else (if (mz_gI t 0 60) ≤ (300 : Int32) then (f_MO_takeLine_361 n  t) else (some ((6 : Int32), t))))) else (if ¬ (x3 < 0 ∨ 3000 ≤ x3.toNatClampNeg) then (if (mz_gI t 1 x3.toNatClampNeg) = (92 : Int32) then (if (mz_gI t 0 34) = (1 : Int32) then (f_MO_takeLine_50 n (f_MO_takeLine_14 n k) x1 x2 (x3 + (1 : Int32)) (mz_gI t 1 x3.toNatClampNeg) t) else (if ¬ (x1 < 0 ∨ 3001 ≤ x1.toNatClampNeg) then (if (mz_gI t 3 x1.toNatClampNeg) ≤ (x3 + (1 : Int32)) then (f_MO_takeLine_79 n (f_MO_takeLine_14 n k) x1 x2 (x3 + (1 : Int32)) (-1 : Int32) t) else (if ¬ ((x3 + (1 : Int32)) < 0 ∨ 3000 ≤ (x3 + (1 : Int32)).toNatClampNeg) then (f_MO_takeLine_79 n (f_MO_takeLine_14 n k) x1 x2 (x3 + (1 : Int32)) (mz_gI t 1 (x3 + (1 : Int32)).toNatClampNeg) t) else none)) else none)) else (f_MO_takeLine_50 n (f_MO_takeLine_14 n k) x1 x2 (x3 + (1 : Int32)) (mz_gI t 1 x3.toNatClampNeg) t)) else none)) else none
def f_MO_takeLine (n : Nat) (x1 : Int32) (t : mz_St) : Option (Int32 × mz_St) := mz_let (mz_pI t 0 60 (0 : Int32)) fun t1 => if ¬ (x1 < 0 ∨ 3001 ≤ x1.toNatClampNeg) then (f_MO_takeLine_14 n n x1 (1 : Int32) (mz_gI t1 2 x1.toNatClampNeg) t1) else none
set_option maxRecDepth 100000 in
set_option maxHeartbeats 4000000 in
theorem b_MO_takeLine_361 {SX : State → Heap → Prop} {dC : Nat → ClassId} {dI : Nat → Nat → Nat} {ad en : Nat → Nat} {ca : Nat → ClassId} {p : Program} {l : Launch} {e : Env} {s : State} {m : MethodId} {args : Array Value} {below : List Frame} {meth : Method} {c : Code} {res : (Int32 × mz_St)} (E : mz_En SX 55 mz_cl dC dI ad ca p s m meth c prog_15_method_21_code 12 "MacroHouseModel" (some (.int))) (n : Nat) : ∀ (t : mz_St), f_MO_takeLine_361 n t = some res → ∀ (H : Heap) (locs : List Loc) (ls : Array Slot), mz_Wd mz_tM 55 mz_cl dC dI ad en ca s t H locs → lv_has ls 12 [] → W p l e (r_MO_takeLine) s m args below meth c H locs 0 0 (MQ below (mz_Q SX mz_tM 55 mz_cl dC dI ad en ca (some (.int res.1)) res.2) args s 0 0 (mz_A ad 55)) (F0 m 361 ls []) := by
  obtain ⟨hx, hb, hml, hown, hcx, -, -, hSX, -, -, hSK⟩ := id E
  intro t hf H locs ls w hl
  unfold f_MO_takeLine_361 at hf
  refine lv_iconst (v := (0 : Int32)) hx hb d_MO_takeLine_361 (by decide) ?_
  refine lv_goto (tgt := 366) hx hb d_MO_takeLine_362 (by decide) ?_
  obtain rfl := Option.some.inj hf
  exact mz_iret E w rfl d_MO_takeLine_366
set_option maxRecDepth 100000 in
set_option maxHeartbeats 4000000 in
theorem b_MO_takeLine_50 {SX : State → Heap → Prop} {dC : Nat → ClassId} {dI : Nat → Nat → Nat} {ad en : Nat → Nat} {ca : Nat → ClassId} {p : Program} {l : Launch} {e : Env} {s : State} {m : MethodId} {args : Array Value} {below : List Frame} {meth : Method} {c : Code} {res : (Int32 × mz_St)} (E : mz_En SX 55 mz_cl dC dI ad ca p s m meth c prog_15_method_21_code 12 "MacroHouseModel" (some (.int))) (n : Nat) (K14 : Int32 → Int32 → Int32 → mz_St → Option (Int32 × mz_St)) (hK14 : ∀ (x1 : Int32) (x2 : Int32) (x3 : Int32) (t : mz_St), K14 x1 x2 x3 t = some res → ∀ (H : Heap) (locs : List Loc) (ls : Array Slot), mz_Wd mz_tM 55 mz_cl dC dI ad en ca s t H locs → lv_has ls 12 [(0, .ref (ad 0)), (1, .int x1), (2, .int x2), (3, .int x3)] → W p l e (r_MO_takeLine) s m args below meth c H locs 0 0 (MQ below (mz_Q SX mz_tM 55 mz_cl dC dI ad en ca (some (.int res.1)) res.2) args s 0 0 (mz_A ad 55)) (F0 m 14 ls [])) : ∀ (x1 : Int32) (x2 : Int32) (x3 : Int32) (x4 : Int32) (t : mz_St), f_MO_takeLine_50 n K14 x1 x2 x3 x4 t = some res → ∀ (H : Heap) (locs : List Loc) (ls : Array Slot), mz_Wd mz_tM 55 mz_cl dC dI ad en ca s t H locs → lv_has ls 12 [(0, .ref (ad 0)), (1, .int x1), (2, .int x2), (3, .int x3), (4, .int x4)] → W p l e (r_MO_takeLine) s m args below meth c H locs 0 0 (MQ below (mz_Q SX mz_tM 55 mz_cl dC dI ad en ca (some (.int res.1)) res.2) args s 0 0 (mz_A ad 55)) (F0 m 50 ls []) := by
  obtain ⟨hx, hb, hml, hown, hcx, -, -, hSX, -, -, hSK⟩ := id E
  intro x1 x2 x3 x4 t hf H locs ls w hl
  unfold f_MO_takeLine_50 at hf
  refine lv_aload_n hx hb d_MO_takeLine_50 rfl (lv_at hl 0 rfl) ?_
  refine lv_iload hx hb d_MO_takeLine_51 (lv_at hl 4 rfl) ?_
  obtain ⟨q10, hq11, hf⟩ := mz_bd hf
  refine mz_callV E w (k := 0) (As := [.int x4]) (rest := []) (c_MO_add hSK l n x4 t q10 hq11) (by decide) rfl rfl k_1521 k_15 k_1518 k_1520 ks_60 hm_MO_add ⟨⟨rfl, rfl⟩, Nat.le_of_ble_eq_true rfl, Nat.le_of_ble_eq_true rfl⟩ rfl hl.1 rfl (Nat.le_of_ble_eq_true rfl) d_MO_takeLine_53 ⟨Nat.zero_le _, Nat.zero_le _⟩ (st1 := []) rfl (fun H locs w => ?_)
  refine lv_goto (tgt := 14) hx hb d_MO_takeLine_56 (by decide) ?_
  exact hK14 x1 x2 x3 q10 hf _ _ _ w (lv_sub hl [0, 1, 2, 3] rfl)
set_option maxRecDepth 100000 in
set_option maxHeartbeats 4000000 in
theorem b_MO_takeLine_163 {SX : State → Heap → Prop} {dC : Nat → ClassId} {dI : Nat → Nat → Nat} {ad en : Nat → Nat} {ca : Nat → ClassId} {p : Program} {l : Launch} {e : Env} {s : State} {m : MethodId} {args : Array Value} {below : List Frame} {meth : Method} {c : Code} {res : (Int32 × mz_St)} (E : mz_En SX 55 mz_cl dC dI ad ca p s m meth c prog_15_method_21_code 12 "MacroHouseModel" (some (.int))) (n : Nat) (K14 : Int32 → Int32 → Int32 → mz_St → Option (Int32 × mz_St)) (hK14 : ∀ (x1 : Int32) (x2 : Int32) (x3 : Int32) (t : mz_St), K14 x1 x2 x3 t = some res → ∀ (H : Heap) (locs : List Loc) (ls : Array Slot), mz_Wd mz_tM 55 mz_cl dC dI ad en ca s t H locs → lv_has ls 12 [(0, .ref (ad 0)), (1, .int x1), (2, .int x2), (3, .int x3)] → W p l e (r_MO_takeLine) s m args below meth c H locs 0 0 (MQ below (mz_Q SX mz_tM 55 mz_cl dC dI ad en ca (some (.int res.1)) res.2) args s 0 0 (mz_A ad 55)) (F0 m 14 ls [])) : ∀ (x1 : Int32) (x2 : Int32) (x3 : Int32) (t : mz_St), f_MO_takeLine_163 n K14 x1 x2 x3 t = some res → ∀ (H : Heap) (locs : List Loc) (ls : Array Slot), mz_Wd mz_tM 55 mz_cl dC dI ad en ca s t H locs → lv_has ls 12 [(0, .ref (ad 0)), (1, .int x1), (2, .int x2), (3, .int x3)] → W p l e (r_MO_takeLine) s m args below meth c H locs 0 0 (MQ below (mz_Q SX mz_tM 55 mz_cl dC dI ad en ca (some (.int res.1)) res.2) args s 0 0 (mz_A ad 55)) (F0 m 163 ls []) := by
  obtain ⟨hx, hb, hml, hown, hcx, -, -, hSX, -, -, hSK⟩ := id E
  intro x1 x2 x3 t hf H locs ls w hl
  unfold f_MO_takeLine_163 at hf
  refine lv_iinc (v := (x3 + (1 : Int32))) (lv' := [(3, .int (x3 + (1 : Int32))), (0, .ref (ad 0)), (1, .int x1), (2, .int x2)]) hx hb d_MO_takeLine_163 hl (k := 3) rfl rfl (by decide) rfl (fun ls hl => ?_)
  refine lv_goto (tgt := 14) hx hb d_MO_takeLine_166 (by decide) ?_
  exact hK14 x1 x2 (x3 + (1 : Int32)) t hf _ _ _ w (lv_sub hl [1, 2, 3, 0] rfl)
set_option maxRecDepth 100000 in
set_option maxHeartbeats 4000000 in
theorem b_MO_takeLine_160 {SX : State → Heap → Prop} {dC : Nat → ClassId} {dI : Nat → Nat → Nat} {ad en : Nat → Nat} {ca : Nat → ClassId} {p : Program} {l : Launch} {e : Env} {s : State} {m : MethodId} {args : Array Value} {below : List Frame} {meth : Method} {c : Code} {res : (Int32 × mz_St)} (E : mz_En SX 55 mz_cl dC dI ad ca p s m meth c prog_15_method_21_code 12 "MacroHouseModel" (some (.int))) (n : Nat) (K14 : Int32 → Int32 → Int32 → mz_St → Option (Int32 × mz_St)) (hK14 : ∀ (x1 : Int32) (x2 : Int32) (x3 : Int32) (t : mz_St), K14 x1 x2 x3 t = some res → ∀ (H : Heap) (locs : List Loc) (ls : Array Slot), mz_Wd mz_tM 55 mz_cl dC dI ad en ca s t H locs → lv_has ls 12 [(0, .ref (ad 0)), (1, .int x1), (2, .int x2), (3, .int x3)] → W p l e (r_MO_takeLine) s m args below meth c H locs 0 0 (MQ below (mz_Q SX mz_tM 55 mz_cl dC dI ad en ca (some (.int res.1)) res.2) args s 0 0 (mz_A ad 55)) (F0 m 14 ls [])) : ∀ (x1 : Int32) (x2 : Int32) (x3 : Int32) (s1 : Int32) (t : mz_St), f_MO_takeLine_160 n K14 x1 x2 x3 s1 t = some res → ∀ (H : Heap) (locs : List Loc) (ls : Array Slot), mz_Wd mz_tM 55 mz_cl dC dI ad en ca s t H locs → lv_has ls 12 [(0, .ref (ad 0)), (1, .int x1), (2, .int x2), (3, .int x3)] → W p l e (r_MO_takeLine) s m args below meth c H locs 0 0 (MQ below (mz_Q SX mz_tM 55 mz_cl dC dI ad en ca (some (.int res.1)) res.2) args s 0 0 (mz_A ad 55)) (F0 m 160 ls [.int s1, .ref (ad 0)]) := by
  obtain ⟨hx, hb, hml, hown, hcx, -, -, hSX, -, -, hSK⟩ := id E
  intro x1 x2 x3 s1 t hf H locs ls w hl
  unfold f_MO_takeLine_160 at hf
  obtain ⟨q23, hq24, hf⟩ := mz_bd hf
  refine mz_callV E w (k := 0) (As := [.int s1]) (rest := []) (c_MO_addNumber hSK l n s1 t q23 hq24) (by decide) rfl rfl k_1533 k_15 k_1530 k_1532 ks_63 hm_MO_addNumber ⟨⟨rfl, rfl⟩, Nat.le_of_ble_eq_true rfl, Nat.le_of_ble_eq_true rfl⟩ rfl hl.1 rfl (Nat.le_of_ble_eq_true rfl) d_MO_takeLine_160 ⟨Nat.zero_le _, Nat.zero_le _⟩ (st1 := []) rfl (fun H locs w => ?_)
  exact b_MO_takeLine_163 E n K14 hK14 x1 x2 x3 q23 hf _ _ _ w (lv_sub hl [0, 1, 2, 3] rfl)
set_option maxRecDepth 100000 in
set_option maxHeartbeats 4000000 in
theorem b_MO_takeLine_129 {SX : State → Heap → Prop} {dC : Nat → ClassId} {dI : Nat → Nat → Nat} {ad en : Nat → Nat} {ca : Nat → ClassId} {p : Program} {l : Launch} {e : Env} {s : State} {m : MethodId} {args : Array Value} {below : List Frame} {meth : Method} {c : Code} {res : (Int32 × mz_St)} (E : mz_En SX 55 mz_cl dC dI ad ca p s m meth c prog_15_method_21_code 12 "MacroHouseModel" (some (.int))) (n : Nat) (K14 : Int32 → Int32 → Int32 → mz_St → Option (Int32 × mz_St)) (hK14 : ∀ (x1 : Int32) (x2 : Int32) (x3 : Int32) (t : mz_St), K14 x1 x2 x3 t = some res → ∀ (H : Heap) (locs : List Loc) (ls : Array Slot), mz_Wd mz_tM 55 mz_cl dC dI ad en ca s t H locs → lv_has ls 12 [(0, .ref (ad 0)), (1, .int x1), (2, .int x2), (3, .int x3)] → W p l e (r_MO_takeLine) s m args below meth c H locs 0 0 (MQ below (mz_Q SX mz_tM 55 mz_cl dC dI ad en ca (some (.int res.1)) res.2) args s 0 0 (mz_A ad 55)) (F0 m 14 ls [])) : ∀ (x1 : Int32) (x3 : Int32) (x5 : Int32) (x6 : Int32) (s0 : Int32) (t : mz_St), f_MO_takeLine_129 n K14 x1 x3 x5 x6 s0 t = some res → ∀ (H : Heap) (locs : List Loc) (ls : Array Slot), mz_Wd mz_tM 55 mz_cl dC dI ad en ca s t H locs → lv_has ls 12 [(0, .ref (ad 0)), (1, .int x1), (3, .int x3), (5, .int x5), (6, .int x6)] → W p l e (r_MO_takeLine) s m args below meth c H locs 0 0 (MQ below (mz_Q SX mz_tM 55 mz_cl dC dI ad en ca (some (.int res.1)) res.2) args s 0 0 (mz_A ad 55)) (F0 m 129 ls [.int s0]) := by
  obtain ⟨hx, hb, hml, hown, hcx, -, -, hSX, -, -, hSK⟩ := id E
  intro x1 x3 x5 x6 s0 t hf H locs ls w hl
  unfold f_MO_takeLine_129 at hf
  refine lv_istore_n (lv' := [(2, .int s0), (0, .ref (ad 0)), (1, .int x1), (3, .int x3), (5, .int x5), (6, .int x6)]) hx hb d_MO_takeLine_129 rfl hl (by decide) rfl (fun ls hl => ?_)
  refine lv_iload hx hb d_MO_takeLine_130 (lv_at hl 5 rfl) ?_
  refine lv_if_lt (tgt := 163) hx hb d_MO_takeLine_132 (by decide) (fun hc20 => ?_) (fun hc20 => ?_)
  · have hf := mz_t hc20 hf
    exact b_MO_takeLine_163 E n K14 hK14 x1 s0 x3 t hf _ _ _ w (lv_sub hl [1, 2, 0, 3] rfl)
  · have hf := mz_f hc20 hf
    refine lv_aload_n hx hb d_MO_takeLine_135 rfl (lv_at hl 1 rfl) ?_
    refine lv_iload hx hb d_MO_takeLine_136 (lv_at hl 4 rfl) ?_
    refine lv_bipush (v := (64 : Int32)) hx hb d_MO_takeLine_138 (by decide) ?_
    refine lv_icmp_ne (tgt := 153) hx hb d_MO_takeLine_140 (by decide) (fun hc21 => ?_) (fun hc21 => ?_)
    · have hf := mz_f hc21 hf
      refine lv_aload_n hx hb d_MO_takeLine_153 rfl (lv_at hl 1 rfl) ?_
      refine mz_get E w 0 40 (v := .ref (ad 27)) (by decide) rfl rfl ii_11 (by decide) (Nat.le_of_ble_eq_true rfl) k_1223 rfl d_MO_takeLine_154 ?_
      refine lv_iload hx hb d_MO_takeLine_157 (lv_at hl 5 rfl) ?_
      obtain ⟨hi22, hf⟩ := mz_gd hf
      refine mz_iald E w 27 (by decide) rfl hi22 d_MO_takeLine_159 ?_
      exact b_MO_takeLine_160 E n K14 hK14 x1 s0 x3 (mz_gI t 27 x6.toNatClampNeg) t hf _ _ _ w (lv_sub hl [1, 2, 0, 3] rfl)
    · have hf := mz_t hc21 hf
      refine lv_aload_n hx hb d_MO_takeLine_143 rfl (lv_at hl 1 rfl) ?_
      refine mz_get E w 0 42 (v := .ref (ad 29)) (by decide) rfl rfl ii_11 (by decide) (Nat.le_of_ble_eq_true rfl) k_1225 rfl d_MO_takeLine_144 ?_
      refine lv_iload hx hb d_MO_takeLine_147 (lv_at hl 5 rfl) ?_
      obtain ⟨hi25, hf⟩ := mz_gd hf
      refine mz_iald E w 29 (by decide) rfl hi25 d_MO_takeLine_149 ?_
      refine lv_goto (tgt := 160) hx hb d_MO_takeLine_150 (by decide) ?_
      exact b_MO_takeLine_160 E n K14 hK14 x1 s0 x3 (mz_gI t 29 x6.toNatClampNeg) t hf _ _ _ w (lv_sub hl [1, 2, 0, 3] rfl)
set_option maxRecDepth 100000 in
set_option maxHeartbeats 4000000 in
theorem b_MO_takeLine_128 {SX : State → Heap → Prop} {dC : Nat → ClassId} {dI : Nat → Nat → Nat} {ad en : Nat → Nat} {ca : Nat → ClassId} {p : Program} {l : Launch} {e : Env} {s : State} {m : MethodId} {args : Array Value} {below : List Frame} {meth : Method} {c : Code} {res : (Int32 × mz_St)} (E : mz_En SX 55 mz_cl dC dI ad ca p s m meth c prog_15_method_21_code 12 "MacroHouseModel" (some (.int))) (n : Nat) (K14 : Int32 → Int32 → Int32 → mz_St → Option (Int32 × mz_St)) (hK14 : ∀ (x1 : Int32) (x2 : Int32) (x3 : Int32) (t : mz_St), K14 x1 x2 x3 t = some res → ∀ (H : Heap) (locs : List Loc) (ls : Array Slot), mz_Wd mz_tM 55 mz_cl dC dI ad en ca s t H locs → lv_has ls 12 [(0, .ref (ad 0)), (1, .int x1), (2, .int x2), (3, .int x3)] → W p l e (r_MO_takeLine) s m args below meth c H locs 0 0 (MQ below (mz_Q SX mz_tM 55 mz_cl dC dI ad en ca (some (.int res.1)) res.2) args s 0 0 (mz_A ad 55)) (F0 m 14 ls [])) : ∀ (x1 : Int32) (x3 : Int32) (x5 : Int32) (x6 : Int32) (t : mz_St), f_MO_takeLine_128 n K14 x1 x3 x5 x6 t = some res → ∀ (H : Heap) (locs : List Loc) (ls : Array Slot), mz_Wd mz_tM 55 mz_cl dC dI ad en ca s t H locs → lv_has ls 12 [(0, .ref (ad 0)), (1, .int x1), (3, .int x3), (5, .int x5), (6, .int x6)] → W p l e (r_MO_takeLine) s m args below meth c H locs 0 0 (MQ below (mz_Q SX mz_tM 55 mz_cl dC dI ad en ca (some (.int res.1)) res.2) args s 0 0 (mz_A ad 55)) (F0 m 128 ls []) := by
  obtain ⟨hx, hb, hml, hown, hcx, -, -, hSX, -, -, hSK⟩ := id E
  intro x1 x3 x5 x6 t hf H locs ls w hl
  unfold f_MO_takeLine_128 at hf
  refine lv_iconst (v := (0 : Int32)) hx hb d_MO_takeLine_128 (by decide) ?_
  exact b_MO_takeLine_129 E n K14 hK14 x1 x3 x5 x6 (0 : Int32) t hf _ _ _ w (lv_sub hl [0, 1, 2, 3, 4] rfl)
set_option maxRecDepth 100000 in
set_option maxHeartbeats 4000000 in
theorem b_MO_takeLine_115 {SX : State → Heap → Prop} {dC : Nat → ClassId} {dI : Nat → Nat → Nat} {ad en : Nat → Nat} {ca : Nat → ClassId} {p : Program} {l : Launch} {e : Env} {s : State} {m : MethodId} {args : Array Value} {below : List Frame} {meth : Method} {c : Code} {res : (Int32 × mz_St)} (E : mz_En SX 55 mz_cl dC dI ad ca p s m meth c prog_15_method_21_code 12 "MacroHouseModel" (some (.int))) (n : Nat) (K14 : Int32 → Int32 → Int32 → mz_St → Option (Int32 × mz_St)) (hK14 : ∀ (x1 : Int32) (x2 : Int32) (x3 : Int32) (t : mz_St), K14 x1 x2 x3 t = some res → ∀ (H : Heap) (locs : List Loc) (ls : Array Slot), mz_Wd mz_tM 55 mz_cl dC dI ad en ca s t H locs → lv_has ls 12 [(0, .ref (ad 0)), (1, .int x1), (2, .int x2), (3, .int x3)] → W p l e (r_MO_takeLine) s m args below meth c H locs 0 0 (MQ below (mz_Q SX mz_tM 55 mz_cl dC dI ad en ca (some (.int res.1)) res.2) args s 0 0 (mz_A ad 55)) (F0 m 14 ls [])) : ∀ (x1 : Int32) (x2 : Int32) (x3 : Int32) (x5 : Int32) (x6 : Int32) (t : mz_St), f_MO_takeLine_115 n K14 x1 x2 x3 x5 x6 t = some res → ∀ (H : Heap) (locs : List Loc) (ls : Array Slot), mz_Wd mz_tM 55 mz_cl dC dI ad en ca s t H locs → lv_has ls 12 [(0, .ref (ad 0)), (1, .int x1), (2, .int x2), (3, .int x3), (5, .int x5), (6, .int x6)] → W p l e (r_MO_takeLine) s m args below meth c H locs 0 0 (MQ below (mz_Q SX mz_tM 55 mz_cl dC dI ad en ca (some (.int res.1)) res.2) args s 0 0 (mz_A ad 55)) (F0 m 115 ls []) := by
  obtain ⟨hx, hb, hml, hown, hcx, -, -, hSX, -, -, hSK⟩ := id E
  intro x1 x2 x3 x5 x6 t hf H locs ls w hl
  unfold f_MO_takeLine_115 at hf
  refine lv_iload_n hx hb d_MO_takeLine_115 rfl (lv_at hl 2 rfl) ?_
  refine lv_if_eq (tgt := 128) hx hb d_MO_takeLine_116 (by decide) (fun hc19 => ?_) (fun hc19 => ?_)
  · have hf := mz_t hc19 hf
    exact b_MO_takeLine_128 E n K14 hK14 x1 x3 x5 x6 t hf _ _ _ w (lv_sub hl [0, 1, 3, 4, 5] rfl)
  · have hf := mz_f hc19 hf
    refine lv_iload hx hb d_MO_takeLine_119 (lv_at hl 5 rfl) ?_
    refine lv_if_lt (tgt := 128) hx hb d_MO_takeLine_121 (by decide) (fun hc26 => ?_) (fun hc26 => ?_)
    · have hf := mz_t hc26 hf
      exact b_MO_takeLine_128 E n K14 hK14 x1 x3 x5 x6 t hf _ _ _ w (lv_sub hl [0, 1, 3, 4, 5] rfl)
    · have hf := mz_f hc26 hf
      refine lv_iconst (v := (1 : Int32)) hx hb d_MO_takeLine_124 (by decide) ?_
      refine lv_goto (tgt := 129) hx hb d_MO_takeLine_125 (by decide) ?_
      exact b_MO_takeLine_129 E n K14 hK14 x1 x3 x5 x6 (1 : Int32) t hf _ _ _ w (lv_sub hl [0, 1, 3, 4, 5] rfl)
set_option maxRecDepth 100000 in
set_option maxHeartbeats 4000000 in
theorem b_MO_takeLine_330 {SX : State → Heap → Prop} {dC : Nat → ClassId} {dI : Nat → Nat → Nat} {ad en : Nat → Nat} {ca : Nat → ClassId} {p : Program} {l : Launch} {e : Env} {s : State} {m : MethodId} {args : Array Value} {below : List Frame} {meth : Method} {c : Code} {res : (Int32 × mz_St)} (E : mz_En SX 55 mz_cl dC dI ad ca p s m meth c prog_15_method_21_code 12 "MacroHouseModel" (some (.int))) (n : Nat) (K14 : Int32 → Int32 → Int32 → mz_St → Option (Int32 × mz_St)) (hK14 : ∀ (x1 : Int32) (x2 : Int32) (x3 : Int32) (t : mz_St), K14 x1 x2 x3 t = some res → ∀ (H : Heap) (locs : List Loc) (ls : Array Slot), mz_Wd mz_tM 55 mz_cl dC dI ad en ca s t H locs → lv_has ls 12 [(0, .ref (ad 0)), (1, .int x1), (2, .int x2), (3, .int x3)] → W p l e (r_MO_takeLine) s m args below meth c H locs 0 0 (MQ below (mz_Q SX mz_tM 55 mz_cl dC dI ad en ca (some (.int res.1)) res.2) args s 0 0 (mz_A ad 55)) (F0 m 14 ls [])) : ∀ (x1 : Int32) (x3 : Int32) (s0 : Int32) (t : mz_St), f_MO_takeLine_330 n K14 x1 x3 s0 t = some res → ∀ (H : Heap) (locs : List Loc) (ls : Array Slot), mz_Wd mz_tM 55 mz_cl dC dI ad en ca s t H locs → lv_has ls 12 [(0, .ref (ad 0)), (1, .int x1), (3, .int x3)] → W p l e (r_MO_takeLine) s m args below meth c H locs 0 0 (MQ below (mz_Q SX mz_tM 55 mz_cl dC dI ad en ca (some (.int res.1)) res.2) args s 0 0 (mz_A ad 55)) (F0 m 330 ls [.int s0]) := by
  obtain ⟨hx, hb, hml, hown, hcx, -, -, hSX, -, -, hSK⟩ := id E
  intro x1 x3 s0 t hf H locs ls w hl
  unfold f_MO_takeLine_330 at hf
  refine lv_istore_n (lv' := [(2, .int s0), (0, .ref (ad 0)), (1, .int x1), (3, .int x3)]) hx hb d_MO_takeLine_330 rfl hl (by decide) rfl (fun ls hl => ?_)
  refine lv_goto (tgt := 14) hx hb d_MO_takeLine_331 (by decide) ?_
  exact hK14 x1 s0 x3 t hf _ _ _ w (lv_sub hl [1, 2, 0, 3] rfl)
set_option maxRecDepth 100000 in
set_option maxHeartbeats 4000000 in
theorem b_MO_takeLine_329 {SX : State → Heap → Prop} {dC : Nat → ClassId} {dI : Nat → Nat → Nat} {ad en : Nat → Nat} {ca : Nat → ClassId} {p : Program} {l : Launch} {e : Env} {s : State} {m : MethodId} {args : Array Value} {below : List Frame} {meth : Method} {c : Code} {res : (Int32 × mz_St)} (E : mz_En SX 55 mz_cl dC dI ad ca p s m meth c prog_15_method_21_code 12 "MacroHouseModel" (some (.int))) (n : Nat) (K14 : Int32 → Int32 → Int32 → mz_St → Option (Int32 × mz_St)) (hK14 : ∀ (x1 : Int32) (x2 : Int32) (x3 : Int32) (t : mz_St), K14 x1 x2 x3 t = some res → ∀ (H : Heap) (locs : List Loc) (ls : Array Slot), mz_Wd mz_tM 55 mz_cl dC dI ad en ca s t H locs → lv_has ls 12 [(0, .ref (ad 0)), (1, .int x1), (2, .int x2), (3, .int x3)] → W p l e (r_MO_takeLine) s m args below meth c H locs 0 0 (MQ below (mz_Q SX mz_tM 55 mz_cl dC dI ad en ca (some (.int res.1)) res.2) args s 0 0 (mz_A ad 55)) (F0 m 14 ls [])) : ∀ (x1 : Int32) (x3 : Int32) (t : mz_St), f_MO_takeLine_329 n K14 x1 x3 t = some res → ∀ (H : Heap) (locs : List Loc) (ls : Array Slot), mz_Wd mz_tM 55 mz_cl dC dI ad en ca s t H locs → lv_has ls 12 [(0, .ref (ad 0)), (1, .int x1), (3, .int x3)] → W p l e (r_MO_takeLine) s m args below meth c H locs 0 0 (MQ below (mz_Q SX mz_tM 55 mz_cl dC dI ad en ca (some (.int res.1)) res.2) args s 0 0 (mz_A ad 55)) (F0 m 329 ls []) := by
  obtain ⟨hx, hb, hml, hown, hcx, -, -, hSX, -, -, hSK⟩ := id E
  intro x1 x3 t hf H locs ls w hl
  unfold f_MO_takeLine_329 at hf
  refine lv_iconst (v := (0 : Int32)) hx hb d_MO_takeLine_329 (by decide) ?_
  exact b_MO_takeLine_330 E n K14 hK14 x1 x3 (0 : Int32) t hf _ _ _ w (lv_sub hl [0, 1, 2] rfl)
set_option maxRecDepth 100000 in
set_option maxHeartbeats 4000000 in
theorem b_MO_takeLine_299 {SX : State → Heap → Prop} {dC : Nat → ClassId} {dI : Nat → Nat → Nat} {ad en : Nat → Nat} {ca : Nat → ClassId} {p : Program} {l : Launch} {e : Env} {s : State} {m : MethodId} {args : Array Value} {below : List Frame} {meth : Method} {c : Code} {res : (Int32 × mz_St)} (E : mz_En SX 55 mz_cl dC dI ad ca p s m meth c prog_15_method_21_code 12 "MacroHouseModel" (some (.int))) (n : Nat) (K14 : Int32 → Int32 → Int32 → mz_St → Option (Int32 × mz_St)) (hK14 : ∀ (x1 : Int32) (x2 : Int32) (x3 : Int32) (t : mz_St), K14 x1 x2 x3 t = some res → ∀ (H : Heap) (locs : List Loc) (ls : Array Slot), mz_Wd mz_tM 55 mz_cl dC dI ad en ca s t H locs → lv_has ls 12 [(0, .ref (ad 0)), (1, .int x1), (2, .int x2), (3, .int x3)] → W p l e (r_MO_takeLine) s m args below meth c H locs 0 0 (MQ below (mz_Q SX mz_tM 55 mz_cl dC dI ad en ca (some (.int res.1)) res.2) args s 0 0 (mz_A ad 55)) (F0 m 14 ls [])) : ∀ (x1 : Int32) (x2 : Int32) (x3 : Int32) (x7 : Int64) (x9 : Int64) (x11 : Int32) (t : mz_St), f_MO_takeLine_299 n K14 x1 x2 x3 x7 x9 x11 t = some res → ∀ (H : Heap) (locs : List Loc) (ls : Array Slot), mz_Wd mz_tM 55 mz_cl dC dI ad en ca s t H locs → lv_has ls 12 [(0, .ref (ad 0)), (1, .int x1), (2, .int x2), (3, .int x3), (7, .long x7), (9, .long x9), (11, .int x11)] → W p l e (r_MO_takeLine) s m args below meth c H locs 0 0 (MQ below (mz_Q SX mz_tM 55 mz_cl dC dI ad en ca (some (.int res.1)) res.2) args s 0 0 (mz_A ad 55)) (F0 m 299 ls []) := by
  obtain ⟨hx, hb, hml, hown, hcx, -, -, hSX, -, -, hSK⟩ := id E
  intro x1 x2 x3 x7 x9 x11 t hf H locs ls w hl
  unfold f_MO_takeLine_299 at hf
  refine lv_iload hx hb d_MO_takeLine_299 (lv_at hl 6 rfl) ?_
  refine lv_iconst (v := (1 : Int32)) hx hb d_MO_takeLine_301 (by decide) ?_
  refine lv_bipush (v := (12 : Int32)) hx hb d_MO_takeLine_302 (by decide) ?_
  obtain ⟨q30, hq31, hf⟩ := mz_bd hf
  refine mz_callS E w (As := [.int x11, .int (1 : Int32), .int (12 : Int32)]) (rest := []) (c_MO_in hSK l n x11 (1 : Int32) (12 : Int32) t q30 hq31) k_1435 k_15 k_1433 k_1434 hm_MO_in ⟨⟨rfl, rfl⟩, Nat.le_of_ble_eq_true rfl, Nat.le_of_ble_eq_true rfl⟩ rfl hl.1 rfl (Nat.le_of_ble_eq_true rfl) d_MO_takeLine_304 ⟨Nat.zero_le _, Nat.zero_le _⟩ (st1 := [.int q30.1]) rfl (fun H locs w => ?_)
  refine lv_if_eq (tgt := 329) hx hb d_MO_takeLine_307 (by decide) (fun hc32 => ?_) (fun hc32 => ?_)
  · have hf := mz_t hc32 hf
    exact b_MO_takeLine_329 E n K14 hK14 x1 x3 q30.2 hf _ _ _ w (lv_sub hl [0, 1, 3] rfl)
  · have hf := mz_f hc32 hf
    refine lv_aload_n hx hb d_MO_takeLine_310 rfl (lv_at hl 0 rfl) ?_
    refine lv_lload hx hb d_MO_takeLine_311 (lv_at hl 4 rfl) ?_
    refine lv_lload hx hb d_MO_takeLine_313 (lv_at hl 5 rfl) ?_
    obtain ⟨q33, hq34, hf⟩ := mz_bd hf
    refine mz_callV E w (k := 0) (As := [.long x7, .long x9]) (rest := []) (c_MO_addWord hSK l n x7 x9 q30.2 q33 hq34) (by decide) rfl rfl k_1537 k_15 k_1534 k_1536 ks_64 hm_MO_addWord ⟨⟨rfl, rfl⟩, Nat.le_of_ble_eq_true rfl, Nat.le_of_ble_eq_true rfl⟩ rfl hl.1 rfl (Nat.le_of_ble_eq_true rfl) d_MO_takeLine_315 ⟨Nat.zero_le _, Nat.zero_le _⟩ (st1 := [.int q33.1]) rfl (fun H locs w => ?_)
    refine lv_if_eq (tgt := 329) hx hb d_MO_takeLine_318 (by decide) (fun hc35 => ?_) (fun hc35 => ?_)
    · have hf := mz_t hc35 hf
      exact b_MO_takeLine_329 E n K14 hK14 x1 x3 q33.2 hf _ _ _ w (lv_sub hl [0, 1, 3] rfl)
    · have hf := mz_f hc35 hf
      refine lv_iload_n hx hb d_MO_takeLine_321 rfl (lv_at hl 2 rfl) ?_
      refine lv_if_eq (tgt := 329) hx hb d_MO_takeLine_322 (by decide) (fun hc36 => ?_) (fun hc36 => ?_)
      · have hf := mz_t hc36 hf
        exact b_MO_takeLine_329 E n K14 hK14 x1 x3 q33.2 hf _ _ _ w (lv_sub hl [0, 1, 3] rfl)
      · have hf := mz_f hc36 hf
        refine lv_iconst (v := (1 : Int32)) hx hb d_MO_takeLine_325 (by decide) ?_
        refine lv_goto (tgt := 330) hx hb d_MO_takeLine_326 (by decide) ?_
        exact b_MO_takeLine_330 E n K14 hK14 x1 x3 (1 : Int32) q33.2 hf _ _ _ w (lv_sub hl [0, 1, 3] rfl)
set_option maxRecDepth 100000 in
set_option maxHeartbeats 4000000 in
theorem b_MO_takeLine_288 {SX : State → Heap → Prop} {dC : Nat → ClassId} {dI : Nat → Nat → Nat} {ad en : Nat → Nat} {ca : Nat → ClassId} {p : Program} {l : Launch} {e : Env} {s : State} {m : MethodId} {args : Array Value} {below : List Frame} {meth : Method} {c : Code} {res : (Int32 × mz_St)} (E : mz_En SX 55 mz_cl dC dI ad ca p s m meth c prog_15_method_21_code 12 "MacroHouseModel" (some (.int))) (n : Nat) (K178 : Int32 → Int32 → Int32 → Int64 → Int64 → Int32 → mz_St → Option (Int32 × mz_St)) (hK178 : ∀ (x1 : Int32) (x2 : Int32) (x3 : Int32) (x7 : Int64) (x9 : Int64) (x11 : Int32) (t : mz_St), K178 x1 x2 x3 x7 x9 x11 t = some res → ∀ (H : Heap) (locs : List Loc) (ls : Array Slot), mz_Wd mz_tM 55 mz_cl dC dI ad en ca s t H locs → lv_has ls 12 [(0, .ref (ad 0)), (1, .int x1), (2, .int x2), (3, .int x3), (7, .long x7), (9, .long x9), (11, .int x11)] → W p l e (r_MO_takeLine) s m args below meth c H locs 0 0 (MQ below (mz_Q SX mz_tM 55 mz_cl dC dI ad en ca (some (.int res.1)) res.2) args s 0 0 (mz_A ad 55)) (F0 m 178 ls [])) : ∀ (x1 : Int32) (x2 : Int32) (x3 : Int32) (x7 : Int64) (x11 : Int32) (s0 : Int64) (t : mz_St), f_MO_takeLine_288 n K178 x1 x2 x3 x7 x11 s0 t = some res → ∀ (H : Heap) (locs : List Loc) (ls : Array Slot), mz_Wd mz_tM 55 mz_cl dC dI ad en ca s t H locs → lv_has ls 12 [(0, .ref (ad 0)), (1, .int x1), (2, .int x2), (3, .int x3), (7, .long x7), (11, .int x11)] → W p l e (r_MO_takeLine) s m args below meth c H locs 0 0 (MQ below (mz_Q SX mz_tM 55 mz_cl dC dI ad en ca (some (.int res.1)) res.2) args s 0 0 (mz_A ad 55)) (F0 m 288 ls [.long s0]) := by
  obtain ⟨hx, hb, hml, hown, hcx, -, -, hSX, -, -, hSK⟩ := id E
  intro x1 x2 x3 x7 x11 s0 t hf H locs ls w hl
  unfold f_MO_takeLine_288 at hf
  refine lv_lstore (lv' := [(9, .long s0), (0, .ref (ad 0)), (1, .int x1), (2, .int x2), (3, .int x3), (7, .long x7), (11, .int x11)]) hx hb d_MO_takeLine_288 hl (by decide) rfl (fun ls hl => ?_)
  refine lv_iinc (v := (x11 + (1 : Int32))) (lv' := [(11, .int (x11 + (1 : Int32))), (9, .long s0), (0, .ref (ad 0)), (1, .int x1), (2, .int x2), (3, .int x3), (7, .long x7)]) hx hb d_MO_takeLine_290 hl (k := 6) rfl rfl (by decide) rfl (fun ls hl => ?_)
  refine lv_iinc (v := (x3 + (1 : Int32))) (lv' := [(3, .int (x3 + (1 : Int32))), (11, .int (x11 + (1 : Int32))), (9, .long s0), (0, .ref (ad 0)), (1, .int x1), (2, .int x2), (7, .long x7)]) hx hb d_MO_takeLine_293 hl (k := 5) rfl rfl (by decide) rfl (fun ls hl => ?_)
  refine lv_goto (tgt := 178) hx hb d_MO_takeLine_296 (by decide) ?_
  exact hK178 x1 x2 (x3 + (1 : Int32)) x7 s0 (x11 + (1 : Int32)) t hf _ _ _ w (lv_sub hl [3, 4, 5, 0, 6, 2, 1] rfl)
set_option maxRecDepth 100000 in
set_option maxHeartbeats 4000000 in
theorem b_MO_takeLine_286 {SX : State → Heap → Prop} {dC : Nat → ClassId} {dI : Nat → Nat → Nat} {ad en : Nat → Nat} {ca : Nat → ClassId} {p : Program} {l : Launch} {e : Env} {s : State} {m : MethodId} {args : Array Value} {below : List Frame} {meth : Method} {c : Code} {res : (Int32 × mz_St)} (E : mz_En SX 55 mz_cl dC dI ad ca p s m meth c prog_15_method_21_code 12 "MacroHouseModel" (some (.int))) (n : Nat) (K178 : Int32 → Int32 → Int32 → Int64 → Int64 → Int32 → mz_St → Option (Int32 × mz_St)) (hK178 : ∀ (x1 : Int32) (x2 : Int32) (x3 : Int32) (x7 : Int64) (x9 : Int64) (x11 : Int32) (t : mz_St), K178 x1 x2 x3 x7 x9 x11 t = some res → ∀ (H : Heap) (locs : List Loc) (ls : Array Slot), mz_Wd mz_tM 55 mz_cl dC dI ad en ca s t H locs → lv_has ls 12 [(0, .ref (ad 0)), (1, .int x1), (2, .int x2), (3, .int x3), (7, .long x7), (9, .long x9), (11, .int x11)] → W p l e (r_MO_takeLine) s m args below meth c H locs 0 0 (MQ below (mz_Q SX mz_tM 55 mz_cl dC dI ad en ca (some (.int res.1)) res.2) args s 0 0 (mz_A ad 55)) (F0 m 178 ls [])) : ∀ (x1 : Int32) (x2 : Int32) (x3 : Int32) (x7 : Int64) (x9 : Int64) (x11 : Int32) (t : mz_St), f_MO_takeLine_286 n K178 x1 x2 x3 x7 x9 x11 t = some res → ∀ (H : Heap) (locs : List Loc) (ls : Array Slot), mz_Wd mz_tM 55 mz_cl dC dI ad en ca s t H locs → lv_has ls 12 [(0, .ref (ad 0)), (1, .int x1), (2, .int x2), (3, .int x3), (7, .long x7), (9, .long x9), (11, .int x11)] → W p l e (r_MO_takeLine) s m args below meth c H locs 0 0 (MQ below (mz_Q SX mz_tM 55 mz_cl dC dI ad en ca (some (.int res.1)) res.2) args s 0 0 (mz_A ad 55)) (F0 m 286 ls []) := by
  obtain ⟨hx, hb, hml, hown, hcx, -, -, hSX, -, -, hSK⟩ := id E
  intro x1 x2 x3 x7 x9 x11 t hf H locs ls w hl
  unfold f_MO_takeLine_286 at hf
  refine lv_lload hx hb d_MO_takeLine_286 (lv_at hl 5 rfl) ?_
  exact b_MO_takeLine_288 E n K178 hK178 x1 x2 x3 x7 x11 x9 t hf _ _ _ w (lv_sub hl [0, 1, 2, 3, 4, 6] rfl)
set_option maxRecDepth 100000 in
set_option maxHeartbeats 4000000 in
theorem b_MO_takeLine_248 {SX : State → Heap → Prop} {dC : Nat → ClassId} {dI : Nat → Nat → Nat} {ad en : Nat → Nat} {ca : Nat → ClassId} {p : Program} {l : Launch} {e : Env} {s : State} {m : MethodId} {args : Array Value} {below : List Frame} {meth : Method} {c : Code} {res : (Int32 × mz_St)} (E : mz_En SX 55 mz_cl dC dI ad ca p s m meth c prog_15_method_21_code 12 "MacroHouseModel" (some (.int))) (n : Nat) (K178 : Int32 → Int32 → Int32 → Int64 → Int64 → Int32 → mz_St → Option (Int32 × mz_St)) (hK178 : ∀ (x1 : Int32) (x2 : Int32) (x3 : Int32) (x7 : Int64) (x9 : Int64) (x11 : Int32) (t : mz_St), K178 x1 x2 x3 x7 x9 x11 t = some res → ∀ (H : Heap) (locs : List Loc) (ls : Array Slot), mz_Wd mz_tM 55 mz_cl dC dI ad en ca s t H locs → lv_has ls 12 [(0, .ref (ad 0)), (1, .int x1), (2, .int x2), (3, .int x3), (7, .long x7), (9, .long x9), (11, .int x11)] → W p l e (r_MO_takeLine) s m args below meth c H locs 0 0 (MQ below (mz_Q SX mz_tM 55 mz_cl dC dI ad en ca (some (.int res.1)) res.2) args s 0 0 (mz_A ad 55)) (F0 m 178 ls [])) : ∀ (x1 : Int32) (x2 : Int32) (x3 : Int32) (x9 : Int64) (x11 : Int32) (s0 : Int64) (t : mz_St), f_MO_takeLine_248 n K178 x1 x2 x3 x9 x11 s0 t = some res → ∀ (H : Heap) (locs : List Loc) (ls : Array Slot), mz_Wd mz_tM 55 mz_cl dC dI ad en ca s t H locs → lv_has ls 12 [(0, .ref (ad 0)), (1, .int x1), (2, .int x2), (3, .int x3), (9, .long x9), (11, .int x11)] → W p l e (r_MO_takeLine) s m args below meth c H locs 0 0 (MQ below (mz_Q SX mz_tM 55 mz_cl dC dI ad en ca (some (.int res.1)) res.2) args s 0 0 (mz_A ad 55)) (F0 m 248 ls [.long s0]) := by
  obtain ⟨hx, hb, hml, hown, hcx, -, -, hSX, -, -, hSK⟩ := id E
  intro x1 x2 x3 x9 x11 s0 t hf H locs ls w hl
  unfold f_MO_takeLine_248 at hf
  refine lv_lstore (lv' := [(7, .long s0), (0, .ref (ad 0)), (1, .int x1), (2, .int x2), (3, .int x3), (9, .long x9), (11, .int x11)]) hx hb d_MO_takeLine_248 hl (by decide) rfl (fun ls hl => ?_)
  refine lv_iload hx hb d_MO_takeLine_250 (lv_at hl 6 rfl) ?_
  refine lv_bipush (v := (8 : Int32)) hx hb d_MO_takeLine_252 (by decide) ?_
  refine lv_icmp_lt (tgt := 286) hx hb d_MO_takeLine_254 (by decide) (fun hc43 => ?_) (fun hc43 => ?_)
  · have hf := mz_t hc43 hf
    exact b_MO_takeLine_286 E n K178 hK178 x1 x2 x3 s0 x9 x11 t hf _ _ _ w (lv_sub hl [1, 2, 3, 4, 0, 5, 6] rfl)
  · have hf := mz_f hc43 hf
    refine lv_iload hx hb d_MO_takeLine_257 (lv_at hl 6 rfl) ?_
    refine lv_bipush (v := (12 : Int32)) hx hb d_MO_takeLine_259 (by decide) ?_
    refine lv_icmp_ge (tgt := 286) hx hb d_MO_takeLine_261 (by decide) (fun hc44 => ?_) (fun hc44 => ?_)
    · have hf := mz_t hc44 hf
      exact b_MO_takeLine_286 E n K178 hK178 x1 x2 x3 s0 x9 x11 t hf _ _ _ w (lv_sub hl [1, 2, 3, 4, 0, 5, 6] rfl)
    · have hf := mz_f hc44 hf
      refine lv_lload hx hb d_MO_takeLine_264 (lv_at hl 5 rfl) ?_
      refine lv_aload_n hx hb d_MO_takeLine_266 rfl (lv_at hl 1 rfl) ?_
      refine mz_get E w 0 1 (v := .ref (ad 1)) (by decide) rfl rfl ii_11 (by decide) (Nat.le_of_ble_eq_true rfl) k_1184 rfl d_MO_takeLine_267 ?_
      refine lv_iload_n hx hb d_MO_takeLine_270 rfl (lv_at hl 4 rfl) ?_
      obtain ⟨hi45, hf⟩ := mz_gd hf
      refine mz_iald E w 1 (by decide) rfl hi45 d_MO_takeLine_271 ?_
      refine lv_i2l (v := (mz_gI t 1 x3.toNatClampNeg).toInt64) hx hb d_MO_takeLine_272 rfl ?_
      refine lv_bipush (v := (8 : Int32)) hx hb d_MO_takeLine_273 (by decide) ?_
      refine lv_iload hx hb d_MO_takeLine_275 (lv_at hl 6 rfl) ?_
      refine lv_bipush (v := (8 : Int32)) hx hb d_MO_takeLine_277 (by decide) ?_
      refine lv_isub hx hb d_MO_takeLine_279 ?_
      refine lv_imul hx hb d_MO_takeLine_280 ?_
      refine lv_lshl (v := ((mz_gI t 1 x3.toNatClampNeg).toInt64 <<< (((8 : Int32) * (x11 - (8 : Int32))).toInt64 &&& 63))) hx hb d_MO_takeLine_281 rfl ?_
      refine lv_lor hx hb d_MO_takeLine_282 ?_
      refine lv_goto (tgt := 288) hx hb d_MO_takeLine_283 (by decide) ?_
      exact b_MO_takeLine_288 E n K178 hK178 x1 x2 x3 s0 x11 (x9 ||| ((mz_gI t 1 x3.toNatClampNeg).toInt64 <<< (((8 : Int32) * (x11 - (8 : Int32))).toInt64 &&& 63))) t hf _ _ _ w (lv_sub hl [1, 2, 3, 4, 0, 6] rfl)
set_option maxRecDepth 100000 in
set_option maxHeartbeats 4000000 in
theorem b_MO_takeLine_220 {SX : State → Heap → Prop} {dC : Nat → ClassId} {dI : Nat → Nat → Nat} {ad en : Nat → Nat} {ca : Nat → ClassId} {p : Program} {l : Launch} {e : Env} {s : State} {m : MethodId} {args : Array Value} {below : List Frame} {meth : Method} {c : Code} {res : (Int32 × mz_St)} (E : mz_En SX 55 mz_cl dC dI ad ca p s m meth c prog_15_method_21_code 12 "MacroHouseModel" (some (.int))) (n : Nat) (K178 : Int32 → Int32 → Int32 → Int64 → Int64 → Int32 → mz_St → Option (Int32 × mz_St)) (hK178 : ∀ (x1 : Int32) (x2 : Int32) (x3 : Int32) (x7 : Int64) (x9 : Int64) (x11 : Int32) (t : mz_St), K178 x1 x2 x3 x7 x9 x11 t = some res → ∀ (H : Heap) (locs : List Loc) (ls : Array Slot), mz_Wd mz_tM 55 mz_cl dC dI ad en ca s t H locs → lv_has ls 12 [(0, .ref (ad 0)), (1, .int x1), (2, .int x2), (3, .int x3), (7, .long x7), (9, .long x9), (11, .int x11)] → W p l e (r_MO_takeLine) s m args below meth c H locs 0 0 (MQ below (mz_Q SX mz_tM 55 mz_cl dC dI ad en ca (some (.int res.1)) res.2) args s 0 0 (mz_A ad 55)) (F0 m 178 ls [])) : ∀ (x1 : Int32) (x2 : Int32) (x3 : Int32) (x7 : Int64) (x9 : Int64) (x11 : Int32) (t : mz_St), f_MO_takeLine_220 n K178 x1 x2 x3 x7 x9 x11 t = some res → ∀ (H : Heap) (locs : List Loc) (ls : Array Slot), mz_Wd mz_tM 55 mz_cl dC dI ad en ca s t H locs → lv_has ls 12 [(0, .ref (ad 0)), (1, .int x1), (2, .int x2), (3, .int x3), (7, .long x7), (9, .long x9), (11, .int x11)] → W p l e (r_MO_takeLine) s m args below meth c H locs 0 0 (MQ below (mz_Q SX mz_tM 55 mz_cl dC dI ad en ca (some (.int res.1)) res.2) args s 0 0 (mz_A ad 55)) (F0 m 220 ls []) := by
  obtain ⟨hx, hb, hml, hown, hcx, -, -, hSX, -, -, hSK⟩ := id E
  intro x1 x2 x3 x7 x9 x11 t hf H locs ls w hl
  unfold f_MO_takeLine_220 at hf
  refine lv_iload hx hb d_MO_takeLine_220 (lv_at hl 6 rfl) ?_
  refine lv_bipush (v := (8 : Int32)) hx hb d_MO_takeLine_222 (by decide) ?_
  refine lv_icmp_ge (tgt := 246) hx hb d_MO_takeLine_224 (by decide) (fun hc42 => ?_) (fun hc42 => ?_)
  · have hf := mz_t hc42 hf
    refine lv_lload hx hb d_MO_takeLine_246 (lv_at hl 4 rfl) ?_
    exact b_MO_takeLine_248 E n K178 hK178 x1 x2 x3 x9 x11 x7 t hf _ _ _ w (lv_sub hl [0, 1, 2, 3, 5, 6] rfl)
  · have hf := mz_f hc42 hf
    refine lv_lload hx hb d_MO_takeLine_227 (lv_at hl 4 rfl) ?_
    refine lv_aload_n hx hb d_MO_takeLine_229 rfl (lv_at hl 0 rfl) ?_
    refine mz_get E w 0 1 (v := .ref (ad 1)) (by decide) rfl rfl ii_11 (by decide) (Nat.le_of_ble_eq_true rfl) k_1184 rfl d_MO_takeLine_230 ?_
    refine lv_iload_n hx hb d_MO_takeLine_233 rfl (lv_at hl 3 rfl) ?_
    obtain ⟨hi46, hf⟩ := mz_gd hf
    refine mz_iald E w 1 (by decide) rfl hi46 d_MO_takeLine_234 ?_
    refine lv_i2l (v := (mz_gI t 1 x3.toNatClampNeg).toInt64) hx hb d_MO_takeLine_235 rfl ?_
    refine lv_bipush (v := (8 : Int32)) hx hb d_MO_takeLine_236 (by decide) ?_
    refine lv_iload hx hb d_MO_takeLine_238 (lv_at hl 6 rfl) ?_
    refine lv_imul hx hb d_MO_takeLine_240 ?_
    refine lv_lshl (v := ((mz_gI t 1 x3.toNatClampNeg).toInt64 <<< (((8 : Int32) * x11).toInt64 &&& 63))) hx hb d_MO_takeLine_241 rfl ?_
    refine lv_lor hx hb d_MO_takeLine_242 ?_
    refine lv_goto (tgt := 248) hx hb d_MO_takeLine_243 (by decide) ?_
    exact b_MO_takeLine_248 E n K178 hK178 x1 x2 x3 x9 x11 (x7 ||| ((mz_gI t 1 x3.toNatClampNeg).toInt64 <<< (((8 : Int32) * x11).toInt64 &&& 63))) t hf _ _ _ w (lv_sub hl [0, 1, 2, 3, 5, 6] rfl)
set_option maxRecDepth 100000 in
set_option maxHeartbeats 4000000 in
theorem b_MO_takeLine_178 {SX : State → Heap → Prop} {dC : Nat → ClassId} {dI : Nat → Nat → Nat} {ad en : Nat → Nat} {ca : Nat → ClassId} {p : Program} {l : Launch} {e : Env} {s : State} {m : MethodId} {args : Array Value} {below : List Frame} {meth : Method} {c : Code} {res : (Int32 × mz_St)} (E : mz_En SX 55 mz_cl dC dI ad ca p s m meth c prog_15_method_21_code 12 "MacroHouseModel" (some (.int))) (n : Nat) (K14 : Int32 → Int32 → Int32 → mz_St → Option (Int32 × mz_St)) (hK14 : ∀ (x1 : Int32) (x2 : Int32) (x3 : Int32) (t : mz_St), K14 x1 x2 x3 t = some res → ∀ (H : Heap) (locs : List Loc) (ls : Array Slot), mz_Wd mz_tM 55 mz_cl dC dI ad en ca s t H locs → lv_has ls 12 [(0, .ref (ad 0)), (1, .int x1), (2, .int x2), (3, .int x3)] → W p l e (r_MO_takeLine) s m args below meth c H locs 0 0 (MQ below (mz_Q SX mz_tM 55 mz_cl dC dI ad en ca (some (.int res.1)) res.2) args s 0 0 (mz_A ad 55)) (F0 m 14 ls [])) (k : Nat) : ∀ (x1 : Int32) (x2 : Int32) (x3 : Int32) (x7 : Int64) (x9 : Int64) (x11 : Int32) (t : mz_St), f_MO_takeLine_178 n K14 k x1 x2 x3 x7 x9 x11 t = some res → ∀ (H : Heap) (locs : List Loc) (ls : Array Slot), mz_Wd mz_tM 55 mz_cl dC dI ad en ca s t H locs → lv_has ls 12 [(0, .ref (ad 0)), (1, .int x1), (2, .int x2), (3, .int x3), (7, .long x7), (9, .long x9), (11, .int x11)] → W p l e (r_MO_takeLine) s m args below meth c H locs 0 0 (MQ below (mz_Q SX mz_tM 55 mz_cl dC dI ad en ca (some (.int res.1)) res.2) args s 0 0 (mz_A ad 55)) (F0 m 178 ls []) := by
  obtain ⟨hx, hb, hml, hown, hcx, -, -, hSX, -, -, hSK⟩ := id E
  induction k with
  | zero => intro x1 x2 x3 x7 x9 x11 t hf; exact absurd hf (by unfold f_MO_takeLine_178; exact fun h => nomatch h)
  | succ k ih =>
    intro x1 x2 x3 x7 x9 x11 t hf H locs ls w hl
    unfold f_MO_takeLine_178 at hf
    refine lv_iload_n hx hb d_MO_takeLine_178 rfl (lv_at hl 3 rfl) ?_
    refine lv_aload_n hx hb d_MO_takeLine_179 rfl (lv_at hl 0 rfl) ?_
    refine mz_get E w 0 5 (v := .ref (ad 3)) (by decide) rfl rfl ii_11 (by decide) (Nat.le_of_ble_eq_true rfl) k_1188 rfl d_MO_takeLine_180 ?_
    refine lv_iload_n hx hb d_MO_takeLine_183 rfl (lv_at hl 1 rfl) ?_
    obtain ⟨hi28, hf⟩ := mz_gd hf
    refine mz_iald E w 3 (by decide) rfl hi28 d_MO_takeLine_184 ?_
    refine lv_icmp_ge (tgt := 299) hx hb d_MO_takeLine_185 (by decide) (fun hc29 => ?_) (fun hc29 => ?_)
    · have hf := mz_t hc29 hf
      exact b_MO_takeLine_299 E n K14 hK14 x1 x2 x3 x7 x9 x11 t hf _ _ _ w (lv_sub hl [0, 1, 2, 3, 4, 5, 6] rfl)
    · have hf := mz_f hc29 hf
      refine lv_iload hx hb d_MO_takeLine_188 (lv_at hl 6 rfl) ?_
      refine lv_if_ne (tgt := 208) hx hb d_MO_takeLine_190 (by decide) (fun hc37 => ?_) (fun hc37 => ?_)
      · have hf := mz_f hc37 hf
        refine lv_aload_n hx hb d_MO_takeLine_208 rfl (lv_at hl 0 rfl) ?_
        refine mz_get E w 0 1 (v := .ref (ad 1)) (by decide) rfl rfl ii_11 (by decide) (Nat.le_of_ble_eq_true rfl) k_1184 rfl d_MO_takeLine_209 ?_
        refine lv_iload_n hx hb d_MO_takeLine_212 rfl (lv_at hl 3 rfl) ?_
        obtain ⟨hi38, hf⟩ := mz_gd hf
        refine mz_iald E w 1 (by decide) rfl hi38 d_MO_takeLine_213 ?_
        obtain ⟨q39, hq40, hf⟩ := mz_bd hf
        refine mz_callS E w (As := [.int (mz_gI t 1 x3.toNatClampNeg)]) (rest := []) (c_MO_isWordSign hSK l n (mz_gI t 1 x3.toNatClampNeg) t q39 hq40) k_1485 k_15 k_1483 k_1484 hm_MO_isWordSign ⟨⟨rfl, rfl⟩, Nat.le_of_ble_eq_true rfl, Nat.le_of_ble_eq_true rfl⟩ rfl hl.1 rfl (Nat.le_of_ble_eq_true rfl) d_MO_takeLine_214 ⟨Nat.zero_le _, Nat.zero_le _⟩ (st1 := [.int q39.1]) rfl (fun H locs w => ?_)
        refine lv_if_eq (tgt := 299) hx hb d_MO_takeLine_217 (by decide) (fun hc41 => ?_) (fun hc41 => ?_)
        · have hf := mz_t hc41 hf
          exact b_MO_takeLine_299 E n K14 hK14 x1 x2 x3 x7 x9 x11 q39.2 hf _ _ _ w (lv_sub hl [0, 1, 2, 3, 4, 5, 6] rfl)
        · have hf := mz_f hc41 hf
          exact b_MO_takeLine_220 E n (f_MO_takeLine_178 n K14 k) ih x1 x2 x3 x7 x9 x11 q39.2 hf _ _ _ w (lv_sub hl [0, 1, 2, 3, 4, 5, 6] rfl)
      · have hf := mz_t hc37 hf
        refine lv_aload_n hx hb d_MO_takeLine_193 rfl (lv_at hl 0 rfl) ?_
        refine mz_get E w 0 1 (v := .ref (ad 1)) (by decide) rfl rfl ii_11 (by decide) (Nat.le_of_ble_eq_true rfl) k_1184 rfl d_MO_takeLine_194 ?_
        refine lv_iload_n hx hb d_MO_takeLine_197 rfl (lv_at hl 3 rfl) ?_
        obtain ⟨hi47, hf⟩ := mz_gd hf
        refine mz_iald E w 1 (by decide) rfl hi47 d_MO_takeLine_198 ?_
        obtain ⟨q48, hq49, hf⟩ := mz_bd hf
        refine mz_callS E w (As := [.int (mz_gI t 1 x3.toNatClampNeg)]) (rest := []) (c_MO_isBegin hSK l n (mz_gI t 1 x3.toNatClampNeg) t q48 hq49) k_1482 k_15 k_1480 k_1481 hm_MO_isBegin ⟨⟨rfl, rfl⟩, Nat.le_of_ble_eq_true rfl, Nat.le_of_ble_eq_true rfl⟩ rfl hl.1 rfl (Nat.le_of_ble_eq_true rfl) d_MO_takeLine_199 ⟨Nat.zero_le _, Nat.zero_le _⟩ (st1 := [.int q48.1]) rfl (fun H locs w => ?_)
        refine lv_if_eq (tgt := 299) hx hb d_MO_takeLine_202 (by decide) (fun hc50 => ?_) (fun hc50 => ?_)
        · have hf := mz_t hc50 hf
          exact b_MO_takeLine_299 E n K14 hK14 x1 x2 x3 x7 x9 x11 q48.2 hf _ _ _ w (lv_sub hl [0, 1, 2, 3, 4, 5, 6] rfl)
        · have hf := mz_f hc50 hf
          refine lv_goto (tgt := 220) hx hb d_MO_takeLine_205 (by decide) ?_
          exact b_MO_takeLine_220 E n (f_MO_takeLine_178 n K14 k) ih x1 x2 x3 x7 x9 x11 q48.2 hf _ _ _ w (lv_sub hl [0, 1, 2, 3, 4, 5, 6] rfl)
set_option maxRecDepth 100000 in
set_option maxHeartbeats 4000000 in
theorem b_MO_takeLine_99 {SX : State → Heap → Prop} {dC : Nat → ClassId} {dI : Nat → Nat → Nat} {ad en : Nat → Nat} {ca : Nat → ClassId} {p : Program} {l : Launch} {e : Env} {s : State} {m : MethodId} {args : Array Value} {below : List Frame} {meth : Method} {c : Code} {res : (Int32 × mz_St)} (E : mz_En SX 55 mz_cl dC dI ad ca p s m meth c prog_15_method_21_code 12 "MacroHouseModel" (some (.int))) (n : Nat) (K14 : Int32 → Int32 → Int32 → mz_St → Option (Int32 × mz_St)) (hK14 : ∀ (x1 : Int32) (x2 : Int32) (x3 : Int32) (t : mz_St), K14 x1 x2 x3 t = some res → ∀ (H : Heap) (locs : List Loc) (ls : Array Slot), mz_Wd mz_tM 55 mz_cl dC dI ad en ca s t H locs → lv_has ls 12 [(0, .ref (ad 0)), (1, .int x1), (2, .int x2), (3, .int x3)] → W p l e (r_MO_takeLine) s m args below meth c H locs 0 0 (MQ below (mz_Q SX mz_tM 55 mz_cl dC dI ad en ca (some (.int res.1)) res.2) args s 0 0 (mz_A ad 55)) (F0 m 14 ls [])) : ∀ (x1 : Int32) (x2 : Int32) (x3 : Int32) (x5 : Int32) (s0 : Int32) (t : mz_St), f_MO_takeLine_99 n K14 x1 x2 x3 x5 s0 t = some res → ∀ (H : Heap) (locs : List Loc) (ls : Array Slot), mz_Wd mz_tM 55 mz_cl dC dI ad en ca s t H locs → lv_has ls 12 [(0, .ref (ad 0)), (1, .int x1), (2, .int x2), (3, .int x3), (5, .int x5)] → W p l e (r_MO_takeLine) s m args below meth c H locs 0 0 (MQ below (mz_Q SX mz_tM 55 mz_cl dC dI ad en ca (some (.int res.1)) res.2) args s 0 0 (mz_A ad 55)) (F0 m 99 ls [.int s0]) := by
  obtain ⟨hx, hb, hml, hown, hcx, -, -, hSX, -, -, hSK⟩ := id E
  intro x1 x2 x3 x5 s0 t hf H locs ls w hl
  unfold f_MO_takeLine_99 at hf
  refine lv_istore (lv' := [(6, .int s0), (0, .ref (ad 0)), (1, .int x1), (2, .int x2), (3, .int x3), (5, .int x5)]) hx hb d_MO_takeLine_99 hl (by decide) rfl (fun ls hl => ?_)
  refine lv_iload hx hb d_MO_takeLine_101 (lv_at hl 5 rfl) ?_
  refine lv_bipush (v := (64 : Int32)) hx hb d_MO_takeLine_103 (by decide) ?_
  refine lv_icmp_eq (tgt := 115) hx hb d_MO_takeLine_105 (by decide) (fun hc18 => ?_) (fun hc18 => ?_)
  · have hf := mz_t hc18 hf
    exact b_MO_takeLine_115 E n K14 hK14 x1 x2 x3 x5 s0 t hf _ _ _ w (lv_sub hl [1, 2, 3, 4, 5, 0] rfl)
  · have hf := mz_f hc18 hf
    refine lv_iload hx hb d_MO_takeLine_108 (lv_at hl 5 rfl) ?_
    refine lv_bipush (v := (63 : Int32)) hx hb d_MO_takeLine_110 (by decide) ?_
    refine lv_icmp_ne (tgt := 169) hx hb d_MO_takeLine_112 (by decide) (fun hc27 => ?_) (fun hc27 => ?_)
    · have hf := mz_f hc27 hf
      refine lv_lconst (v := (0 : Int64)) hx hb d_MO_takeLine_169 (by decide) ?_
      refine lv_lstore (lv' := [(7, .long (0 : Int64)), (6, .int s0), (0, .ref (ad 0)), (1, .int x1), (2, .int x2), (3, .int x3), (5, .int x5)]) hx hb d_MO_takeLine_170 hl (by decide) rfl (fun ls hl => ?_)
      refine lv_lconst (v := (0 : Int64)) hx hb d_MO_takeLine_172 (by decide) ?_
      refine lv_lstore (lv' := [(9, .long (0 : Int64)), (7, .long (0 : Int64)), (6, .int s0), (0, .ref (ad 0)), (1, .int x1), (2, .int x2), (3, .int x3), (5, .int x5)]) hx hb d_MO_takeLine_173 hl (by decide) rfl (fun ls hl => ?_)
      refine lv_iconst (v := (0 : Int32)) hx hb d_MO_takeLine_175 (by decide) ?_
      refine lv_istore (lv' := [(11, .int (0 : Int32)), (9, .long (0 : Int64)), (7, .long (0 : Int64)), (6, .int s0), (0, .ref (ad 0)), (1, .int x1), (2, .int x2), (3, .int x3), (5, .int x5)]) hx hb d_MO_takeLine_176 hl (by decide) rfl (fun ls hl => ?_)
      exact b_MO_takeLine_178 E n K14 hK14 n x1 x2 x3 (0 : Int64) (0 : Int64) (0 : Int32) t hf _ _ _ w (lv_sub hl [4, 5, 6, 7, 2, 1, 0] rfl)
    · have hf := mz_t hc27 hf
      exact b_MO_takeLine_115 E n K14 hK14 x1 x2 x3 x5 s0 t hf _ _ _ w (lv_sub hl [1, 2, 3, 4, 5, 0] rfl)
set_option maxRecDepth 100000 in
set_option maxHeartbeats 4000000 in
theorem b_MO_takeLine_79 {SX : State → Heap → Prop} {dC : Nat → ClassId} {dI : Nat → Nat → Nat} {ad en : Nat → Nat} {ca : Nat → ClassId} {p : Program} {l : Launch} {e : Env} {s : State} {m : MethodId} {args : Array Value} {below : List Frame} {meth : Method} {c : Code} {res : (Int32 × mz_St)} (E : mz_En SX 55 mz_cl dC dI ad ca p s m meth c prog_15_method_21_code 12 "MacroHouseModel" (some (.int))) (n : Nat) (K14 : Int32 → Int32 → Int32 → mz_St → Option (Int32 × mz_St)) (hK14 : ∀ (x1 : Int32) (x2 : Int32) (x3 : Int32) (t : mz_St), K14 x1 x2 x3 t = some res → ∀ (H : Heap) (locs : List Loc) (ls : Array Slot), mz_Wd mz_tM 55 mz_cl dC dI ad en ca s t H locs → lv_has ls 12 [(0, .ref (ad 0)), (1, .int x1), (2, .int x2), (3, .int x3)] → W p l e (r_MO_takeLine) s m args below meth c H locs 0 0 (MQ below (mz_Q SX mz_tM 55 mz_cl dC dI ad en ca (some (.int res.1)) res.2) args s 0 0 (mz_A ad 55)) (F0 m 14 ls [])) : ∀ (x1 : Int32) (x2 : Int32) (x3 : Int32) (s0 : Int32) (t : mz_St), f_MO_takeLine_79 n K14 x1 x2 x3 s0 t = some res → ∀ (H : Heap) (locs : List Loc) (ls : Array Slot), mz_Wd mz_tM 55 mz_cl dC dI ad en ca s t H locs → lv_has ls 12 [(0, .ref (ad 0)), (1, .int x1), (2, .int x2), (3, .int x3)] → W p l e (r_MO_takeLine) s m args below meth c H locs 0 0 (MQ below (mz_Q SX mz_tM 55 mz_cl dC dI ad en ca (some (.int res.1)) res.2) args s 0 0 (mz_A ad 55)) (F0 m 79 ls [.int s0]) := by
  obtain ⟨hx, hb, hml, hown, hcx, -, -, hSX, -, -, hSK⟩ := id E
  intro x1 x2 x3 s0 t hf H locs ls w hl
  unfold f_MO_takeLine_79 at hf
  refine lv_istore (lv' := [(5, .int s0), (0, .ref (ad 0)), (1, .int x1), (2, .int x2), (3, .int x3)]) hx hb d_MO_takeLine_79 hl (by decide) rfl (fun ls hl => ?_)
  refine lv_iload hx hb d_MO_takeLine_81 (lv_at hl 0 rfl) ?_
  refine lv_bipush (v := (64 : Int32)) hx hb d_MO_takeLine_83 (by decide) ?_
  refine lv_icmp_ne (tgt := 95) hx hb d_MO_takeLine_85 (by decide) (fun hc15 => ?_) (fun hc15 => ?_)
  · have hf := mz_f hc15 hf
    refine lv_aload_n hx hb d_MO_takeLine_95 rfl (lv_at hl 1 rfl) ?_
    obtain ⟨q16, hq17, hf⟩ := mz_bd hf
    refine mz_callV E w (k := 0) (As := []) (rest := []) (c_MO_givingFrame hSK l n t q16 hq17) (by decide) rfl rfl k_1529 k_15 k_1526 k_1528 ks_62 hm_MO_givingFrame ⟨⟨rfl, rfl⟩, Nat.le_of_ble_eq_true rfl, Nat.le_of_ble_eq_true rfl⟩ rfl hl.1 rfl (Nat.le_of_ble_eq_true rfl) d_MO_takeLine_96 ⟨Nat.zero_le _, Nat.zero_le _⟩ (st1 := [.int q16.1]) rfl (fun H locs w => ?_)
    exact b_MO_takeLine_99 E n K14 hK14 x1 x2 x3 s0 q16.1 q16.2 hf _ _ _ w (lv_sub hl [1, 2, 3, 4, 0] rfl)
  · have hf := mz_t hc15 hf
    refine lv_aload_n hx hb d_MO_takeLine_88 rfl (lv_at hl 1 rfl) ?_
    obtain ⟨q51, hq52, hf⟩ := mz_bd hf
    refine mz_callV E w (k := 0) (As := []) (rest := []) (c_MO_macroFrame hSK l n t q51 hq52) (by decide) rfl rfl k_1525 k_15 k_1522 k_1524 ks_61 hm_MO_macroFrame ⟨⟨rfl, rfl⟩, Nat.le_of_ble_eq_true rfl, Nat.le_of_ble_eq_true rfl⟩ rfl hl.1 rfl (Nat.le_of_ble_eq_true rfl) d_MO_takeLine_89 ⟨Nat.zero_le _, Nat.zero_le _⟩ (st1 := [.int q51.1]) rfl (fun H locs w => ?_)
    refine lv_goto (tgt := 99) hx hb d_MO_takeLine_92 (by decide) ?_
    exact b_MO_takeLine_99 E n K14 hK14 x1 x2 x3 s0 q51.1 q51.2 hf _ _ _ w (lv_sub hl [1, 2, 3, 4, 0] rfl)
set_option maxRecDepth 100000 in
set_option maxHeartbeats 4000000 in
theorem b_MO_takeLine_14 {SX : State → Heap → Prop} {dC : Nat → ClassId} {dI : Nat → Nat → Nat} {ad en : Nat → Nat} {ca : Nat → ClassId} {p : Program} {l : Launch} {e : Env} {s : State} {m : MethodId} {args : Array Value} {below : List Frame} {meth : Method} {c : Code} {res : (Int32 × mz_St)} (E : mz_En SX 55 mz_cl dC dI ad ca p s m meth c prog_15_method_21_code 12 "MacroHouseModel" (some (.int))) (n : Nat) (k : Nat) : ∀ (x1 : Int32) (x2 : Int32) (x3 : Int32) (t : mz_St), f_MO_takeLine_14 n k x1 x2 x3 t = some res → ∀ (H : Heap) (locs : List Loc) (ls : Array Slot), mz_Wd mz_tM 55 mz_cl dC dI ad en ca s t H locs → lv_has ls 12 [(0, .ref (ad 0)), (1, .int x1), (2, .int x2), (3, .int x3)] → W p l e (r_MO_takeLine) s m args below meth c H locs 0 0 (MQ below (mz_Q SX mz_tM 55 mz_cl dC dI ad en ca (some (.int res.1)) res.2) args s 0 0 (mz_A ad 55)) (F0 m 14 ls []) := by
  obtain ⟨hx, hb, hml, hown, hcx, -, -, hSX, -, -, hSK⟩ := id E
  induction k with
  | zero => intro x1 x2 x3 t hf; exact absurd hf (by unfold f_MO_takeLine_14; exact fun h => nomatch h)
  | succ k ih =>
    intro x1 x2 x3 t hf H locs ls w hl
    unfold f_MO_takeLine_14 at hf
    refine lv_iload_n hx hb d_MO_takeLine_14 rfl (lv_at hl 3 rfl) ?_
    refine lv_aload_n hx hb d_MO_takeLine_15 rfl (lv_at hl 0 rfl) ?_
    refine mz_get E w 0 5 (v := .ref (ad 3)) (by decide) rfl rfl ii_11 (by decide) (Nat.le_of_ble_eq_true rfl) k_1188 rfl d_MO_takeLine_16 ?_
    refine lv_iload_n hx hb d_MO_takeLine_19 rfl (lv_at hl 1 rfl) ?_
    obtain ⟨hi3, hf⟩ := mz_gd hf
    refine mz_iald E w 3 (by decide) rfl hi3 d_MO_takeLine_20 ?_
    refine lv_icmp_ge (tgt := 334) hx hb d_MO_takeLine_21 (by decide) (fun hc4 => ?_) (fun hc4 => ?_)
    · have hf := mz_t hc4 hf
      refine lv_iload_n hx hb d_MO_takeLine_334 rfl (lv_at hl 2 rfl) ?_
      refine lv_if_eq (tgt := 365) hx hb d_MO_takeLine_335 (by decide) (fun hc5 => ?_) (fun hc5 => ?_)
      · have hf := mz_t hc5 hf
        refine lv_iconst (v := (1 : Int32)) hx hb d_MO_takeLine_365 (by decide) ?_
        obtain rfl := Option.some.inj hf
        exact mz_iret E w rfl d_MO_takeLine_366
      · have hf := mz_f hc5 hf
        refine lv_aload_n hx hb d_MO_takeLine_338 rfl (lv_at hl 0 rfl) ?_
        refine mz_get E w 0 34 (v := .int (mz_gI t 0 34)) (by decide) rfl rfl ii_11 (by decide) (Nat.le_of_ble_eq_true rfl) k_1217 rfl d_MO_takeLine_339 ?_
        refine lv_iconst (v := (1 : Int32)) hx hb d_MO_takeLine_342 (by decide) ?_
        refine lv_icmp_le (tgt := 361) hx hb d_MO_takeLine_343 (by decide) (fun hc6 => ?_) (fun hc6 => ?_)
        · have hf := mz_t hc6 hf
          exact b_MO_takeLine_361 E n  t hf _ _ _ w (lv_sub hl [] rfl)
        · have hf := mz_f hc6 hf
          refine lv_aload_n hx hb d_MO_takeLine_346 rfl (lv_at hl 0 rfl) ?_
          refine mz_get E w 0 60 (v := .int (mz_gI t 0 60)) (by decide) rfl rfl ii_11 (by decide) (Nat.le_of_ble_eq_true rfl) k_1243 rfl d_MO_takeLine_347 ?_
          refine lv_sipush (v := (300 : Int32)) hx hb d_MO_takeLine_350 (by decide) ?_
          refine lv_icmp_le (tgt := 361) hx hb d_MO_takeLine_353 (by decide) (fun hc7 => ?_) (fun hc7 => ?_)
          · have hf := mz_t hc7 hf
            exact b_MO_takeLine_361 E n  t hf _ _ _ w (lv_sub hl [] rfl)
          · have hf := mz_f hc7 hf
            refine lv_bipush (v := (6 : Int32)) hx hb d_MO_takeLine_356 (by decide) ?_
            refine lv_goto (tgt := 366) hx hb d_MO_takeLine_358 (by decide) ?_
            obtain rfl := Option.some.inj hf
            exact mz_iret E w rfl d_MO_takeLine_366
    · have hf := mz_f hc4 hf
      refine lv_aload_n hx hb d_MO_takeLine_24 rfl (lv_at hl 0 rfl) ?_
      refine mz_get E w 0 1 (v := .ref (ad 1)) (by decide) rfl rfl ii_11 (by decide) (Nat.le_of_ble_eq_true rfl) k_1184 rfl d_MO_takeLine_25 ?_
      refine lv_iload_n hx hb d_MO_takeLine_28 rfl (lv_at hl 3 rfl) ?_
      obtain ⟨hi8, hf⟩ := mz_gd hf
      refine mz_iald E w 1 (by decide) rfl hi8 d_MO_takeLine_29 ?_
      refine lv_istore (lv' := [(4, .int (mz_gI t 1 x3.toNatClampNeg)), (0, .ref (ad 0)), (1, .int x1), (2, .int x2), (3, .int x3)]) hx hb d_MO_takeLine_30 hl (by decide) rfl (fun ls hl => ?_)
      refine lv_iinc (v := (x3 + (1 : Int32))) (lv' := [(3, .int (x3 + (1 : Int32))), (4, .int (mz_gI t 1 x3.toNatClampNeg)), (0, .ref (ad 0)), (1, .int x1), (2, .int x2)]) hx hb d_MO_takeLine_32 hl (k := 4) rfl rfl (by decide) rfl (fun ls hl => ?_)
      refine lv_iload hx hb d_MO_takeLine_35 (lv_at hl 1 rfl) ?_
      refine lv_bipush (v := (92 : Int32)) hx hb d_MO_takeLine_37 (by decide) ?_
      refine lv_icmp_ne (tgt := 50) hx hb d_MO_takeLine_39 (by decide) (fun hc9 => ?_) (fun hc9 => ?_)
      · have hf := mz_f hc9 hf
        exact b_MO_takeLine_50 E n (f_MO_takeLine_14 n k) ih x1 x2 (x3 + (1 : Int32)) (mz_gI t 1 x3.toNatClampNeg) t hf _ _ _ w (lv_sub hl [2, 3, 4, 0, 1] rfl)
      · have hf := mz_t hc9 hf
        refine lv_aload_n hx hb d_MO_takeLine_42 rfl (lv_at hl 2 rfl) ?_
        refine mz_get E w 0 34 (v := .int (mz_gI t 0 34)) (by decide) rfl rfl ii_11 (by decide) (Nat.le_of_ble_eq_true rfl) k_1217 rfl d_MO_takeLine_43 ?_
        refine lv_iconst (v := (1 : Int32)) hx hb d_MO_takeLine_46 (by decide) ?_
        refine lv_icmp_ne (tgt := 59) hx hb d_MO_takeLine_47 (by decide) (fun hc12 => ?_) (fun hc12 => ?_)
        · have hf := mz_f hc12 hf
          refine lv_iload_n hx hb d_MO_takeLine_59 rfl (lv_at hl 0 rfl) ?_
          refine lv_aload_n hx hb d_MO_takeLine_60 rfl (lv_at hl 2 rfl) ?_
          refine mz_get E w 0 5 (v := .ref (ad 3)) (by decide) rfl rfl ii_11 (by decide) (Nat.le_of_ble_eq_true rfl) k_1188 rfl d_MO_takeLine_61 ?_
          refine lv_iload_n hx hb d_MO_takeLine_64 rfl (lv_at hl 3 rfl) ?_
          obtain ⟨hi13, hf⟩ := mz_gd hf
          refine mz_iald E w 3 (by decide) rfl hi13 d_MO_takeLine_65 ?_
          refine lv_icmp_ge (tgt := 78) hx hb d_MO_takeLine_66 (by decide) (fun hc14 => ?_) (fun hc14 => ?_)
          · have hf := mz_t hc14 hf
            refine lv_iconst (v := (-1 : Int32)) hx hb d_MO_takeLine_78 (by decide) ?_
            exact b_MO_takeLine_79 E n (f_MO_takeLine_14 n k) ih x1 x2 (x3 + (1 : Int32)) (-1 : Int32) t hf _ _ _ w (lv_sub hl [2, 3, 4, 0] rfl)
          · have hf := mz_f hc14 hf
            refine lv_aload_n hx hb d_MO_takeLine_69 rfl (lv_at hl 2 rfl) ?_
            refine mz_get E w 0 1 (v := .ref (ad 1)) (by decide) rfl rfl ii_11 (by decide) (Nat.le_of_ble_eq_true rfl) k_1184 rfl d_MO_takeLine_70 ?_
            refine lv_iload_n hx hb d_MO_takeLine_73 rfl (lv_at hl 0 rfl) ?_
            obtain ⟨hi53, hf⟩ := mz_gd hf
            refine mz_iald E w 1 (by decide) rfl hi53 d_MO_takeLine_74 ?_
            refine lv_goto (tgt := 79) hx hb d_MO_takeLine_75 (by decide) ?_
            exact b_MO_takeLine_79 E n (f_MO_takeLine_14 n k) ih x1 x2 (x3 + (1 : Int32)) (mz_gI t 1 (x3 + (1 : Int32)).toNatClampNeg) t hf _ _ _ w (lv_sub hl [2, 3, 4, 0] rfl)
        · have hf := mz_t hc12 hf
          exact b_MO_takeLine_50 E n (f_MO_takeLine_14 n k) ih x1 x2 (x3 + (1 : Int32)) (mz_gI t 1 x3.toNatClampNeg) t hf _ _ _ w (lv_sub hl [2, 3, 4, 0, 1] rfl)
set_option maxRecDepth 100000 in
set_option maxHeartbeats 4000000 in
theorem c_MO_takeLine {SX : State → Heap → Prop} {dC : Nat → ClassId} {dI : Nat → Nat → Nat} {ad en : Nat → Nat} {ca : Nat → ClassId} (hSK : mz_SK SX ad 55) (l : Launch) (n : Nat) (x1 : Int32) (t : mz_St) (res : (Int32 × mz_St)) (hf : f_MO_takeLine n x1 t = some res) : mz_C SX mz_tM 55 mz_cl dC dI ad en ca l y_MO_takeLine prog_15_method_21_code 12 (some (.int)) (r_MO_takeLine) [.ref (ad 0), .int x1] t (some (.int res.1)) res.2 := by
  unfold f_MO_takeLine at hf
  refine mz_met hSK (by decide) (Nat.le_of_ble_eq_true rfl) ?_
  intro p e s m args below meth c ls E w hl
  obtain ⟨hx, hb, hml, hown, hcx, -, -, hSX, -, -, -⟩ := id E
  have hl : lv_has ls 12 [(0, .ref (ad 0)), (1, .int x1)] := hl
  refine lv_aload_n hx hb d_MO_takeLine_0 rfl (lv_at hl 0 rfl) ?_
  refine lv_iconst (v := (0 : Int32)) hx hb d_MO_takeLine_1 (by decide) ?_
  refine mz_put E w 0 60 (v := (0 : Int32)) (by decide) rfl rfl ii_11 tk_11 nm_11 (by decide) (Nat.le_of_ble_eq_true rfl) k_1243 rfl (tk_11 60 (by decide)) rfl rfl rfl d_MO_takeLine_2 (fun H locs w => ?_)
  obtain ⟨t1, e_t1, hf⟩ := mz_lt hf
  rw [← e_t1] at w
  refine lv_iconst (v := (1 : Int32)) hx hb d_MO_takeLine_5 (by decide) ?_
  refine lv_istore_n (lv' := [(2, .int (1 : Int32)), (0, .ref (ad 0)), (1, .int x1)]) hx hb d_MO_takeLine_6 rfl hl (by decide) rfl (fun ls hl => ?_)
  refine lv_aload_n hx hb d_MO_takeLine_7 rfl (lv_at hl 1 rfl) ?_
  refine mz_get E w 0 4 (v := .ref (ad 2)) (by decide) rfl rfl ii_11 (by decide) (Nat.le_of_ble_eq_true rfl) k_1187 rfl d_MO_takeLine_8 ?_
  refine lv_iload_n hx hb d_MO_takeLine_11 rfl (lv_at hl 2 rfl) ?_
  obtain ⟨hi2, hf⟩ := mz_gd hf
  refine mz_iald E w 2 (by decide) rfl hi2 d_MO_takeLine_12 ?_
  refine lv_istore_n (lv' := [(3, .int (mz_gI t1 2 x1.toNatClampNeg)), (2, .int (1 : Int32)), (0, .ref (ad 0)), (1, .int x1)]) hx hb d_MO_takeLine_13 rfl hl (by decide) rfl (fun ls hl => ?_)
  exact b_MO_takeLine_14 E n n x1 (1 : Int32) (mz_gI t1 2 x1.toNatClampNeg) t1 hf _ _ _ w (lv_sub hl [2, 3, 1, 0] rfl)

/-! MacroHouseModel.here()I -/
abbrev r_MO_here : Room := { frames := 0, cells := 0, slots := 0, locals := 0 }
def f_MO_here (n : Nat) (t : mz_St) : Option (Int32 × mz_St) := if (mz_gI t 0 60) ≤ (mz_gI t 0 61) then (some ((-1 : Int32), t)) else (if ¬ ((mz_gI t 0 61) < 0 ∨ 6000 ≤ (mz_gI t 0 61).toNatClampNeg) then (some ((mz_gI t 43 (mz_gI t 0 61).toNatClampNeg), t)) else none)
set_option maxRecDepth 100000 in
set_option maxHeartbeats 4000000 in
theorem c_MO_here {SX : State → Heap → Prop} {dC : Nat → ClassId} {dI : Nat → Nat → Nat} {ad en : Nat → Nat} {ca : Nat → ClassId} (hSK : mz_SK SX ad 55) (l : Launch) (n : Nat) (t : mz_St) (res : (Int32 × mz_St)) (hf : f_MO_here n t = some res) : mz_C SX mz_tM 55 mz_cl dC dI ad en ca l y_MO_here prog_15_method_22_code 1 (some (.int)) (r_MO_here) [.ref (ad 0)] t (some (.int res.1)) res.2 := by
  unfold f_MO_here at hf
  refine mz_met hSK (by decide) (Nat.le_of_ble_eq_true rfl) ?_
  intro p e s m args below meth c ls E w hl
  obtain ⟨hx, hb, hml, hown, hcx, -, -, hSX, -, -, -⟩ := id E
  have hl : lv_has ls 1 [(0, .ref (ad 0))] := hl
  refine lv_aload_n hx hb d_MO_here_0 rfl (lv_at hl 0 rfl) ?_
  refine mz_get E w 0 61 (v := .int (mz_gI t 0 61)) (by decide) rfl rfl ii_11 (by decide) (Nat.le_of_ble_eq_true rfl) k_1244 rfl d_MO_here_1 ?_
  refine lv_aload_n hx hb d_MO_here_4 rfl (lv_at hl 0 rfl) ?_
  refine mz_get E w 0 60 (v := .int (mz_gI t 0 60)) (by decide) rfl rfl ii_11 (by decide) (Nat.le_of_ble_eq_true rfl) k_1243 rfl d_MO_here_5 ?_
  refine lv_icmp_ge (tgt := 23) hx hb d_MO_here_8 (by decide) (fun hc1 => ?_) (fun hc1 => ?_)
  · have hf := mz_t hc1 hf
    refine lv_iconst (v := (-1 : Int32)) hx hb d_MO_here_23 (by decide) ?_
    obtain rfl := Option.some.inj hf
    exact mz_iret E w rfl d_MO_here_24
  · have hf := mz_f hc1 hf
    refine lv_aload_n hx hb d_MO_here_11 rfl (lv_at hl 0 rfl) ?_
    refine mz_get E w 0 59 (v := .ref (ad 43)) (by decide) rfl rfl ii_11 (by decide) (Nat.le_of_ble_eq_true rfl) k_1242 rfl d_MO_here_12 ?_
    refine lv_aload_n hx hb d_MO_here_15 rfl (lv_at hl 0 rfl) ?_
    refine mz_get E w 0 61 (v := .int (mz_gI t 0 61)) (by decide) rfl rfl ii_11 (by decide) (Nat.le_of_ble_eq_true rfl) k_1244 rfl d_MO_here_16 ?_
    obtain ⟨hi2, hf⟩ := mz_gd hf
    refine mz_iald E w 43 (by decide) rfl hi2 d_MO_here_19 ?_
    refine lv_goto (tgt := 24) hx hb d_MO_here_20 (by decide) ?_
    obtain rfl := Option.some.inj hf
    exact mz_iret E w rfl d_MO_here_24

/-! MacroHouseModel.blanks()V -/
abbrev r_MO_blanks : Room := { frames := 1, cells := 0, slots := 0, locals := 20 }
def f_MO_blanks_0 (n : Nat) : Nat → mz_St → Option mz_St
  | 0, _ => none
  | k + 1, t => (f_MO_here n t).bind fun q1 => if q1.1 = (32 : Int32) then (mz_let (mz_pI q1.2 0 61 ((mz_gI q1.2 0 61) + (1 : Int32))) fun t4 => (f_MO_blanks_0 n k)  t4) else (some q1.2)
def f_MO_blanks (n : Nat) (t : mz_St) : Option mz_St := f_MO_blanks_0 n n  t
set_option maxRecDepth 100000 in
set_option maxHeartbeats 4000000 in
theorem b_MO_blanks_0 {SX : State → Heap → Prop} {dC : Nat → ClassId} {dI : Nat → Nat → Nat} {ad en : Nat → Nat} {ca : Nat → ClassId} {p : Program} {l : Launch} {e : Env} {s : State} {m : MethodId} {args : Array Value} {below : List Frame} {meth : Method} {c : Code} {res : mz_St} (E : mz_En SX 55 mz_cl dC dI ad ca p s m meth c prog_15_method_23_code 1 "MacroHouseModel" none) (n : Nat) (k : Nat) : ∀ (t : mz_St), f_MO_blanks_0 n k t = some res → ∀ (H : Heap) (locs : List Loc) (ls : Array Slot), mz_Wd mz_tM 55 mz_cl dC dI ad en ca s t H locs → lv_has ls 1 [(0, .ref (ad 0))] → W p l e (r_MO_blanks) s m args below meth c H locs 0 0 (MQ below (mz_Q SX mz_tM 55 mz_cl dC dI ad en ca none res) args s 0 0 (mz_A ad 55)) (F0 m 0 ls []) := by
  obtain ⟨hx, hb, hml, hown, hcx, -, -, hSX, -, -, hSK⟩ := id E
  induction k with
  | zero => intro t hf; exact absurd hf (by unfold f_MO_blanks_0; exact fun h => nomatch h)
  | succ k ih =>
    intro t hf H locs ls w hl
    unfold f_MO_blanks_0 at hf
    refine lv_aload_n hx hb d_MO_blanks_0 rfl (lv_at hl 0 rfl) ?_
    obtain ⟨q1, hq2, hf⟩ := mz_bd hf
    refine mz_callV E w (k := 0) (As := []) (rest := []) (c_MO_here hSK l n t q1 hq2) (by decide) rfl rfl k_1553 k_15 k_1550 k_1552 ks_68 hm_MO_here ⟨⟨rfl, rfl⟩, Nat.le_of_ble_eq_true rfl, Nat.le_of_ble_eq_true rfl⟩ rfl hl.1 rfl (Nat.le_of_ble_eq_true rfl) d_MO_blanks_1 ⟨Nat.zero_le _, Nat.zero_le _⟩ (st1 := [.int q1.1]) rfl (fun H locs w => ?_)
    refine lv_bipush (v := (32 : Int32)) hx hb d_MO_blanks_4 (by decide) ?_
    refine lv_icmp_ne (tgt := 22) hx hb d_MO_blanks_6 (by decide) (fun hc3 => ?_) (fun hc3 => ?_)
    · have hf := mz_f hc3 hf
      obtain rfl := Option.some.inj hf
      exact mz_vret E w rfl d_MO_blanks_22
    · have hf := mz_t hc3 hf
      refine lv_aload_n hx hb d_MO_blanks_9 rfl (lv_at hl 0 rfl) ?_
      refine lv_dup hx hb d_MO_blanks_10 rfl ?_
      refine mz_get E w 0 61 (v := .int (mz_gI q1.2 0 61)) (by decide) rfl rfl ii_11 (by decide) (Nat.le_of_ble_eq_true rfl) k_1244 rfl d_MO_blanks_11 ?_
      refine lv_iconst (v := (1 : Int32)) hx hb d_MO_blanks_14 (by decide) ?_
      refine lv_iadd hx hb d_MO_blanks_15 ?_
      refine mz_put E w 0 61 (v := ((mz_gI q1.2 0 61) + (1 : Int32))) (by decide) rfl rfl ii_11 tk_11 nm_11 (by decide) (Nat.le_of_ble_eq_true rfl) k_1244 rfl (tk_11 61 (by decide)) rfl rfl rfl d_MO_blanks_16 (fun H locs w => ?_)
      obtain ⟨t4, e_t4, hf⟩ := mz_lt hf
      rw [← e_t4] at w
      refine lv_goto (tgt := 0) hx hb d_MO_blanks_19 (by decide) ?_
      exact ih  t4 hf _ _ _ w (lv_sub hl [0] rfl)
set_option maxRecDepth 100000 in
set_option maxHeartbeats 4000000 in
theorem c_MO_blanks {SX : State → Heap → Prop} {dC : Nat → ClassId} {dI : Nat → Nat → Nat} {ad en : Nat → Nat} {ca : Nat → ClassId} (hSK : mz_SK SX ad 55) (l : Launch) (n : Nat) (t : mz_St) (res : mz_St) (hf : f_MO_blanks n t = some res) : mz_C SX mz_tM 55 mz_cl dC dI ad en ca l y_MO_blanks prog_15_method_23_code 1 none (r_MO_blanks) [.ref (ad 0)] t none res := by
  unfold f_MO_blanks at hf
  refine mz_met hSK (by decide) (Nat.le_of_ble_eq_true rfl) ?_
  intro p e s m args below meth c ls E w hl
  obtain ⟨hx, hb, hml, hown, hcx, -, -, hSX, -, -, -⟩ := id E
  have hl : lv_has ls 1 [(0, .ref (ad 0))] := hl
  exact b_MO_blanks_0 E n n  t hf _ _ _ w (lv_sub hl [0] rfl)

/-! MacroHouseModel.beginLine()V -/
abbrev r_MO_beginLine : Room := { frames := 2, cells := 0, slots := 0, locals := 40 }
def f_MO_beginLine_57 (n : Nat) : Nat → Int32 → Int32 → mz_St → Option mz_St
  | 0, _, _, _ => none
  | k + 1, x1, x2, t => if (mz_gI t 0 60) ≤ x2 then (mz_let (mz_pI t 0 60 ((mz_gI t 0 60) - x1)) fun t7 => mz_let (mz_pI t7 0 61 (0 : Int32)) fun t8 => some t8) else (if ¬ (x2 < 0 ∨ 6000 ≤ x2.toNatClampNeg) then (if ¬ ((x2 - x1) < 0 ∨ 6000 ≤ (x2 - x1).toNatClampNeg) then (mz_let (mz_pI t 43 (x2 - x1).toNatClampNeg (mz_gI t 43 x2.toNatClampNeg)) fun t11 => (f_MO_beginLine_57 n k) x1 (x2 + (1 : Int32)) t11) else none) else none)
def f_MO_beginLine_36 (n : Nat) (t : mz_St) : Option mz_St := mz_let (mz_pI t 0 61 (0 : Int32)) fun t2 => mz_let (mz_pI t2 0 62 (1 : Int32)) fun t3 => (f_MO_blanks n t3).bind fun q4 => f_MO_beginLine_57 n n (mz_gI q4 0 61) (mz_gI q4 0 61) q4
def f_MO_beginLine_0 (n : Nat) : Nat → mz_St → Option mz_St
  | 0, _ => none
  | k + 1, t => if (mz_gI t 0 60) ≤ 0 then (f_MO_beginLine_36 n  t) else (if ¬ (((mz_gI t 0 60) - (1 : Int32)) < 0 ∨ 6000 ≤ ((mz_gI t 0 60) - (1 : Int32)).toNatClampNeg) then (if (mz_gI t 43 ((mz_gI t 0 60) - (1 : Int32)).toNatClampNeg) = (32 : Int32) then (mz_let (mz_pI t 0 60 ((mz_gI t 0 60) - (1 : Int32))) fun t14 => (f_MO_beginLine_0 n k)  t14) else (f_MO_beginLine_36 n  t)) else none)
def f_MO_beginLine (n : Nat) (t : mz_St) : Option mz_St := f_MO_beginLine_0 n n  t
set_option maxRecDepth 100000 in
set_option maxHeartbeats 4000000 in
theorem b_MO_beginLine_57 {SX : State → Heap → Prop} {dC : Nat → ClassId} {dI : Nat → Nat → Nat} {ad en : Nat → Nat} {ca : Nat → ClassId} {p : Program} {l : Launch} {e : Env} {s : State} {m : MethodId} {args : Array Value} {below : List Frame} {meth : Method} {c : Code} {res : mz_St} (E : mz_En SX 55 mz_cl dC dI ad ca p s m meth c prog_15_method_59_code 3 "MacroHouseModel" none) (n : Nat) (k : Nat) : ∀ (x1 : Int32) (x2 : Int32) (t : mz_St), f_MO_beginLine_57 n k x1 x2 t = some res → ∀ (H : Heap) (locs : List Loc) (ls : Array Slot), mz_Wd mz_tM 55 mz_cl dC dI ad en ca s t H locs → lv_has ls 3 [(0, .ref (ad 0)), (1, .int x1), (2, .int x2)] → W p l e (r_MO_beginLine) s m args below meth c H locs 0 0 (MQ below (mz_Q SX mz_tM 55 mz_cl dC dI ad en ca none res) args s 0 0 (mz_A ad 55)) (F0 m 57 ls []) := by
  obtain ⟨hx, hb, hml, hown, hcx, -, -, hSX, -, -, hSK⟩ := id E
  induction k with
  | zero => intro x1 x2 t hf; exact absurd hf (by unfold f_MO_beginLine_57; exact fun h => nomatch h)
  | succ k ih =>
    intro x1 x2 t hf H locs ls w hl
    unfold f_MO_beginLine_57 at hf
    refine lv_iload_n hx hb d_MO_beginLine_57 rfl (lv_at hl 2 rfl) ?_
    refine lv_aload_n hx hb d_MO_beginLine_58 rfl (lv_at hl 0 rfl) ?_
    refine mz_get E w 0 60 (v := .int (mz_gI t 0 60)) (by decide) rfl rfl ii_11 (by decide) (Nat.le_of_ble_eq_true rfl) k_1243 rfl d_MO_beginLine_59 ?_
    refine lv_icmp_ge (tgt := 85) hx hb d_MO_beginLine_62 (by decide) (fun hc6 => ?_) (fun hc6 => ?_)
    · have hf := mz_t hc6 hf
      refine lv_aload_n hx hb d_MO_beginLine_85 rfl (lv_at hl 0 rfl) ?_
      refine lv_aload_n hx hb d_MO_beginLine_86 rfl (lv_at hl 0 rfl) ?_
      refine mz_get E w 0 60 (v := .int (mz_gI t 0 60)) (by decide) rfl rfl ii_11 (by decide) (Nat.le_of_ble_eq_true rfl) k_1243 rfl d_MO_beginLine_87 ?_
      refine lv_iload_n hx hb d_MO_beginLine_90 rfl (lv_at hl 1 rfl) ?_
      refine lv_isub hx hb d_MO_beginLine_91 ?_
      refine mz_put E w 0 60 (v := ((mz_gI t 0 60) - x1)) (by decide) rfl rfl ii_11 tk_11 nm_11 (by decide) (Nat.le_of_ble_eq_true rfl) k_1243 rfl (tk_11 60 (by decide)) rfl rfl rfl d_MO_beginLine_92 (fun H locs w => ?_)
      obtain ⟨t7, e_t7, hf⟩ := mz_lt hf
      rw [← e_t7] at w
      refine lv_aload_n hx hb d_MO_beginLine_95 rfl (lv_at hl 0 rfl) ?_
      refine lv_iconst (v := (0 : Int32)) hx hb d_MO_beginLine_96 (by decide) ?_
      refine mz_put E w 0 61 (v := (0 : Int32)) (by decide) rfl rfl ii_11 tk_11 nm_11 (by decide) (Nat.le_of_ble_eq_true rfl) k_1244 rfl (tk_11 61 (by decide)) rfl rfl rfl d_MO_beginLine_97 (fun H locs w => ?_)
      obtain ⟨t8, e_t8, hf⟩ := mz_lt hf
      rw [← e_t8] at w
      obtain rfl := Option.some.inj hf
      exact mz_vret E w rfl d_MO_beginLine_100
    · have hf := mz_f hc6 hf
      refine lv_aload_n hx hb d_MO_beginLine_65 rfl (lv_at hl 0 rfl) ?_
      refine mz_get E w 0 59 (v := .ref (ad 43)) (by decide) rfl rfl ii_11 (by decide) (Nat.le_of_ble_eq_true rfl) k_1242 rfl d_MO_beginLine_66 ?_
      refine lv_iload_n hx hb d_MO_beginLine_69 rfl (lv_at hl 2 rfl) ?_
      refine lv_iload_n hx hb d_MO_beginLine_70 rfl (lv_at hl 1 rfl) ?_
      refine lv_isub hx hb d_MO_beginLine_71 ?_
      refine lv_aload_n hx hb d_MO_beginLine_72 rfl (lv_at hl 0 rfl) ?_
      refine mz_get E w 0 59 (v := .ref (ad 43)) (by decide) rfl rfl ii_11 (by decide) (Nat.le_of_ble_eq_true rfl) k_1242 rfl d_MO_beginLine_73 ?_
      refine lv_iload_n hx hb d_MO_beginLine_76 rfl (lv_at hl 2 rfl) ?_
      obtain ⟨hi9, hf⟩ := mz_gd hf
      refine mz_iald E w 43 (by decide) rfl hi9 d_MO_beginLine_77 ?_
      obtain ⟨hi10, hf⟩ := mz_gd hf
      refine mz_iast E w 43 (x := (mz_gI t 43 x2.toNatClampNeg)) (by decide) rfl hi10 d_MO_beginLine_78 (fun H locs w => ?_)
      obtain ⟨t11, e_t11, hf⟩ := mz_lt hf
      rw [← e_t11] at w
      refine lv_iinc (v := (x2 + (1 : Int32))) (lv' := [(2, .int (x2 + (1 : Int32))), (0, .ref (ad 0)), (1, .int x1)]) hx hb d_MO_beginLine_79 hl (k := 2) rfl rfl (by decide) rfl (fun ls hl => ?_)
      refine lv_goto (tgt := 57) hx hb d_MO_beginLine_82 (by decide) ?_
      exact ih x1 (x2 + (1 : Int32)) t11 hf _ _ _ w (lv_sub hl [1, 2, 0] rfl)
set_option maxRecDepth 100000 in
set_option maxHeartbeats 4000000 in
theorem b_MO_beginLine_36 {SX : State → Heap → Prop} {dC : Nat → ClassId} {dI : Nat → Nat → Nat} {ad en : Nat → Nat} {ca : Nat → ClassId} {p : Program} {l : Launch} {e : Env} {s : State} {m : MethodId} {args : Array Value} {below : List Frame} {meth : Method} {c : Code} {res : mz_St} (E : mz_En SX 55 mz_cl dC dI ad ca p s m meth c prog_15_method_59_code 3 "MacroHouseModel" none) (n : Nat) : ∀ (t : mz_St), f_MO_beginLine_36 n t = some res → ∀ (H : Heap) (locs : List Loc) (ls : Array Slot), mz_Wd mz_tM 55 mz_cl dC dI ad en ca s t H locs → lv_has ls 3 [(0, .ref (ad 0))] → W p l e (r_MO_beginLine) s m args below meth c H locs 0 0 (MQ below (mz_Q SX mz_tM 55 mz_cl dC dI ad en ca none res) args s 0 0 (mz_A ad 55)) (F0 m 36 ls []) := by
  obtain ⟨hx, hb, hml, hown, hcx, -, -, hSX, -, -, hSK⟩ := id E
  intro t hf H locs ls w hl
  unfold f_MO_beginLine_36 at hf
  refine lv_aload_n hx hb d_MO_beginLine_36 rfl (lv_at hl 0 rfl) ?_
  refine lv_iconst (v := (0 : Int32)) hx hb d_MO_beginLine_37 (by decide) ?_
  refine mz_put E w 0 61 (v := (0 : Int32)) (by decide) rfl rfl ii_11 tk_11 nm_11 (by decide) (Nat.le_of_ble_eq_true rfl) k_1244 rfl (tk_11 61 (by decide)) rfl rfl rfl d_MO_beginLine_38 (fun H locs w => ?_)
  obtain ⟨t2, e_t2, hf⟩ := mz_lt hf
  rw [← e_t2] at w
  refine lv_aload_n hx hb d_MO_beginLine_41 rfl (lv_at hl 0 rfl) ?_
  refine lv_iconst (v := (1 : Int32)) hx hb d_MO_beginLine_42 (by decide) ?_
  refine mz_put E w 0 62 (v := (1 : Int32)) (by decide) rfl rfl ii_11 tk_11 nm_11 (by decide) (Nat.le_of_ble_eq_true rfl) k_1245 rfl (tk_11 62 (by decide)) rfl (by decide) rfl d_MO_beginLine_43 (fun H locs w => ?_)
  obtain ⟨t3, e_t3, hf⟩ := mz_lt hf
  rw [← e_t3] at w
  refine lv_aload_n hx hb d_MO_beginLine_46 rfl (lv_at hl 0 rfl) ?_
  obtain ⟨q4, hq5, hf⟩ := mz_bd hf
  refine mz_callV E w (k := 0) (As := []) (rest := []) (c_MO_blanks hSK l n t3 q4 hq5) (by decide) rfl rfl k_1549 k_15 k_1546 k_1548 ks_67 hm_MO_blanks ⟨⟨rfl, rfl⟩, Nat.le_of_ble_eq_true rfl, Nat.le_of_ble_eq_true rfl⟩ rfl hl.1 rfl (Nat.le_of_ble_eq_true rfl) d_MO_beginLine_47 ⟨Nat.zero_le _, Nat.zero_le _⟩ (st1 := []) rfl (fun H locs w => ?_)
  refine lv_aload_n hx hb d_MO_beginLine_50 rfl (lv_at hl 0 rfl) ?_
  refine mz_get E w 0 61 (v := .int (mz_gI q4 0 61)) (by decide) rfl rfl ii_11 (by decide) (Nat.le_of_ble_eq_true rfl) k_1244 rfl d_MO_beginLine_51 ?_
  refine lv_istore_n (lv' := [(1, .int (mz_gI q4 0 61)), (0, .ref (ad 0))]) hx hb d_MO_beginLine_54 rfl hl (by decide) rfl (fun ls hl => ?_)
  refine lv_iload_n hx hb d_MO_beginLine_55 rfl (lv_at hl 0 rfl) ?_
  refine lv_istore_n (lv' := [(2, .int (mz_gI q4 0 61)), (1, .int (mz_gI q4 0 61)), (0, .ref (ad 0))]) hx hb d_MO_beginLine_56 rfl hl (by decide) rfl (fun ls hl => ?_)
  exact b_MO_beginLine_57 E n n (mz_gI q4 0 61) (mz_gI q4 0 61) q4 hf _ _ _ w (lv_sub hl [2, 1, 0] rfl)
set_option maxRecDepth 100000 in
set_option maxHeartbeats 4000000 in
theorem b_MO_beginLine_0 {SX : State → Heap → Prop} {dC : Nat → ClassId} {dI : Nat → Nat → Nat} {ad en : Nat → Nat} {ca : Nat → ClassId} {p : Program} {l : Launch} {e : Env} {s : State} {m : MethodId} {args : Array Value} {below : List Frame} {meth : Method} {c : Code} {res : mz_St} (E : mz_En SX 55 mz_cl dC dI ad ca p s m meth c prog_15_method_59_code 3 "MacroHouseModel" none) (n : Nat) (k : Nat) : ∀ (t : mz_St), f_MO_beginLine_0 n k t = some res → ∀ (H : Heap) (locs : List Loc) (ls : Array Slot), mz_Wd mz_tM 55 mz_cl dC dI ad en ca s t H locs → lv_has ls 3 [(0, .ref (ad 0))] → W p l e (r_MO_beginLine) s m args below meth c H locs 0 0 (MQ below (mz_Q SX mz_tM 55 mz_cl dC dI ad en ca none res) args s 0 0 (mz_A ad 55)) (F0 m 0 ls []) := by
  obtain ⟨hx, hb, hml, hown, hcx, -, -, hSX, -, -, hSK⟩ := id E
  induction k with
  | zero => intro t hf; exact absurd hf (by unfold f_MO_beginLine_0; exact fun h => nomatch h)
  | succ k ih =>
    intro t hf H locs ls w hl
    unfold f_MO_beginLine_0 at hf
    refine lv_aload_n hx hb d_MO_beginLine_0 rfl (lv_at hl 0 rfl) ?_
    refine mz_get E w 0 60 (v := .int (mz_gI t 0 60)) (by decide) rfl rfl ii_11 (by decide) (Nat.le_of_ble_eq_true rfl) k_1243 rfl d_MO_beginLine_1 ?_
    refine lv_if_le (tgt := 36) hx hb d_MO_beginLine_4 (by decide) (fun hc1 => ?_) (fun hc1 => ?_)
    · have hf := mz_t hc1 hf
      exact b_MO_beginLine_36 E n  t hf _ _ _ w (lv_sub hl [0] rfl)
    · have hf := mz_f hc1 hf
      refine lv_aload_n hx hb d_MO_beginLine_7 rfl (lv_at hl 0 rfl) ?_
      refine mz_get E w 0 59 (v := .ref (ad 43)) (by decide) rfl rfl ii_11 (by decide) (Nat.le_of_ble_eq_true rfl) k_1242 rfl d_MO_beginLine_8 ?_
      refine lv_aload_n hx hb d_MO_beginLine_11 rfl (lv_at hl 0 rfl) ?_
      refine mz_get E w 0 60 (v := .int (mz_gI t 0 60)) (by decide) rfl rfl ii_11 (by decide) (Nat.le_of_ble_eq_true rfl) k_1243 rfl d_MO_beginLine_12 ?_
      refine lv_iconst (v := (1 : Int32)) hx hb d_MO_beginLine_15 (by decide) ?_
      refine lv_isub hx hb d_MO_beginLine_16 ?_
      obtain ⟨hi12, hf⟩ := mz_gd hf
      refine mz_iald E w 43 (by decide) rfl hi12 d_MO_beginLine_17 ?_
      refine lv_bipush (v := (32 : Int32)) hx hb d_MO_beginLine_18 (by decide) ?_
      refine lv_icmp_ne (tgt := 36) hx hb d_MO_beginLine_20 (by decide) (fun hc13 => ?_) (fun hc13 => ?_)
      · have hf := mz_f hc13 hf
        exact b_MO_beginLine_36 E n  t hf _ _ _ w (lv_sub hl [0] rfl)
      · have hf := mz_t hc13 hf
        refine lv_aload_n hx hb d_MO_beginLine_23 rfl (lv_at hl 0 rfl) ?_
        refine lv_dup hx hb d_MO_beginLine_24 rfl ?_
        refine mz_get E w 0 60 (v := .int (mz_gI t 0 60)) (by decide) rfl rfl ii_11 (by decide) (Nat.le_of_ble_eq_true rfl) k_1243 rfl d_MO_beginLine_25 ?_
        refine lv_iconst (v := (1 : Int32)) hx hb d_MO_beginLine_28 (by decide) ?_
        refine lv_isub hx hb d_MO_beginLine_29 ?_
        refine mz_put E w 0 60 (v := ((mz_gI t 0 60) - (1 : Int32))) (by decide) rfl rfl ii_11 tk_11 nm_11 (by decide) (Nat.le_of_ble_eq_true rfl) k_1243 rfl (tk_11 60 (by decide)) rfl rfl rfl d_MO_beginLine_30 (fun H locs w => ?_)
        obtain ⟨t14, e_t14, hf⟩ := mz_lt hf
        rw [← e_t14] at w
        refine lv_goto (tgt := 0) hx hb d_MO_beginLine_33 (by decide) ?_
        exact ih  t14 hf _ _ _ w (lv_sub hl [0] rfl)
set_option maxRecDepth 100000 in
set_option maxHeartbeats 4000000 in
theorem c_MO_beginLine {SX : State → Heap → Prop} {dC : Nat → ClassId} {dI : Nat → Nat → Nat} {ad en : Nat → Nat} {ca : Nat → ClassId} (hSK : mz_SK SX ad 55) (l : Launch) (n : Nat) (t : mz_St) (res : mz_St) (hf : f_MO_beginLine n t = some res) : mz_C SX mz_tM 55 mz_cl dC dI ad en ca l y_MO_beginLine prog_15_method_59_code 3 none (r_MO_beginLine) [.ref (ad 0)] t none res := by
  unfold f_MO_beginLine at hf
  refine mz_met hSK (by decide) (Nat.le_of_ble_eq_true rfl) ?_
  intro p e s m args below meth c ls E w hl
  obtain ⟨hx, hb, hml, hown, hcx, -, -, hSX, -, -, -⟩ := id E
  have hl : lv_has ls 3 [(0, .ref (ad 0))] := hl
  exact b_MO_beginLine_0 E n n  t hf _ _ _ w (lv_sub hl [0] rfl)
