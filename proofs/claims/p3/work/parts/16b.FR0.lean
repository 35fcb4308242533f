/-! MacroHouse$Frame.begin(LMacroHouse$Directive;IIII)V -/
abbrev r_FR_begin : Room := { frames := 0, cells := 0, slots := 0, locals := 0 }
def f_FR_begin (n : Nat) (x0 : Nat) (x1 : Int32) (x2 : Int32) (x3 : Int32) (x4 : Int32) (x5 : Int32) (t : mz_St) : Option mz_St := if mz_fr x0 then (mz_let (mz_pI t x0 0 x1) fun t1 => mz_let (mz_pI t1 x0 1 x2) fun t2 => mz_let (mz_pI t2 x0 2 x3) fun t3 => mz_let (mz_pI t3 x0 3 x2) fun t4 => mz_let (mz_pI t4 x0 4 x4) fun t5 => mz_let (mz_pI t5 x0 5 (0 : Int32)) fun t6 => mz_let (mz_pI t6 x0 6 x5) fun t7 => some t7) else none
set_option maxRecDepth 100000 in
set_option maxHeartbeats 4000000 in
theorem c_FR_begin {SX : State → Heap → Prop} {dC : Nat → ClassId} {dI : Nat → Nat → Nat} {ad en : Nat → Nat} {ca : Nat → ClassId} (hSK : mz_SK SX ad 80) (l : Launch) (n : Nat) (x0 : Nat) (x1 : Int32) (x2 : Int32) (x3 : Int32) (x4 : Int32) (x5 : Int32) (t : mz_St) (res : mz_St) (hf : f_FR_begin n x0 x1 x2 x3 x4 x5 t = some res) : mz_C SX mz_tC 80 mz_cl dC dI ad en ca l y_FR_begin prog_7_method_2_code 6 none (r_FR_begin) [.ref (ad x0), .ref (en x1.toNatClampNeg), .int x2, .int x3, .int x4, .int x5] t none res := by
  unfold f_FR_begin at hf
  obtain ⟨h_x0, hf⟩ := mz_gd hf
  refine mz_met hSK (by decide) (Nat.le_of_ble_eq_true rfl) ?_
  intro p e s m args below meth c ls E w hl
  obtain ⟨hx, hb, hml, hown, hcx, -, -, hSX, -, -, -⟩ := id E
  have hl : lv_has ls 6 [(0, .ref (ad x0)), (1, .ref (en x1.toNatClampNeg)), (2, .int x2), (3, .int x3), (4, .int x4), (5, .int x5)] := hl
  refine lv_aload_n hx hb d_FR_begin_0 rfl (lv_at hl 0 rfl) ?_
  refine lv_aload_n hx hb d_FR_begin_1 rfl (lv_at hl 1 rfl) ?_
  refine mz_put E w x0 0 (v := x1) (mz_fN h_x0) (mz_tC_f h_x0) rfl ii_10 tk_10 nm_10 (by decide) (Nat.le_of_ble_eq_true rfl) k_271 rfl (tk_10 0 (by decide)) rfl rfl rfl d_FR_begin_2 (fun H locs w => ?_)
  obtain ⟨t1, e_t1, hf⟩ := mz_lt hf
  rw [← e_t1] at w
  refine lv_aload_n hx hb d_FR_begin_5 rfl (lv_at hl 0 rfl) ?_
  refine lv_iload_n hx hb d_FR_begin_6 rfl (lv_at hl 2 rfl) ?_
  refine mz_put E w x0 1 (v := x2) (mz_fN h_x0) (mz_tC_f h_x0) rfl ii_10 tk_10 nm_10 (by decide) (Nat.le_of_ble_eq_true rfl) k_273 rfl (tk_10 1 (by decide)) rfl rfl rfl d_FR_begin_7 (fun H locs w => ?_)
  obtain ⟨t2, e_t2, hf⟩ := mz_lt hf
  rw [← e_t2] at w
  refine lv_aload_n hx hb d_FR_begin_10 rfl (lv_at hl 0 rfl) ?_
  refine lv_iload_n hx hb d_FR_begin_11 rfl (lv_at hl 3 rfl) ?_
  refine mz_put E w x0 2 (v := x3) (mz_fN h_x0) (mz_tC_f h_x0) rfl ii_10 tk_10 nm_10 (by decide) (Nat.le_of_ble_eq_true rfl) k_275 rfl (tk_10 2 (by decide)) rfl rfl rfl d_FR_begin_12 (fun H locs w => ?_)
  obtain ⟨t3, e_t3, hf⟩ := mz_lt hf
  rw [← e_t3] at w
  refine lv_aload_n hx hb d_FR_begin_15 rfl (lv_at hl 0 rfl) ?_
  refine lv_iload_n hx hb d_FR_begin_16 rfl (lv_at hl 2 rfl) ?_
  refine mz_put E w x0 3 (v := x2) (mz_fN h_x0) (mz_tC_f h_x0) rfl ii_10 tk_10 nm_10 (by decide) (Nat.le_of_ble_eq_true rfl) k_278 rfl (tk_10 3 (by decide)) rfl rfl rfl d_FR_begin_17 (fun H locs w => ?_)
  obtain ⟨t4, e_t4, hf⟩ := mz_lt hf
  rw [← e_t4] at w
  refine lv_aload_n hx hb d_FR_begin_20 rfl (lv_at hl 0 rfl) ?_
  refine lv_iload hx hb d_FR_begin_21 (lv_at hl 4 rfl) ?_
  refine mz_put E w x0 4 (v := x4) (mz_fN h_x0) (mz_tC_f h_x0) rfl ii_10 tk_10 nm_10 (by decide) (Nat.le_of_ble_eq_true rfl) k_281 rfl (tk_10 4 (by decide)) rfl rfl rfl d_FR_begin_23 (fun H locs w => ?_)
  obtain ⟨t5, e_t5, hf⟩ := mz_lt hf
  rw [← e_t5] at w
  refine lv_aload_n hx hb d_FR_begin_26 rfl (lv_at hl 0 rfl) ?_
  refine lv_iconst (v := (0 : Int32)) hx hb d_FR_begin_27 (by decide) ?_
  refine mz_put E w x0 5 (v := (0 : Int32)) (mz_fN h_x0) (mz_tC_f h_x0) rfl ii_10 tk_10 nm_10 (by decide) (Nat.le_of_ble_eq_true rfl) k_283 rfl (tk_10 5 (by decide)) rfl rfl rfl d_FR_begin_28 (fun H locs w => ?_)
  obtain ⟨t6, e_t6, hf⟩ := mz_lt hf
  rw [← e_t6] at w
  refine lv_aload_n hx hb d_FR_begin_31 rfl (lv_at hl 0 rfl) ?_
  refine lv_iload hx hb d_FR_begin_32 (lv_at hl 5 rfl) ?_
  refine mz_put E w x0 6 (v := x5) (mz_fN h_x0) (mz_tC_f h_x0) rfl ii_10 tk_10 nm_10 (by decide) (Nat.le_of_ble_eq_true rfl) k_285 rfl (tk_10 6 (by decide)) rfl rfl rfl d_FR_begin_34 (fun H locs w => ?_)
  obtain ⟨t7, e_t7, hf⟩ := mz_lt hf
  rw [← e_t7] at w
  obtain rfl := Option.some.inj hf
  exact mz_vret E w rfl d_FR_begin_37

/-! MacroHouse$Frame.setArgument(III)V -/
abbrev r_FR_setArgument : Room := { frames := 0, cells := 0, slots := 0, locals := 0 }
def f_FR_setArgument (n : Nat) (x0 : Nat) (x1 : Int32) (x2 : Int32) (x3 : Int32) (t : mz_St) : Option mz_St := if mz_fr x0 then (if x1 < 0 then (some t) else (if (6 : Int32) ≤ x1 then (some t) else (if (6 : Int32) ≤ x1 then (some t) else (if ¬ (x1 < 0 ∨ 6 ≤ x1.toNatClampNeg) then (mz_let (mz_pI t (x0 + 14) x1.toNatClampNeg x2) fun t5 => if ¬ (x1 < 0 ∨ 6 ≤ x1.toNatClampNeg) then (mz_let (mz_pI t5 (x0 + 28) x1.toNatClampNeg x3) fun t7 => some t7) else none) else none)))) else none
set_option maxRecDepth 100000 in
set_option maxHeartbeats 4000000 in
theorem c_FR_setArgument {SX : State → Heap → Prop} {dC : Nat → ClassId} {dI : Nat → Nat → Nat} {ad en : Nat → Nat} {ca : Nat → ClassId} (hSK : mz_SK SX ad 80) (l : Launch) (n : Nat) (x0 : Nat) (x1 : Int32) (x2 : Int32) (x3 : Int32) (t : mz_St) (res : mz_St) (hf : f_FR_setArgument n x0 x1 x2 x3 t = some res) : mz_C SX mz_tC 80 mz_cl dC dI ad en ca l y_FR_setArgument prog_7_method_3_code 4 none (r_FR_setArgument) [.ref (ad x0), .int x1, .int x2, .int x3] t none res := by
  unfold f_FR_setArgument at hf
  obtain ⟨h_x0, hf⟩ := mz_gd hf
  refine mz_met hSK (by decide) (Nat.le_of_ble_eq_true rfl) ?_
  intro p e s m args below meth c ls E w hl
  obtain ⟨hx, hb, hml, hown, hcx, -, -, hSX, -, -, -⟩ := id E
  have hl : lv_has ls 4 [(0, .ref (ad x0)), (1, .int x1), (2, .int x2), (3, .int x3)] := hl
  refine lv_iload_n hx hb d_FR_setArgument_0 rfl (lv_at hl 1 rfl) ?_
  refine lv_if_lt (tgt := 36) hx hb d_FR_setArgument_1 (by decide) (fun hc1 => ?_) (fun hc1 => ?_)
  · have hf := mz_t hc1 hf
    obtain rfl := Option.some.inj hf
    exact mz_vret E w rfl d_FR_setArgument_36
  · have hf := mz_f hc1 hf
    refine lv_iload_n hx hb d_FR_setArgument_4 rfl (lv_at hl 1 rfl) ?_
    refine lv_aload_n hx hb d_FR_setArgument_5 rfl (lv_at hl 0 rfl) ?_
    refine mz_get E w x0 13 (v := .ref (ad (x0 + 14))) (mz_fN h_x0) (mz_tC_f h_x0) rfl ii_10 (by decide) (Nat.le_of_ble_eq_true rfl) k_297 rfl d_FR_setArgument_6 ?_
    refine mz_alen E w (x0 + 14) (v := (6 : Int32)) (mz_faN h_x0) (mz_tC_a h_x0) (by decide) rfl d_FR_setArgument_9 ?_
    refine lv_icmp_ge (tgt := 36) hx hb d_FR_setArgument_10 (by decide) (fun hc2 => ?_) (fun hc2 => ?_)
    · have hf := mz_t hc2 hf
      obtain rfl := Option.some.inj hf
      exact mz_vret E w rfl d_FR_setArgument_36
    · have hf := mz_f hc2 hf
      refine lv_iload_n hx hb d_FR_setArgument_13 rfl (lv_at hl 1 rfl) ?_
      refine lv_aload_n hx hb d_FR_setArgument_14 rfl (lv_at hl 0 rfl) ?_
      refine mz_get E w x0 14 (v := .ref (ad (x0 + 28))) (mz_fN h_x0) (mz_tC_f h_x0) rfl ii_10 (by decide) (Nat.le_of_ble_eq_true rfl) k_298 rfl d_FR_setArgument_15 ?_
      refine mz_alen E w (x0 + 28) (v := (6 : Int32)) (mz_fbN h_x0) (mz_tC_b h_x0) (by decide) rfl d_FR_setArgument_18 ?_
      refine lv_icmp_ge (tgt := 36) hx hb d_FR_setArgument_19 (by decide) (fun hc3 => ?_) (fun hc3 => ?_)
      · have hf := mz_t hc3 hf
        obtain rfl := Option.some.inj hf
        exact mz_vret E w rfl d_FR_setArgument_36
      · have hf := mz_f hc3 hf
        refine lv_aload_n hx hb d_FR_setArgument_22 rfl (lv_at hl 0 rfl) ?_
        refine mz_get E w x0 13 (v := .ref (ad (x0 + 14))) (mz_fN h_x0) (mz_tC_f h_x0) rfl ii_10 (by decide) (Nat.le_of_ble_eq_true rfl) k_297 rfl d_FR_setArgument_23 ?_
        refine lv_iload_n hx hb d_FR_setArgument_26 rfl (lv_at hl 1 rfl) ?_
        refine lv_iload_n hx hb d_FR_setArgument_27 rfl (lv_at hl 2 rfl) ?_
        obtain ⟨hi4, hf⟩ := mz_gd hf
        refine mz_iast E w (x0 + 14) (x := x2) (mz_faN h_x0) (mz_tC_a h_x0) hi4 d_FR_setArgument_28 (fun H locs w => ?_)
        obtain ⟨t5, e_t5, hf⟩ := mz_lt hf
        rw [← e_t5] at w
        refine lv_aload_n hx hb d_FR_setArgument_29 rfl (lv_at hl 0 rfl) ?_
        refine mz_get E w x0 14 (v := .ref (ad (x0 + 28))) (mz_fN h_x0) (mz_tC_f h_x0) rfl ii_10 (by decide) (Nat.le_of_ble_eq_true rfl) k_298 rfl d_FR_setArgument_30 ?_
        refine lv_iload_n hx hb d_FR_setArgument_33 rfl (lv_at hl 1 rfl) ?_
        refine lv_iload_n hx hb d_FR_setArgument_34 rfl (lv_at hl 3 rfl) ?_
        obtain ⟨hi6, hf⟩ := mz_gd hf
        refine mz_iast E w (x0 + 28) (x := x3) (mz_fbN h_x0) (mz_tC_b h_x0) hi6 d_FR_setArgument_35 (fun H locs w => ?_)
        obtain ⟨t7, e_t7, hf⟩ := mz_lt hf
        rw [← e_t7] at w
        obtain rfl := Option.some.inj hf
        exact mz_vret E w rfl d_FR_setArgument_36

/-! MacroHouse$Frame.repeats()Z -/
abbrev r_FR_repeats : Room := { frames := 0, cells := 0, slots := 0, locals := 0 }
def f_FR_repeats_20 (n : Nat) (t : mz_St) : Option (Int32 × mz_St) := some ((1 : Int32), t)
def f_FR_repeats (n : Nat) (x0 : Nat) (t : mz_St) : Option (Int32 × mz_St) := if mz_fr x0 then (if (mz_gI t x0 0).toNatClampNeg < 16 ∧ (11 : Int32).toNatClampNeg < 16 then (if (mz_gI t x0 0).toNatClampNeg = (11 : Int32).toNatClampNeg then (f_FR_repeats_20 n  t) else (if (mz_gI t x0 0).toNatClampNeg < 16 ∧ (12 : Int32).toNatClampNeg < 16 then (if (mz_gI t x0 0).toNatClampNeg = (12 : Int32).toNatClampNeg then (f_FR_repeats_20 n  t) else (some ((0 : Int32), t))) else none)) else none) else none
set_option maxRecDepth 100000 in
set_option maxHeartbeats 4000000 in
theorem b_FR_repeats_20 {dC : Nat → ClassId} {dI : Nat → Nat → Nat} {ad en adK adV : Nat → Nat} {tA tS : Nat} {oF : Option Nat} {ca : Nat → ClassId} {p : Program} {l : Launch} {e : Env} {s : State} {m : MethodId} {args : Array Value} {below : List Frame} {meth : Method} {c : Code} {res : (Int32 × mz_St)} (E : mz_En (mz_SC ad en adK adV tA tS oF) 80 mz_cl dC dI ad ca p s m meth c prog_7_method_6_code 1 "MacroHouse$Frame" (some (.boolean))) (n : Nat) : ∀ (t : mz_St), f_FR_repeats_20 n t = some res → ∀ (H : Heap) (locs : List Loc) (ls : Array Slot), mz_Wd mz_tC 80 mz_cl dC dI ad en ca s t H locs → lv_has ls 1 [] → W p l e (r_FR_repeats) s m args below meth c H locs 0 0 (MQ below (mz_Q (mz_SC ad en adK adV tA tS oF) mz_tC 80 mz_cl dC dI ad en ca (some (.int res.1)) res.2) args s 0 0 (mz_A ad 80)) (F0 m 20 ls []) := by
  obtain ⟨hx, hb, hml, hown, hcx, -, -, hSX, -, -, hSK⟩ := id E
  intro t hf H locs ls w hl
  unfold f_FR_repeats_20 at hf
  refine lv_iconst (v := (1 : Int32)) hx hb d_FR_repeats_20 (by decide) ?_
  refine lv_goto (tgt := 25) hx hb d_FR_repeats_21 (by decide) ?_
  obtain rfl := Option.some.inj hf
  exact mz_zret E w (by decide) rfl d_FR_repeats_25
set_option maxRecDepth 100000 in
set_option maxHeartbeats 4000000 in
theorem c_FR_repeats {dC : Nat → ClassId} {dI : Nat → Nat → Nat} {ad en adK adV : Nat → Nat} {tA tS : Nat} {oF : Option Nat} {ca : Nat → ClassId} (hSK : mz_SK (mz_SC ad en adK adV tA tS oF) ad 80) (l : Launch) (n : Nat) (x0 : Nat) (t : mz_St) (res : (Int32 × mz_St)) (hf : f_FR_repeats n x0 t = some res) : mz_C (mz_SC ad en adK adV tA tS oF) mz_tC 80 mz_cl dC dI ad en ca l y_FR_repeats prog_7_method_6_code 1 (some (.boolean)) (r_FR_repeats) [.ref (ad x0)] t (some (.int res.1)) res.2 := by
  unfold f_FR_repeats at hf
  obtain ⟨h_x0, hf⟩ := mz_gd hf
  refine mz_met hSK (by decide) (Nat.le_of_ble_eq_true rfl) ?_
  intro p e s m args below meth c ls E w hl
  obtain ⟨hx, hb, hml, hown, hcx, -, -, hSX, -, -, -⟩ := id E
  have hl : lv_has ls 1 [(0, .ref (ad x0))] := hl
  refine lv_aload_n hx hb d_FR_repeats_0 rfl (lv_at hl 0 rfl) ?_
  refine mz_get E w x0 0 (v := .ref (en (mz_gI t x0 0).toNatClampNeg)) (mz_fN h_x0) (mz_tC_f h_x0) rfl ii_10 (by decide) (Nat.le_of_ble_eq_true rfl) k_271 rfl d_FR_repeats_1 ?_
  refine mz_gse E w (11 : Int32) (by decide) rfl k_667 d_FR_repeats_4 ?_
  obtain ⟨hg2, hf⟩ := mz_gd hf
  refine mz_aeq E (tgt := 20) hg2 d_FR_repeats_7 (by decide) (fun hc1 => ?_) (fun hc1 => ?_)
  · have hf := mz_t hc1 hf
    exact b_FR_repeats_20 E n  t hf _ _ _ w (lv_sub hl [] rfl)
  · have hf := mz_f hc1 hf
    refine lv_aload_n hx hb d_FR_repeats_10 rfl (lv_at hl 0 rfl) ?_
    refine mz_get E w x0 0 (v := .ref (en (mz_gI t x0 0).toNatClampNeg)) (mz_fN h_x0) (mz_tC_f h_x0) rfl ii_10 (by decide) (Nat.le_of_ble_eq_true rfl) k_271 rfl d_FR_repeats_11 ?_
    refine mz_gse E w (12 : Int32) (by decide) rfl k_669 d_FR_repeats_14 ?_
    obtain ⟨hg4, hf⟩ := mz_gd hf
    refine mz_ane E (tgt := 24) hg4 d_FR_repeats_17 (by decide) (fun hc3 => ?_) (fun hc3 => ?_)
    · have hf := mz_f hc3 hf
      refine lv_iconst (v := (0 : Int32)) hx hb d_FR_repeats_24 (by decide) ?_
      obtain rfl := Option.some.inj hf
      exact mz_zret E w (by decide) rfl d_FR_repeats_25
    · have hf := mz_t hc3 hf
      exact b_FR_repeats_20 E n  t hf _ _ _ w (lv_sub hl [] rfl)

/-! MacroHouse$Frame.argumentStart(I)I -/
abbrev r_FR_argumentStart : Room := { frames := 0, cells := 0, slots := 0, locals := 0 }
def f_FR_argumentStart (n : Nat) (x0 : Nat) (x1 : Int32) (t : mz_St) : Option (Int32 × mz_St) := if mz_fr x0 then (if x1 < 0 then (some ((0 : Int32), t)) else (if (6 : Int32) ≤ x1 then (some ((0 : Int32), t)) else (if ¬ (x1 < 0 ∨ 6 ≤ x1.toNatClampNeg) then (some ((mz_gI t (x0 + 14) x1.toNatClampNeg), t)) else none))) else none
set_option maxRecDepth 100000 in
set_option maxHeartbeats 4000000 in
theorem c_FR_argumentStart {SX : State → Heap → Prop} {dC : Nat → ClassId} {dI : Nat → Nat → Nat} {ad en : Nat → Nat} {ca : Nat → ClassId} (hSK : mz_SK SX ad 80) (l : Launch) (n : Nat) (x0 : Nat) (x1 : Int32) (t : mz_St) (res : (Int32 × mz_St)) (hf : f_FR_argumentStart n x0 x1 t = some res) : mz_C SX mz_tC 80 mz_cl dC dI ad en ca l y_FR_argumentStart prog_7_method_4_code 2 (some (.int)) (r_FR_argumentStart) [.ref (ad x0), .int x1] t (some (.int res.1)) res.2 := by
  unfold f_FR_argumentStart at hf
  obtain ⟨h_x0, hf⟩ := mz_gd hf
  refine mz_met hSK (by decide) (Nat.le_of_ble_eq_true rfl) ?_
  intro p e s m args below meth c ls E w hl
  obtain ⟨hx, hb, hml, hown, hcx, -, -, hSX, -, -, -⟩ := id E
  have hl : lv_has ls 2 [(0, .ref (ad x0)), (1, .int x1)] := hl
  refine lv_iload_n hx hb d_FR_argumentStart_0 rfl (lv_at hl 1 rfl) ?_
  refine lv_if_lt (tgt := 22) hx hb d_FR_argumentStart_1 (by decide) (fun hc1 => ?_) (fun hc1 => ?_)
  · have hf := mz_t hc1 hf
    refine lv_iconst (v := (0 : Int32)) hx hb d_FR_argumentStart_22 (by decide) ?_
    obtain rfl := Option.some.inj hf
    exact mz_iret E w rfl d_FR_argumentStart_23
  · have hf := mz_f hc1 hf
    refine lv_iload_n hx hb d_FR_argumentStart_4 rfl (lv_at hl 1 rfl) ?_
    refine lv_aload_n hx hb d_FR_argumentStart_5 rfl (lv_at hl 0 rfl) ?_
    refine mz_get E w x0 13 (v := .ref (ad (x0 + 14))) (mz_fN h_x0) (mz_tC_f h_x0) rfl ii_10 (by decide) (Nat.le_of_ble_eq_true rfl) k_297 rfl d_FR_argumentStart_6 ?_
    refine mz_alen E w (x0 + 14) (v := (6 : Int32)) (mz_faN h_x0) (mz_tC_a h_x0) (by decide) rfl d_FR_argumentStart_9 ?_
    refine lv_icmp_ge (tgt := 22) hx hb d_FR_argumentStart_10 (by decide) (fun hc2 => ?_) (fun hc2 => ?_)
    · have hf := mz_t hc2 hf
      refine lv_iconst (v := (0 : Int32)) hx hb d_FR_argumentStart_22 (by decide) ?_
      obtain rfl := Option.some.inj hf
      exact mz_iret E w rfl d_FR_argumentStart_23
    · have hf := mz_f hc2 hf
      refine lv_aload_n hx hb d_FR_argumentStart_13 rfl (lv_at hl 0 rfl) ?_
      refine mz_get E w x0 13 (v := .ref (ad (x0 + 14))) (mz_fN h_x0) (mz_tC_f h_x0) rfl ii_10 (by decide) (Nat.le_of_ble_eq_true rfl) k_297 rfl d_FR_argumentStart_14 ?_
      refine lv_iload_n hx hb d_FR_argumentStart_17 rfl (lv_at hl 1 rfl) ?_
      obtain ⟨hi3, hf⟩ := mz_gd hf
      refine mz_iald E w (x0 + 14) (mz_faN h_x0) (mz_tC_a h_x0) hi3 d_FR_argumentStart_18 ?_
      refine lv_goto (tgt := 23) hx hb d_FR_argumentStart_19 (by decide) ?_
      obtain rfl := Option.some.inj hf
      exact mz_iret E w rfl d_FR_argumentStart_23

/-! MacroHouse$Frame.argumentStop(I)I -/
abbrev r_FR_argumentStop : Room := { frames := 0, cells := 0, slots := 0, locals := 0 }
def f_FR_argumentStop (n : Nat) (x0 : Nat) (x1 : Int32) (t : mz_St) : Option (Int32 × mz_St) := if mz_fr x0 then (if x1 < 0 then (some ((0 : Int32), t)) else (if (6 : Int32) ≤ x1 then (some ((0 : Int32), t)) else (if ¬ (x1 < 0 ∨ 6 ≤ x1.toNatClampNeg) then (some ((mz_gI t (x0 + 28) x1.toNatClampNeg), t)) else none))) else none
set_option maxRecDepth 100000 in
set_option maxHeartbeats 4000000 in
theorem c_FR_argumentStop {SX : State → Heap → Prop} {dC : Nat → ClassId} {dI : Nat → Nat → Nat} {ad en : Nat → Nat} {ca : Nat → ClassId} (hSK : mz_SK SX ad 80) (l : Launch) (n : Nat) (x0 : Nat) (x1 : Int32) (t : mz_St) (res : (Int32 × mz_St)) (hf : f_FR_argumentStop n x0 x1 t = some res) : mz_C SX mz_tC 80 mz_cl dC dI ad en ca l y_FR_argumentStop prog_7_method_5_code 2 (some (.int)) (r_FR_argumentStop) [.ref (ad x0), .int x1] t (some (.int res.1)) res.2 := by
  unfold f_FR_argumentStop at hf
  obtain ⟨h_x0, hf⟩ := mz_gd hf
  refine mz_met hSK (by decide) (Nat.le_of_ble_eq_true rfl) ?_
  intro p e s m args below meth c ls E w hl
  obtain ⟨hx, hb, hml, hown, hcx, -, -, hSX, -, -, -⟩ := id E
  have hl : lv_has ls 2 [(0, .ref (ad x0)), (1, .int x1)] := hl
  refine lv_iload_n hx hb d_FR_argumentStop_0 rfl (lv_at hl 1 rfl) ?_
  refine lv_if_lt (tgt := 22) hx hb d_FR_argumentStop_1 (by decide) (fun hc1 => ?_) (fun hc1 => ?_)
  · have hf := mz_t hc1 hf
    refine lv_iconst (v := (0 : Int32)) hx hb d_FR_argumentStop_22 (by decide) ?_
    obtain rfl := Option.some.inj hf
    exact mz_iret E w rfl d_FR_argumentStop_23
  · have hf := mz_f hc1 hf
    refine lv_iload_n hx hb d_FR_argumentStop_4 rfl (lv_at hl 1 rfl) ?_
    refine lv_aload_n hx hb d_FR_argumentStop_5 rfl (lv_at hl 0 rfl) ?_
    refine mz_get E w x0 14 (v := .ref (ad (x0 + 28))) (mz_fN h_x0) (mz_tC_f h_x0) rfl ii_10 (by decide) (Nat.le_of_ble_eq_true rfl) k_298 rfl d_FR_argumentStop_6 ?_
    refine mz_alen E w (x0 + 28) (v := (6 : Int32)) (mz_fbN h_x0) (mz_tC_b h_x0) (by decide) rfl d_FR_argumentStop_9 ?_
    refine lv_icmp_ge (tgt := 22) hx hb d_FR_argumentStop_10 (by decide) (fun hc2 => ?_) (fun hc2 => ?_)
    · have hf := mz_t hc2 hf
      refine lv_iconst (v := (0 : Int32)) hx hb d_FR_argumentStop_22 (by decide) ?_
      obtain rfl := Option.some.inj hf
      exact mz_iret E w rfl d_FR_argumentStop_23
    · have hf := mz_f hc2 hf
      refine lv_aload_n hx hb d_FR_argumentStop_13 rfl (lv_at hl 0 rfl) ?_
      refine mz_get E w x0 14 (v := .ref (ad (x0 + 28))) (mz_fN h_x0) (mz_tC_f h_x0) rfl ii_10 (by decide) (Nat.le_of_ble_eq_true rfl) k_298 rfl d_FR_argumentStop_14 ?_
      refine lv_iload_n hx hb d_FR_argumentStop_17 rfl (lv_at hl 1 rfl) ?_
      obtain ⟨hi3, hf⟩ := mz_gd hf
      refine mz_iald E w (x0 + 28) (mz_fbN h_x0) (mz_tC_b h_x0) hi3 d_FR_argumentStop_18 ?_
      refine lv_goto (tgt := 23) hx hb d_FR_argumentStop_19 (by decide) ?_
      obtain rfl := Option.some.inj hf
      exact mz_iret E w rfl d_FR_argumentStop_23
