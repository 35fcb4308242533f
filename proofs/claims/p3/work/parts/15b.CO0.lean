/-! MacroHouse$Conditions.isAny()Z -/
abbrev r_CO_isAny : Room := { frames := 0, cells := 0, slots := 0, locals := 0 }
def f_CO_isAny (n : Nat) (t : mz_St) : Option (Int32 × mz_St) := if (mz_gI t 7 5) ≤ 0 then (some ((0 : Int32), t)) else (if (8 : Int32) < (mz_gI t 7 5) then (some ((0 : Int32), t)) else (some ((1 : Int32), t)))
set_option maxRecDepth 100000 in
set_option maxHeartbeats 4000000 in
theorem c_CO_isAny {SX : State → Heap → Prop} {dC : Nat → ClassId} {dI : Nat → Nat → Nat} {ad en : Nat → Nat} {ca : Nat → ClassId} (hSK : mz_SK SX ad 80) (l : Launch) (n : Nat) (t : mz_St) (res : (Int32 × mz_St)) (hf : f_CO_isAny n t = some res) : mz_C SX mz_tC 80 mz_cl dC dI ad en ca l y_CO_isAny prog_3_method_2_code 1 (some (.boolean)) (r_CO_isAny) [.ref (ad 7)] t (some (.int res.1)) res.2 := by
  unfold f_CO_isAny at hf
  refine mz_met hSK (by decide) (Nat.le_of_ble_eq_true rfl) ?_
  intro p e s m args below meth c ls E w hl
  obtain ⟨hx, hb, hml, hown, hcx, -, -, hSX, -, -, -⟩ := id E
  have hl : lv_has ls 1 [(0, .ref (ad 7))] := hl
  refine lv_aload_n hx hb d_CO_isAny_0 rfl (lv_at hl 0 rfl) ?_
  refine mz_get E w 7 5 (v := .int (mz_gI t 7 5)) (by decide) rfl rfl ii_4 (by decide) (Nat.le_of_ble_eq_true rfl) k_78 rfl d_CO_isAny_1 ?_
  refine lv_if_le (tgt := 20) hx hb d_CO_isAny_4 (by decide) (fun hc1 => ?_) (fun hc1 => ?_)
  · have hf := mz_t hc1 hf
    refine lv_iconst (v := (0 : Int32)) hx hb d_CO_isAny_20 (by decide) ?_
    obtain rfl := Option.some.inj hf
    exact mz_zret E w (by decide) rfl d_CO_isAny_21
  · have hf := mz_f hc1 hf
    refine lv_aload_n hx hb d_CO_isAny_7 rfl (lv_at hl 0 rfl) ?_
    refine mz_get E w 7 5 (v := .int (mz_gI t 7 5)) (by decide) rfl rfl ii_4 (by decide) (Nat.le_of_ble_eq_true rfl) k_78 rfl d_CO_isAny_8 ?_
    refine lv_bipush (v := (8 : Int32)) hx hb d_CO_isAny_11 (by decide) ?_
    refine lv_icmp_gt (tgt := 20) hx hb d_CO_isAny_13 (by decide) (fun hc2 => ?_) (fun hc2 => ?_)
    · have hf := mz_t hc2 hf
      refine lv_iconst (v := (0 : Int32)) hx hb d_CO_isAny_20 (by decide) ?_
      obtain rfl := Option.some.inj hf
      exact mz_zret E w (by decide) rfl d_CO_isAny_21
    · have hf := mz_f hc2 hf
      refine lv_iconst (v := (1 : Int32)) hx hb d_CO_isAny_16 (by decide) ?_
      refine lv_goto (tgt := 21) hx hb d_CO_isAny_17 (by decide) ?_
      obtain rfl := Option.some.inj hf
      exact mz_zret E w (by decide) rfl d_CO_isAny_21

/-! MacroHouse$Conditions.lineOfInnermost()I -/
abbrev r_CO_lineOfInnermost : Room := { frames := 1, cells := 0, slots := 0, locals := 20 }
def f_CO_lineOfInnermost (n : Nat) (t : mz_St) : Option (Int32 × mz_St) := (f_CO_isAny n t).bind fun q1 => if q1.1 = 0 then (some ((-1 : Int32), q1.2)) else (if ¬ (((mz_gI q1.2 7 5) - (1 : Int32)) < 0 ∨ 8 ≤ ((mz_gI q1.2 7 5) - (1 : Int32)).toNatClampNeg) then (some ((mz_gI q1.2 12 ((mz_gI q1.2 7 5) - (1 : Int32)).toNatClampNeg), q1.2)) else none)
set_option maxRecDepth 100000 in
set_option maxHeartbeats 4000000 in
theorem c_CO_lineOfInnermost {SX : State → Heap → Prop} {dC : Nat → ClassId} {dI : Nat → Nat → Nat} {ad en : Nat → Nat} {ca : Nat → ClassId} (hSK : mz_SK SX ad 80) (l : Launch) (n : Nat) (t : mz_St) (res : (Int32 × mz_St)) (hf : f_CO_lineOfInnermost n t = some res) : mz_C SX mz_tC 80 mz_cl dC dI ad en ca l y_CO_lineOfInnermost prog_3_method_5_code 1 (some (.int)) (r_CO_lineOfInnermost) [.ref (ad 7)] t (some (.int res.1)) res.2 := by
  unfold f_CO_lineOfInnermost at hf
  refine mz_met hSK (by decide) (Nat.le_of_ble_eq_true rfl) ?_
  intro p e s m args below meth c ls E w hl
  obtain ⟨hx, hb, hml, hown, hcx, -, -, hSX, -, -, -⟩ := id E
  have hl : lv_has ls 1 [(0, .ref (ad 7))] := hl
  refine lv_aload_n hx hb d_CO_lineOfInnermost_0 rfl (lv_at hl 0 rfl) ?_
  obtain ⟨q1, hq2, hf⟩ := mz_bd hf
  refine mz_callV E w (k := 7) (As := []) (rest := []) (c_CO_isAny hSK l n t q1 hq2) (by decide) rfl rfl k_500 k_4 k_497 k_499 ks_3 hm_CO_isAny ⟨⟨rfl, rfl⟩, Nat.le_of_ble_eq_true rfl, Nat.le_of_ble_eq_true rfl⟩ rfl hl.1 rfl (Nat.le_of_ble_eq_true rfl) d_CO_lineOfInnermost_1 ⟨Nat.zero_le _, Nat.zero_le _⟩ (st1 := [.int q1.1]) rfl (fun H locs w => ?_)
  refine lv_if_eq (tgt := 21) hx hb d_CO_lineOfInnermost_4 (by decide) (fun hc3 => ?_) (fun hc3 => ?_)
  · have hf := mz_t hc3 hf
    refine lv_iconst (v := (-1 : Int32)) hx hb d_CO_lineOfInnermost_21 (by decide) ?_
    obtain rfl := Option.some.inj hf
    exact mz_iret E w rfl d_CO_lineOfInnermost_22
  · have hf := mz_f hc3 hf
    refine lv_aload_n hx hb d_CO_lineOfInnermost_7 rfl (lv_at hl 0 rfl) ?_
    refine mz_get E w 7 4 (v := .ref (ad 12)) (by decide) rfl rfl ii_4 (by decide) (Nat.le_of_ble_eq_true rfl) k_77 rfl d_CO_lineOfInnermost_8 ?_
    refine lv_aload_n hx hb d_CO_lineOfInnermost_11 rfl (lv_at hl 0 rfl) ?_
    refine mz_get E w 7 5 (v := .int (mz_gI q1.2 7 5)) (by decide) rfl rfl ii_4 (by decide) (Nat.le_of_ble_eq_true rfl) k_78 rfl d_CO_lineOfInnermost_12 ?_
    refine lv_iconst (v := (1 : Int32)) hx hb d_CO_lineOfInnermost_15 (by decide) ?_
    refine lv_isub hx hb d_CO_lineOfInnermost_16 ?_
    obtain ⟨hi4, hf⟩ := mz_gd hf
    refine mz_iald E w 12 (by decide) rfl hi4 d_CO_lineOfInnermost_17 ?_
    refine lv_goto (tgt := 22) hx hb d_CO_lineOfInnermost_18 (by decide) ?_
    obtain rfl := Option.some.inj hf
    exact mz_iret E w rfl d_CO_lineOfInnermost_22

/-! MacroHouse$Conditions.live()Z -/
abbrev r_CO_live : Room := { frames := 1, cells := 0, slots := 0, locals := 20 }
def f_CO_live_21 (n : Nat) (t : mz_St) : Option (Int32 × mz_St) := some ((1 : Int32), t)
def f_CO_live (n : Nat) (t : mz_St) : Option (Int32 × mz_St) := (f_CO_isAny n t).bind fun q1 => if q1.1 = 0 then (f_CO_live_21 n  q1.2) else (if ¬ (((mz_gI q1.2 7 5) - (1 : Int32)) < 0 ∨ 8 ≤ ((mz_gI q1.2 7 5) - (1 : Int32)).toNatClampNeg) then (if (mz_gI q1.2 9 ((mz_gI q1.2 7 5) - (1 : Int32)).toNatClampNeg) = 0 then (some ((0 : Int32), q1.2)) else (f_CO_live_21 n  q1.2)) else none)
set_option maxRecDepth 100000 in
set_option maxHeartbeats 4000000 in
theorem b_CO_live_21 {SX : State → Heap → Prop} {dC : Nat → ClassId} {dI : Nat → Nat → Nat} {ad en : Nat → Nat} {ca : Nat → ClassId} {p : Program} {l : Launch} {e : Env} {s : State} {m : MethodId} {args : Array Value} {below : List Frame} {meth : Method} {c : Code} {res : (Int32 × mz_St)} (E : mz_En SX 80 mz_cl dC dI ad ca p s m meth c prog_3_method_3_code 1 "MacroHouse$Conditions" (some (.boolean))) (n : Nat) : ∀ (t : mz_St), f_CO_live_21 n t = some res → ∀ (H : Heap) (locs : List Loc) (ls : Array Slot), mz_Wd mz_tC 80 mz_cl dC dI ad en ca s t H locs → lv_has ls 1 [] → W p l e (r_CO_live) s m args below meth c H locs 0 0 (MQ below (mz_Q SX mz_tC 80 mz_cl dC dI ad en ca (some (.int res.1)) res.2) args s 0 0 (mz_A ad 80)) (F0 m 21 ls []) := by
  obtain ⟨hx, hb, hml, hown, hcx, -, -, hSX, -, -, hSK⟩ := id E
  intro t hf H locs ls w hl
  unfold f_CO_live_21 at hf
  refine lv_iconst (v := (1 : Int32)) hx hb d_CO_live_21 (by decide) ?_
  refine lv_goto (tgt := 26) hx hb d_CO_live_22 (by decide) ?_
  obtain rfl := Option.some.inj hf
  exact mz_zret E w (by decide) rfl d_CO_live_26
set_option maxRecDepth 100000 in
set_option maxHeartbeats 4000000 in
theorem c_CO_live {SX : State → Heap → Prop} {dC : Nat → ClassId} {dI : Nat → Nat → Nat} {ad en : Nat → Nat} {ca : Nat → ClassId} (hSK : mz_SK SX ad 80) (l : Launch) (n : Nat) (t : mz_St) (res : (Int32 × mz_St)) (hf : f_CO_live n t = some res) : mz_C SX mz_tC 80 mz_cl dC dI ad en ca l y_CO_live prog_3_method_3_code 1 (some (.boolean)) (r_CO_live) [.ref (ad 7)] t (some (.int res.1)) res.2 := by
  unfold f_CO_live at hf
  refine mz_met hSK (by decide) (Nat.le_of_ble_eq_true rfl) ?_
  intro p e s m args below meth c ls E w hl
  obtain ⟨hx, hb, hml, hown, hcx, -, -, hSX, -, -, -⟩ := id E
  have hl : lv_has ls 1 [(0, .ref (ad 7))] := hl
  refine lv_aload_n hx hb d_CO_live_0 rfl (lv_at hl 0 rfl) ?_
  obtain ⟨q1, hq2, hf⟩ := mz_bd hf
  refine mz_callV E w (k := 7) (As := []) (rest := []) (c_CO_isAny hSK l n t q1 hq2) (by decide) rfl rfl k_500 k_4 k_497 k_499 ks_3 hm_CO_isAny ⟨⟨rfl, rfl⟩, Nat.le_of_ble_eq_true rfl, Nat.le_of_ble_eq_true rfl⟩ rfl hl.1 rfl (Nat.le_of_ble_eq_true rfl) d_CO_live_1 ⟨Nat.zero_le _, Nat.zero_le _⟩ (st1 := [.int q1.1]) rfl (fun H locs w => ?_)
  refine lv_if_eq (tgt := 21) hx hb d_CO_live_4 (by decide) (fun hc3 => ?_) (fun hc3 => ?_)
  · have hf := mz_t hc3 hf
    exact b_CO_live_21 E n  q1.2 hf _ _ _ w (lv_sub hl [] rfl)
  · have hf := mz_f hc3 hf
    refine lv_aload_n hx hb d_CO_live_7 rfl (lv_at hl 0 rfl) ?_
    refine mz_get E w 7 1 (v := .ref (ad 9)) (by decide) rfl rfl ii_4 (by decide) (Nat.le_of_ble_eq_true rfl) k_74 rfl d_CO_live_8 ?_
    refine lv_aload_n hx hb d_CO_live_11 rfl (lv_at hl 0 rfl) ?_
    refine mz_get E w 7 5 (v := .int (mz_gI q1.2 7 5)) (by decide) rfl rfl ii_4 (by decide) (Nat.le_of_ble_eq_true rfl) k_78 rfl d_CO_live_12 ?_
    refine lv_iconst (v := (1 : Int32)) hx hb d_CO_live_15 (by decide) ?_
    refine lv_isub hx hb d_CO_live_16 ?_
    obtain ⟨hi4, hf⟩ := mz_gd hf
    refine mz_zald E w 9 (by decide) rfl hi4 d_CO_live_17 ?_
    refine lv_if_eq (tgt := 25) hx hb d_CO_live_18 (by decide) (fun hc5 => ?_) (fun hc5 => ?_)
    · have hf := mz_t hc5 hf
      refine lv_iconst (v := (0 : Int32)) hx hb d_CO_live_25 (by decide) ?_
      obtain rfl := Option.some.inj hf
      exact mz_zret E w (by decide) rfl d_CO_live_26
    · have hf := mz_f hc5 hf
      exact b_CO_live_21 E n  q1.2 hf _ _ _ w (lv_sub hl [] rfl)

/-! MacroHouse$Conditions.waits()Z -/
abbrev r_CO_waits : Room := { frames := 1, cells := 0, slots := 0, locals := 20 }
def f_CO_waits (n : Nat) (t : mz_St) : Option (Int32 × mz_St) := (f_CO_isAny n t).bind fun q1 => if q1.1 = 0 then (some ((0 : Int32), q1.2)) else (if ¬ (((mz_gI q1.2 7 5) - (1 : Int32)) < 0 ∨ 8 ≤ ((mz_gI q1.2 7 5) - (1 : Int32)).toNatClampNeg) then (if (mz_gI q1.2 8 ((mz_gI q1.2 7 5) - (1 : Int32)).toNatClampNeg) = 0 then (some ((0 : Int32), q1.2)) else (if ¬ (((mz_gI q1.2 7 5) - (1 : Int32)) < 0 ∨ 8 ≤ ((mz_gI q1.2 7 5) - (1 : Int32)).toNatClampNeg) then (if (mz_gI q1.2 10 ((mz_gI q1.2 7 5) - (1 : Int32)).toNatClampNeg) = 0 then (some ((1 : Int32), q1.2)) else (some ((0 : Int32), q1.2))) else none)) else none)
set_option maxRecDepth 100000 in
set_option maxHeartbeats 4000000 in
theorem c_CO_waits {SX : State → Heap → Prop} {dC : Nat → ClassId} {dI : Nat → Nat → Nat} {ad en : Nat → Nat} {ca : Nat → ClassId} (hSK : mz_SK SX ad 80) (l : Launch) (n : Nat) (t : mz_St) (res : (Int32 × mz_St)) (hf : f_CO_waits n t = some res) : mz_C SX mz_tC 80 mz_cl dC dI ad en ca l y_CO_waits prog_3_method_7_code 1 (some (.boolean)) (r_CO_waits) [.ref (ad 7)] t (some (.int res.1)) res.2 := by
  unfold f_CO_waits at hf
  refine mz_met hSK (by decide) (Nat.le_of_ble_eq_true rfl) ?_
  intro p e s m args below meth c ls E w hl
  obtain ⟨hx, hb, hml, hown, hcx, -, -, hSX, -, -, -⟩ := id E
  have hl : lv_has ls 1 [(0, .ref (ad 7))] := hl
  refine lv_aload_n hx hb d_CO_waits_0 rfl (lv_at hl 0 rfl) ?_
  obtain ⟨q1, hq2, hf⟩ := mz_bd hf
  refine mz_callV E w (k := 7) (As := []) (rest := []) (c_CO_isAny hSK l n t q1 hq2) (by decide) rfl rfl k_500 k_4 k_497 k_499 ks_3 hm_CO_isAny ⟨⟨rfl, rfl⟩, Nat.le_of_ble_eq_true rfl, Nat.le_of_ble_eq_true rfl⟩ rfl hl.1 rfl (Nat.le_of_ble_eq_true rfl) d_CO_waits_1 ⟨Nat.zero_le _, Nat.zero_le _⟩ (st1 := [.int q1.1]) rfl (fun H locs w => ?_)
  refine lv_if_eq (tgt := 39) hx hb d_CO_waits_4 (by decide) (fun hc3 => ?_) (fun hc3 => ?_)
  · have hf := mz_t hc3 hf
    refine lv_iconst (v := (0 : Int32)) hx hb d_CO_waits_39 (by decide) ?_
    obtain rfl := Option.some.inj hf
    exact mz_zret E w (by decide) rfl d_CO_waits_40
  · have hf := mz_f hc3 hf
    refine lv_aload_n hx hb d_CO_waits_7 rfl (lv_at hl 0 rfl) ?_
    refine mz_get E w 7 0 (v := .ref (ad 8)) (by decide) rfl rfl ii_4 (by decide) (Nat.le_of_ble_eq_true rfl) k_73 rfl d_CO_waits_8 ?_
    refine lv_aload_n hx hb d_CO_waits_11 rfl (lv_at hl 0 rfl) ?_
    refine mz_get E w 7 5 (v := .int (mz_gI q1.2 7 5)) (by decide) rfl rfl ii_4 (by decide) (Nat.le_of_ble_eq_true rfl) k_78 rfl d_CO_waits_12 ?_
    refine lv_iconst (v := (1 : Int32)) hx hb d_CO_waits_15 (by decide) ?_
    refine lv_isub hx hb d_CO_waits_16 ?_
    obtain ⟨hi4, hf⟩ := mz_gd hf
    refine mz_zald E w 8 (by decide) rfl hi4 d_CO_waits_17 ?_
    refine lv_if_eq (tgt := 39) hx hb d_CO_waits_18 (by decide) (fun hc5 => ?_) (fun hc5 => ?_)
    · have hf := mz_t hc5 hf
      refine lv_iconst (v := (0 : Int32)) hx hb d_CO_waits_39 (by decide) ?_
      obtain rfl := Option.some.inj hf
      exact mz_zret E w (by decide) rfl d_CO_waits_40
    · have hf := mz_f hc5 hf
      refine lv_aload_n hx hb d_CO_waits_21 rfl (lv_at hl 0 rfl) ?_
      refine mz_get E w 7 2 (v := .ref (ad 10)) (by decide) rfl rfl ii_4 (by decide) (Nat.le_of_ble_eq_true rfl) k_75 rfl d_CO_waits_22 ?_
      refine lv_aload_n hx hb d_CO_waits_25 rfl (lv_at hl 0 rfl) ?_
      refine mz_get E w 7 5 (v := .int (mz_gI q1.2 7 5)) (by decide) rfl rfl ii_4 (by decide) (Nat.le_of_ble_eq_true rfl) k_78 rfl d_CO_waits_26 ?_
      refine lv_iconst (v := (1 : Int32)) hx hb d_CO_waits_29 (by decide) ?_
      refine lv_isub hx hb d_CO_waits_30 ?_
      obtain ⟨hi6, hf⟩ := mz_gd hf
      refine mz_zald E w 10 (by decide) rfl hi6 d_CO_waits_31 ?_
      refine lv_if_ne (tgt := 39) hx hb d_CO_waits_32 (by decide) (fun hc7 => ?_) (fun hc7 => ?_)
      · have hf := mz_f hc7 hf
        refine lv_iconst (v := (0 : Int32)) hx hb d_CO_waits_39 (by decide) ?_
        obtain rfl := Option.some.inj hf
        exact mz_zret E w (by decide) rfl d_CO_waits_40
      · have hf := mz_t hc7 hf
        refine lv_iconst (v := (1 : Int32)) hx hb d_CO_waits_35 (by decide) ?_
        refine lv_goto (tgt := 40) hx hb d_CO_waits_36 (by decide) ?_
        obtain rfl := Option.some.inj hf
        exact mz_zret E w (by decide) rfl d_CO_waits_40

/-! MacroHouse$Conditions.open(ZZI)Z -/
abbrev r_CO_open : Room := { frames := 0, cells := 0, slots := 0, locals := 0 }
def f_CO_open_71 (n : Nat) (x3 : Int32) (s1 : Int32) (s2 : Int32) (t : mz_St) : Option (Int32 × mz_St) := if ¬ (s1 < 0 ∨ 8 ≤ s1.toNatClampNeg) then (mz_let (mz_pI t 10 s1.toNatClampNeg (vp_nar .boolean s2)) fun t10 => if ¬ ((mz_gI t10 7 5) < 0 ∨ 8 ≤ (mz_gI t10 7 5).toNatClampNeg) then (mz_let (mz_pI t10 11 (mz_gI t10 7 5).toNatClampNeg (vp_nar .boolean (0 : Int32))) fun t12 => if ¬ ((mz_gI t12 7 5) < 0 ∨ 8 ≤ (mz_gI t12 7 5).toNatClampNeg) then (mz_let (mz_pI t12 12 (mz_gI t12 7 5).toNatClampNeg x3) fun t14 => mz_let (mz_pI t14 7 5 ((mz_gI t14 7 5) + (1 : Int32))) fun t15 => some ((1 : Int32), t15)) else none) else none) else none
def f_CO_open_70 (n : Nat) (x3 : Int32) (s1 : Int32) (t : mz_St) : Option (Int32 × mz_St) := f_CO_open_71 n x3 s1 (0 : Int32) t
def f_CO_open_49 (n : Nat) (x1 : Int32) (x2 : Int32) (x3 : Int32) (s1 : Int32) (s2 : Int32) (t : mz_St) : Option (Int32 × mz_St) := if ¬ (s1 < 0 ∨ 8 ≤ s1.toNatClampNeg) then (mz_let (mz_pI t 9 s1.toNatClampNeg (vp_nar .boolean s2)) fun t7 => if x1 = 0 then (f_CO_open_70 n x3 (mz_gI t7 7 5) t7) else (if x2 = 0 then (f_CO_open_70 n x3 (mz_gI t7 7 5) t7) else (f_CO_open_71 n x3 (mz_gI t7 7 5) (1 : Int32) t7))) else none
def f_CO_open_48 (n : Nat) (x1 : Int32) (x2 : Int32) (x3 : Int32) (s1 : Int32) (t : mz_St) : Option (Int32 × mz_St) := f_CO_open_49 n x1 x2 x3 s1 (0 : Int32) t
def f_CO_open (n : Nat) (x1 : Int32) (x2 : Int32) (x3 : Int32) (t : mz_St) : Option (Int32 × mz_St) := if (mz_gI t 7 5) < 0 then (some ((0 : Int32), t)) else (if (mz_gI t 7 5) < (8 : Int32) then (if ¬ ((mz_gI t 7 5) < 0 ∨ 8 ≤ (mz_gI t 7 5).toNatClampNeg) then (mz_let (mz_pI t 8 (mz_gI t 7 5).toNatClampNeg (vp_nar .boolean x1)) fun t4 => if x1 = 0 then (f_CO_open_48 n x1 x2 x3 (mz_gI t4 7 5) t4) else (if x2 = 0 then (f_CO_open_48 n x1 x2 x3 (mz_gI t4 7 5) t4) else (f_CO_open_49 n x1 x2 x3 (mz_gI t4 7 5) (1 : Int32) t4))) else none) else (some ((0 : Int32), t)))
set_option maxRecDepth 100000 in
set_option maxHeartbeats 4000000 in
theorem b_CO_open_71 {SX : State → Heap → Prop} {dC : Nat → ClassId} {dI : Nat → Nat → Nat} {ad en : Nat → Nat} {ca : Nat → ClassId} {p : Program} {l : Launch} {e : Env} {s : State} {m : MethodId} {args : Array Value} {below : List Frame} {meth : Method} {c : Code} {res : (Int32 × mz_St)} (E : mz_En SX 80 mz_cl dC dI ad ca p s m meth c prog_3_method_4_code 4 "MacroHouse$Conditions" (some (.boolean))) (n : Nat) : ∀ (x3 : Int32) (s1 : Int32) (s2 : Int32) (t : mz_St), f_CO_open_71 n x3 s1 s2 t = some res → ∀ (H : Heap) (locs : List Loc) (ls : Array Slot), mz_Wd mz_tC 80 mz_cl dC dI ad en ca s t H locs → lv_has ls 4 [(0, .ref (ad 7)), (3, .int x3)] → W p l e (r_CO_open) s m args below meth c H locs 0 0 (MQ below (mz_Q SX mz_tC 80 mz_cl dC dI ad en ca (some (.int res.1)) res.2) args s 0 0 (mz_A ad 80)) (F0 m 71 ls [.int s2, .int s1, .ref (ad 10)]) := by
  obtain ⟨hx, hb, hml, hown, hcx, -, -, hSX, -, -, hSK⟩ := id E
  intro x3 s1 s2 t hf H locs ls w hl
  unfold f_CO_open_71 at hf
  obtain ⟨hi9, hf⟩ := mz_gd hf
  refine mz_zast E w 10 (x := s2) (by decide) rfl hi9 d_CO_open_71 (fun H locs w => ?_)
  obtain ⟨t10, e_t10, hf⟩ := mz_lt hf
  rw [← e_t10] at w
  refine lv_aload_n hx hb d_CO_open_72 rfl (lv_at hl 0 rfl) ?_
  refine mz_get E w 7 3 (v := .ref (ad 11)) (by decide) rfl rfl ii_4 (by decide) (Nat.le_of_ble_eq_true rfl) k_76 rfl d_CO_open_73 ?_
  refine lv_aload_n hx hb d_CO_open_76 rfl (lv_at hl 0 rfl) ?_
  refine mz_get E w 7 5 (v := .int (mz_gI t10 7 5)) (by decide) rfl rfl ii_4 (by decide) (Nat.le_of_ble_eq_true rfl) k_78 rfl d_CO_open_77 ?_
  refine lv_iconst (v := (0 : Int32)) hx hb d_CO_open_80 (by decide) ?_
  obtain ⟨hi11, hf⟩ := mz_gd hf
  refine mz_zast E w 11 (x := (0 : Int32)) (by decide) rfl hi11 d_CO_open_81 (fun H locs w => ?_)
  obtain ⟨t12, e_t12, hf⟩ := mz_lt hf
  rw [← e_t12] at w
  refine lv_aload_n hx hb d_CO_open_82 rfl (lv_at hl 0 rfl) ?_
  refine mz_get E w 7 4 (v := .ref (ad 12)) (by decide) rfl rfl ii_4 (by decide) (Nat.le_of_ble_eq_true rfl) k_77 rfl d_CO_open_83 ?_
  refine lv_aload_n hx hb d_CO_open_86 rfl (lv_at hl 0 rfl) ?_
  refine mz_get E w 7 5 (v := .int (mz_gI t12 7 5)) (by decide) rfl rfl ii_4 (by decide) (Nat.le_of_ble_eq_true rfl) k_78 rfl d_CO_open_87 ?_
  refine lv_iload_n hx hb d_CO_open_90 rfl (lv_at hl 1 rfl) ?_
  obtain ⟨hi13, hf⟩ := mz_gd hf
  refine mz_iast E w 12 (x := x3) (by decide) rfl hi13 d_CO_open_91 (fun H locs w => ?_)
  obtain ⟨t14, e_t14, hf⟩ := mz_lt hf
  rw [← e_t14] at w
  refine lv_aload_n hx hb d_CO_open_92 rfl (lv_at hl 0 rfl) ?_
  refine lv_dup hx hb d_CO_open_93 rfl ?_
  refine mz_get E w 7 5 (v := .int (mz_gI t14 7 5)) (by decide) rfl rfl ii_4 (by decide) (Nat.le_of_ble_eq_true rfl) k_78 rfl d_CO_open_94 ?_
  refine lv_iconst (v := (1 : Int32)) hx hb d_CO_open_97 (by decide) ?_
  refine lv_iadd hx hb d_CO_open_98 ?_
  refine mz_put E w 7 5 (v := ((mz_gI t14 7 5) + (1 : Int32))) (by decide) rfl rfl ii_4 tk_4 nm_4 (by decide) (Nat.le_of_ble_eq_true rfl) k_78 rfl (tk_4 5 (by decide)) rfl rfl rfl d_CO_open_99 (fun H locs w => ?_)
  obtain ⟨t15, e_t15, hf⟩ := mz_lt hf
  rw [← e_t15] at w
  refine lv_iconst (v := (1 : Int32)) hx hb d_CO_open_102 (by decide) ?_
  obtain rfl := Option.some.inj hf
  exact mz_zret E w (by decide) rfl d_CO_open_103
set_option maxRecDepth 100000 in
set_option maxHeartbeats 4000000 in
theorem b_CO_open_70 {SX : State → Heap → Prop} {dC : Nat → ClassId} {dI : Nat → Nat → Nat} {ad en : Nat → Nat} {ca : Nat → ClassId} {p : Program} {l : Launch} {e : Env} {s : State} {m : MethodId} {args : Array Value} {below : List Frame} {meth : Method} {c : Code} {res : (Int32 × mz_St)} (E : mz_En SX 80 mz_cl dC dI ad ca p s m meth c prog_3_method_4_code 4 "MacroHouse$Conditions" (some (.boolean))) (n : Nat) : ∀ (x3 : Int32) (s1 : Int32) (t : mz_St), f_CO_open_70 n x3 s1 t = some res → ∀ (H : Heap) (locs : List Loc) (ls : Array Slot), mz_Wd mz_tC 80 mz_cl dC dI ad en ca s t H locs → lv_has ls 4 [(0, .ref (ad 7)), (3, .int x3)] → W p l e (r_CO_open) s m args below meth c H locs 0 0 (MQ below (mz_Q SX mz_tC 80 mz_cl dC dI ad en ca (some (.int res.1)) res.2) args s 0 0 (mz_A ad 80)) (F0 m 70 ls [.int s1, .ref (ad 10)]) := by
  obtain ⟨hx, hb, hml, hown, hcx, -, -, hSX, -, -, hSK⟩ := id E
  intro x3 s1 t hf H locs ls w hl
  unfold f_CO_open_70 at hf
  refine lv_iconst (v := (0 : Int32)) hx hb d_CO_open_70 (by decide) ?_
  exact b_CO_open_71 E n x3 s1 (0 : Int32) t hf _ _ _ w (lv_sub hl [0, 1] rfl)
set_option maxRecDepth 100000 in
set_option maxHeartbeats 4000000 in
theorem b_CO_open_49 {SX : State → Heap → Prop} {dC : Nat → ClassId} {dI : Nat → Nat → Nat} {ad en : Nat → Nat} {ca : Nat → ClassId} {p : Program} {l : Launch} {e : Env} {s : State} {m : MethodId} {args : Array Value} {below : List Frame} {meth : Method} {c : Code} {res : (Int32 × mz_St)} (E : mz_En SX 80 mz_cl dC dI ad ca p s m meth c prog_3_method_4_code 4 "MacroHouse$Conditions" (some (.boolean))) (n : Nat) : ∀ (x1 : Int32) (x2 : Int32) (x3 : Int32) (s1 : Int32) (s2 : Int32) (t : mz_St), f_CO_open_49 n x1 x2 x3 s1 s2 t = some res → ∀ (H : Heap) (locs : List Loc) (ls : Array Slot), mz_Wd mz_tC 80 mz_cl dC dI ad en ca s t H locs → lv_has ls 4 [(0, .ref (ad 7)), (1, .int x1), (2, .int x2), (3, .int x3)] → W p l e (r_CO_open) s m args below meth c H locs 0 0 (MQ below (mz_Q SX mz_tC 80 mz_cl dC dI ad en ca (some (.int res.1)) res.2) args s 0 0 (mz_A ad 80)) (F0 m 49 ls [.int s2, .int s1, .ref (ad 9)]) := by
  obtain ⟨hx, hb, hml, hown, hcx, -, -, hSX, -, -, hSK⟩ := id E
  intro x1 x2 x3 s1 s2 t hf H locs ls w hl
  unfold f_CO_open_49 at hf
  obtain ⟨hi6, hf⟩ := mz_gd hf
  refine mz_zast E w 9 (x := s2) (by decide) rfl hi6 d_CO_open_49 (fun H locs w => ?_)
  obtain ⟨t7, e_t7, hf⟩ := mz_lt hf
  rw [← e_t7] at w
  refine lv_aload_n hx hb d_CO_open_50 rfl (lv_at hl 0 rfl) ?_
  refine mz_get E w 7 2 (v := .ref (ad 10)) (by decide) rfl rfl ii_4 (by decide) (Nat.le_of_ble_eq_true rfl) k_75 rfl d_CO_open_51 ?_
  refine lv_aload_n hx hb d_CO_open_54 rfl (lv_at hl 0 rfl) ?_
  refine mz_get E w 7 5 (v := .int (mz_gI t7 7 5)) (by decide) rfl rfl ii_4 (by decide) (Nat.le_of_ble_eq_true rfl) k_78 rfl d_CO_open_55 ?_
  refine lv_iload_n hx hb d_CO_open_58 rfl (lv_at hl 1 rfl) ?_
  refine lv_if_eq (tgt := 70) hx hb d_CO_open_59 (by decide) (fun hc8 => ?_) (fun hc8 => ?_)
  · have hf := mz_t hc8 hf
    exact b_CO_open_70 E n x3 (mz_gI t7 7 5) t7 hf _ _ _ w (lv_sub hl [0, 3] rfl)
  · have hf := mz_f hc8 hf
    refine lv_iload_n hx hb d_CO_open_62 rfl (lv_at hl 2 rfl) ?_
    refine lv_if_eq (tgt := 70) hx hb d_CO_open_63 (by decide) (fun hc16 => ?_) (fun hc16 => ?_)
    · have hf := mz_t hc16 hf
      exact b_CO_open_70 E n x3 (mz_gI t7 7 5) t7 hf _ _ _ w (lv_sub hl [0, 3] rfl)
    · have hf := mz_f hc16 hf
      refine lv_iconst (v := (1 : Int32)) hx hb d_CO_open_66 (by decide) ?_
      refine lv_goto (tgt := 71) hx hb d_CO_open_67 (by decide) ?_
      exact b_CO_open_71 E n x3 (mz_gI t7 7 5) (1 : Int32) t7 hf _ _ _ w (lv_sub hl [0, 3] rfl)
set_option maxRecDepth 100000 in
set_option maxHeartbeats 4000000 in
theorem b_CO_open_48 {SX : State → Heap → Prop} {dC : Nat → ClassId} {dI : Nat → Nat → Nat} {ad en : Nat → Nat} {ca : Nat → ClassId} {p : Program} {l : Launch} {e : Env} {s : State} {m : MethodId} {args : Array Value} {below : List Frame} {meth : Method} {c : Code} {res : (Int32 × mz_St)} (E : mz_En SX 80 mz_cl dC dI ad ca p s m meth c prog_3_method_4_code 4 "MacroHouse$Conditions" (some (.boolean))) (n : Nat) : ∀ (x1 : Int32) (x2 : Int32) (x3 : Int32) (s1 : Int32) (t : mz_St), f_CO_open_48 n x1 x2 x3 s1 t = some res → ∀ (H : Heap) (locs : List Loc) (ls : Array Slot), mz_Wd mz_tC 80 mz_cl dC dI ad en ca s t H locs → lv_has ls 4 [(0, .ref (ad 7)), (1, .int x1), (2, .int x2), (3, .int x3)] → W p l e (r_CO_open) s m args below meth c H locs 0 0 (MQ below (mz_Q SX mz_tC 80 mz_cl dC dI ad en ca (some (.int res.1)) res.2) args s 0 0 (mz_A ad 80)) (F0 m 48 ls [.int s1, .ref (ad 9)]) := by
  obtain ⟨hx, hb, hml, hown, hcx, -, -, hSX, -, -, hSK⟩ := id E
  intro x1 x2 x3 s1 t hf H locs ls w hl
  unfold f_CO_open_48 at hf
  refine lv_iconst (v := (0 : Int32)) hx hb d_CO_open_48 (by decide) ?_
  exact b_CO_open_49 E n x1 x2 x3 s1 (0 : Int32) t hf _ _ _ w (lv_sub hl [0, 1, 2, 3] rfl)
set_option maxRecDepth 100000 in
set_option maxHeartbeats 4000000 in
theorem c_CO_open {SX : State → Heap → Prop} {dC : Nat → ClassId} {dI : Nat → Nat → Nat} {ad en : Nat → Nat} {ca : Nat → ClassId} (hSK : mz_SK SX ad 80) (l : Launch) (n : Nat) (x1 : Int32) (x2 : Int32) (x3 : Int32) (t : mz_St) (res : (Int32 × mz_St)) (hf : f_CO_open n x1 x2 x3 t = some res) : mz_C SX mz_tC 80 mz_cl dC dI ad en ca l y_CO_open prog_3_method_4_code 4 (some (.boolean)) (r_CO_open) [.ref (ad 7), .int x1, .int x2, .int x3] t (some (.int res.1)) res.2 := by
  unfold f_CO_open at hf
  refine mz_met hSK (by decide) (Nat.le_of_ble_eq_true rfl) ?_
  intro p e s m args below meth c ls E w hl
  obtain ⟨hx, hb, hml, hown, hcx, -, -, hSX, -, -, -⟩ := id E
  have hl : lv_has ls 4 [(0, .ref (ad 7)), (1, .int x1), (2, .int x2), (3, .int x3)] := hl
  refine lv_aload_n hx hb d_CO_open_0 rfl (lv_at hl 0 rfl) ?_
  refine mz_get E w 7 5 (v := .int (mz_gI t 7 5)) (by decide) rfl rfl ii_4 (by decide) (Nat.le_of_ble_eq_true rfl) k_78 rfl d_CO_open_1 ?_
  refine lv_if_lt (tgt := 16) hx hb d_CO_open_4 (by decide) (fun hc1 => ?_) (fun hc1 => ?_)
  · have hf := mz_t hc1 hf
    refine lv_iconst (v := (0 : Int32)) hx hb d_CO_open_16 (by decide) ?_
    obtain rfl := Option.some.inj hf
    exact mz_zret E w (by decide) rfl d_CO_open_17
  · have hf := mz_f hc1 hf
    refine lv_aload_n hx hb d_CO_open_7 rfl (lv_at hl 0 rfl) ?_
    refine mz_get E w 7 5 (v := .int (mz_gI t 7 5)) (by decide) rfl rfl ii_4 (by decide) (Nat.le_of_ble_eq_true rfl) k_78 rfl d_CO_open_8 ?_
    refine lv_bipush (v := (8 : Int32)) hx hb d_CO_open_11 (by decide) ?_
    refine lv_icmp_lt (tgt := 18) hx hb d_CO_open_13 (by decide) (fun hc2 => ?_) (fun hc2 => ?_)
    · have hf := mz_t hc2 hf
      refine lv_aload_n hx hb d_CO_open_18 rfl (lv_at hl 0 rfl) ?_
      refine mz_get E w 7 0 (v := .ref (ad 8)) (by decide) rfl rfl ii_4 (by decide) (Nat.le_of_ble_eq_true rfl) k_73 rfl d_CO_open_19 ?_
      refine lv_aload_n hx hb d_CO_open_22 rfl (lv_at hl 0 rfl) ?_
      refine mz_get E w 7 5 (v := .int (mz_gI t 7 5)) (by decide) rfl rfl ii_4 (by decide) (Nat.le_of_ble_eq_true rfl) k_78 rfl d_CO_open_23 ?_
      refine lv_iload_n hx hb d_CO_open_26 rfl (lv_at hl 1 rfl) ?_
      obtain ⟨hi3, hf⟩ := mz_gd hf
      refine mz_zast E w 8 (x := x1) (by decide) rfl hi3 d_CO_open_27 (fun H locs w => ?_)
      obtain ⟨t4, e_t4, hf⟩ := mz_lt hf
      rw [← e_t4] at w
      refine lv_aload_n hx hb d_CO_open_28 rfl (lv_at hl 0 rfl) ?_
      refine mz_get E w 7 1 (v := .ref (ad 9)) (by decide) rfl rfl ii_4 (by decide) (Nat.le_of_ble_eq_true rfl) k_74 rfl d_CO_open_29 ?_
      refine lv_aload_n hx hb d_CO_open_32 rfl (lv_at hl 0 rfl) ?_
      refine mz_get E w 7 5 (v := .int (mz_gI t4 7 5)) (by decide) rfl rfl ii_4 (by decide) (Nat.le_of_ble_eq_true rfl) k_78 rfl d_CO_open_33 ?_
      refine lv_iload_n hx hb d_CO_open_36 rfl (lv_at hl 1 rfl) ?_
      refine lv_if_eq (tgt := 48) hx hb d_CO_open_37 (by decide) (fun hc5 => ?_) (fun hc5 => ?_)
      · have hf := mz_t hc5 hf
        exact b_CO_open_48 E n x1 x2 x3 (mz_gI t4 7 5) t4 hf _ _ _ w (lv_sub hl [0, 1, 2, 3] rfl)
      · have hf := mz_f hc5 hf
        refine lv_iload_n hx hb d_CO_open_40 rfl (lv_at hl 2 rfl) ?_
        refine lv_if_eq (tgt := 48) hx hb d_CO_open_41 (by decide) (fun hc17 => ?_) (fun hc17 => ?_)
        · have hf := mz_t hc17 hf
          exact b_CO_open_48 E n x1 x2 x3 (mz_gI t4 7 5) t4 hf _ _ _ w (lv_sub hl [0, 1, 2, 3] rfl)
        · have hf := mz_f hc17 hf
          refine lv_iconst (v := (1 : Int32)) hx hb d_CO_open_44 (by decide) ?_
          refine lv_goto (tgt := 49) hx hb d_CO_open_45 (by decide) ?_
          exact b_CO_open_49 E n x1 x2 x3 (mz_gI t4 7 5) (1 : Int32) t4 hf _ _ _ w (lv_sub hl [0, 1, 2, 3] rfl)
    · have hf := mz_f hc2 hf
      refine lv_iconst (v := (0 : Int32)) hx hb d_CO_open_16 (by decide) ?_
      obtain rfl := Option.some.inj hf
      exact mz_zret E w (by decide) rfl d_CO_open_17

/-! MacroHouse$Conditions.isBehindElse()Z -/
abbrev r_CO_isBehindElse : Room := { frames := 1, cells := 0, slots := 0, locals := 20 }
def f_CO_isBehindElse (n : Nat) (t : mz_St) : Option (Int32 × mz_St) := (f_CO_isAny n t).bind fun q1 => if q1.1 = 0 then (some ((0 : Int32), q1.2)) else (if ¬ (((mz_gI q1.2 7 5) - (1 : Int32)) < 0 ∨ 8 ≤ ((mz_gI q1.2 7 5) - (1 : Int32)).toNatClampNeg) then (if (mz_gI q1.2 11 ((mz_gI q1.2 7 5) - (1 : Int32)).toNatClampNeg) = 0 then (some ((0 : Int32), q1.2)) else (some ((1 : Int32), q1.2))) else none)
set_option maxRecDepth 100000 in
set_option maxHeartbeats 4000000 in
theorem c_CO_isBehindElse {SX : State → Heap → Prop} {dC : Nat → ClassId} {dI : Nat → Nat → Nat} {ad en : Nat → Nat} {ca : Nat → ClassId} (hSK : mz_SK SX ad 80) (l : Launch) (n : Nat) (t : mz_St) (res : (Int32 × mz_St)) (hf : f_CO_isBehindElse n t = some res) : mz_C SX mz_tC 80 mz_cl dC dI ad en ca l y_CO_isBehindElse prog_3_method_6_code 1 (some (.boolean)) (r_CO_isBehindElse) [.ref (ad 7)] t (some (.int res.1)) res.2 := by
  unfold f_CO_isBehindElse at hf
  refine mz_met hSK (by decide) (Nat.le_of_ble_eq_true rfl) ?_
  intro p e s m args below meth c ls E w hl
  obtain ⟨hx, hb, hml, hown, hcx, -, -, hSX, -, -, -⟩ := id E
  have hl : lv_has ls 1 [(0, .ref (ad 7))] := hl
  refine lv_aload_n hx hb d_CO_isBehindElse_0 rfl (lv_at hl 0 rfl) ?_
  obtain ⟨q1, hq2, hf⟩ := mz_bd hf
  refine mz_callV E w (k := 7) (As := []) (rest := []) (c_CO_isAny hSK l n t q1 hq2) (by decide) rfl rfl k_500 k_4 k_497 k_499 ks_3 hm_CO_isAny ⟨⟨rfl, rfl⟩, Nat.le_of_ble_eq_true rfl, Nat.le_of_ble_eq_true rfl⟩ rfl hl.1 rfl (Nat.le_of_ble_eq_true rfl) d_CO_isBehindElse_1 ⟨Nat.zero_le _, Nat.zero_le _⟩ (st1 := [.int q1.1]) rfl (fun H locs w => ?_)
  refine lv_if_eq (tgt := 25) hx hb d_CO_isBehindElse_4 (by decide) (fun hc3 => ?_) (fun hc3 => ?_)
  · have hf := mz_t hc3 hf
    refine lv_iconst (v := (0 : Int32)) hx hb d_CO_isBehindElse_25 (by decide) ?_
    obtain rfl := Option.some.inj hf
    exact mz_zret E w (by decide) rfl d_CO_isBehindElse_26
  · have hf := mz_f hc3 hf
    refine lv_aload_n hx hb d_CO_isBehindElse_7 rfl (lv_at hl 0 rfl) ?_
    refine mz_get E w 7 3 (v := .ref (ad 11)) (by decide) rfl rfl ii_4 (by decide) (Nat.le_of_ble_eq_true rfl) k_76 rfl d_CO_isBehindElse_8 ?_
    refine lv_aload_n hx hb d_CO_isBehindElse_11 rfl (lv_at hl 0 rfl) ?_
    refine mz_get E w 7 5 (v := .int (mz_gI q1.2 7 5)) (by decide) rfl rfl ii_4 (by decide) (Nat.le_of_ble_eq_true rfl) k_78 rfl d_CO_isBehindElse_12 ?_
    refine lv_iconst (v := (1 : Int32)) hx hb d_CO_isBehindElse_15 (by decide) ?_
    refine lv_isub hx hb d_CO_isBehindElse_16 ?_
    obtain ⟨hi4, hf⟩ := mz_gd hf
    refine mz_zald E w 11 (by decide) rfl hi4 d_CO_isBehindElse_17 ?_
    refine lv_if_eq (tgt := 25) hx hb d_CO_isBehindElse_18 (by decide) (fun hc5 => ?_) (fun hc5 => ?_)
    · have hf := mz_t hc5 hf
      refine lv_iconst (v := (0 : Int32)) hx hb d_CO_isBehindElse_25 (by decide) ?_
      obtain rfl := Option.some.inj hf
      exact mz_zret E w (by decide) rfl d_CO_isBehindElse_26
    · have hf := mz_f hc5 hf
      refine lv_iconst (v := (1 : Int32)) hx hb d_CO_isBehindElse_21 (by decide) ?_
      refine lv_goto (tgt := 26) hx hb d_CO_isBehindElse_22 (by decide) ?_
      obtain rfl := Option.some.inj hf
      exact mz_zret E w (by decide) rfl d_CO_isBehindElse_26

/-! MacroHouse$Conditions.nextPart(Z)V -/
abbrev r_CO_nextPart : Room := { frames := 2, cells := 0, slots := 0, locals := 40 }
def f_CO_nextPart_72 (n : Nat) (s1 : Int32) (t : mz_St) : Option mz_St := if ¬ (s1 < 0 ∨ 8 ≤ s1.toNatClampNeg) then (mz_let (mz_pI t 10 s1.toNatClampNeg (vp_nar .boolean (1 : Int32))) fun t10 => some t10) else none
def f_CO_nextPart_33 (n : Nat) (s1 : Int32) (s2 : Int32) (t : mz_St) : Option mz_St := if ¬ (s1 < 0 ∨ 8 ≤ s1.toNatClampNeg) then (mz_let (mz_pI t 9 s1.toNatClampNeg (vp_nar .boolean s2)) fun t6 => if ¬ (((mz_gI t6 7 5) - (1 : Int32)) < 0 ∨ 8 ≤ ((mz_gI t6 7 5) - (1 : Int32)).toNatClampNeg) then (if (mz_gI t6 10 ((mz_gI t6 7 5) - (1 : Int32)).toNatClampNeg) = 0 then (if ¬ (((mz_gI t6 7 5) - (1 : Int32)) < 0 ∨ 8 ≤ ((mz_gI t6 7 5) - (1 : Int32)).toNatClampNeg) then (if (mz_gI t6 9 ((mz_gI t6 7 5) - (1 : Int32)).toNatClampNeg) = 0 then (if ¬ (((mz_gI t6 7 5) - (1 : Int32)) < 0 ∨ 8 ≤ ((mz_gI t6 7 5) - (1 : Int32)).toNatClampNeg) then (mz_let (mz_pI t6 10 ((mz_gI t6 7 5) - (1 : Int32)).toNatClampNeg (vp_nar .boolean (0 : Int32))) fun t14 => some t14) else none) else (f_CO_nextPart_72 n ((mz_gI t6 7 5) - (1 : Int32)) t6)) else none) else (f_CO_nextPart_72 n ((mz_gI t6 7 5) - (1 : Int32)) t6)) else none) else none
def f_CO_nextPart_32 (n : Nat) (s1 : Int32) (t : mz_St) : Option mz_St := f_CO_nextPart_33 n s1 (0 : Int32) t
def f_CO_nextPart (n : Nat) (x1 : Int32) (t : mz_St) : Option mz_St := (f_CO_isAny n t).bind fun q1 => if q1.1 = 0 then (some q1.2) else (if x1 = 0 then (f_CO_nextPart_32 n ((mz_gI q1.2 7 5) - (1 : Int32)) q1.2) else ((f_CO_waits n q1.2).bind fun q15 => if q15.1 = 0 then (f_CO_nextPart_32 n ((mz_gI q1.2 7 5) - (1 : Int32)) q15.2) else (f_CO_nextPart_33 n ((mz_gI q1.2 7 5) - (1 : Int32)) (1 : Int32) q15.2)))
set_option maxRecDepth 100000 in
set_option maxHeartbeats 4000000 in
theorem b_CO_nextPart_72 {SX : State → Heap → Prop} {dC : Nat → ClassId} {dI : Nat → Nat → Nat} {ad en : Nat → Nat} {ca : Nat → ClassId} {p : Program} {l : Launch} {e : Env} {s : State} {m : MethodId} {args : Array Value} {below : List Frame} {meth : Method} {c : Code} {res : mz_St} (E : mz_En SX 80 mz_cl dC dI ad ca p s m meth c prog_3_method_8_code 2 "MacroHouse$Conditions" none) (n : Nat) : ∀ (s1 : Int32) (t : mz_St), f_CO_nextPart_72 n s1 t = some res → ∀ (H : Heap) (locs : List Loc) (ls : Array Slot), mz_Wd mz_tC 80 mz_cl dC dI ad en ca s t H locs → lv_has ls 2 [] → W p l e (r_CO_nextPart) s m args below meth c H locs 0 0 (MQ below (mz_Q SX mz_tC 80 mz_cl dC dI ad en ca none res) args s 0 0 (mz_A ad 80)) (F0 m 72 ls [.int s1, .ref (ad 10)]) := by
  obtain ⟨hx, hb, hml, hown, hcx, -, -, hSX, -, -, hSK⟩ := id E
  intro s1 t hf H locs ls w hl
  unfold f_CO_nextPart_72 at hf
  refine lv_iconst (v := (1 : Int32)) hx hb d_CO_nextPart_72 (by decide) ?_
  refine lv_goto (tgt := 77) hx hb d_CO_nextPart_73 (by decide) ?_
  obtain ⟨hi9, hf⟩ := mz_gd hf
  refine mz_zast E w 10 (x := (1 : Int32)) (by decide) rfl hi9 d_CO_nextPart_77 (fun H locs w => ?_)
  obtain ⟨t10, e_t10, hf⟩ := mz_lt hf
  rw [← e_t10] at w
  obtain rfl := Option.some.inj hf
  exact mz_vret E w rfl d_CO_nextPart_78
set_option maxRecDepth 100000 in
set_option maxHeartbeats 4000000 in
theorem b_CO_nextPart_33 {SX : State → Heap → Prop} {dC : Nat → ClassId} {dI : Nat → Nat → Nat} {ad en : Nat → Nat} {ca : Nat → ClassId} {p : Program} {l : Launch} {e : Env} {s : State} {m : MethodId} {args : Array Value} {below : List Frame} {meth : Method} {c : Code} {res : mz_St} (E : mz_En SX 80 mz_cl dC dI ad ca p s m meth c prog_3_method_8_code 2 "MacroHouse$Conditions" none) (n : Nat) : ∀ (s1 : Int32) (s2 : Int32) (t : mz_St), f_CO_nextPart_33 n s1 s2 t = some res → ∀ (H : Heap) (locs : List Loc) (ls : Array Slot), mz_Wd mz_tC 80 mz_cl dC dI ad en ca s t H locs → lv_has ls 2 [(0, .ref (ad 7))] → W p l e (r_CO_nextPart) s m args below meth c H locs 0 0 (MQ below (mz_Q SX mz_tC 80 mz_cl dC dI ad en ca none res) args s 0 0 (mz_A ad 80)) (F0 m 33 ls [.int s2, .int s1, .ref (ad 9)]) := by
  obtain ⟨hx, hb, hml, hown, hcx, -, -, hSX, -, -, hSK⟩ := id E
  intro s1 s2 t hf H locs ls w hl
  unfold f_CO_nextPart_33 at hf
  obtain ⟨hi5, hf⟩ := mz_gd hf
  refine mz_zast E w 9 (x := s2) (by decide) rfl hi5 d_CO_nextPart_33 (fun H locs w => ?_)
  obtain ⟨t6, e_t6, hf⟩ := mz_lt hf
  rw [← e_t6] at w
  refine lv_aload_n hx hb d_CO_nextPart_34 rfl (lv_at hl 0 rfl) ?_
  refine mz_get E w 7 2 (v := .ref (ad 10)) (by decide) rfl rfl ii_4 (by decide) (Nat.le_of_ble_eq_true rfl) k_75 rfl d_CO_nextPart_35 ?_
  refine lv_aload_n hx hb d_CO_nextPart_38 rfl (lv_at hl 0 rfl) ?_
  refine mz_get E w 7 5 (v := .int (mz_gI t6 7 5)) (by decide) rfl rfl ii_4 (by decide) (Nat.le_of_ble_eq_true rfl) k_78 rfl d_CO_nextPart_39 ?_
  refine lv_iconst (v := (1 : Int32)) hx hb d_CO_nextPart_42 (by decide) ?_
  refine lv_isub hx hb d_CO_nextPart_43 ?_
  refine lv_aload_n hx hb d_CO_nextPart_44 rfl (lv_at hl 0 rfl) ?_
  refine mz_get E w 7 2 (v := .ref (ad 10)) (by decide) rfl rfl ii_4 (by decide) (Nat.le_of_ble_eq_true rfl) k_75 rfl d_CO_nextPart_45 ?_
  refine lv_aload_n hx hb d_CO_nextPart_48 rfl (lv_at hl 0 rfl) ?_
  refine mz_get E w 7 5 (v := .int (mz_gI t6 7 5)) (by decide) rfl rfl ii_4 (by decide) (Nat.le_of_ble_eq_true rfl) k_78 rfl d_CO_nextPart_49 ?_
  refine lv_iconst (v := (1 : Int32)) hx hb d_CO_nextPart_52 (by decide) ?_
  refine lv_isub hx hb d_CO_nextPart_53 ?_
  obtain ⟨hi7, hf⟩ := mz_gd hf
  refine mz_zald E w 10 (by decide) rfl hi7 d_CO_nextPart_54 ?_
  refine lv_if_ne (tgt := 72) hx hb d_CO_nextPart_55 (by decide) (fun hc8 => ?_) (fun hc8 => ?_)
  · have hf := mz_f hc8 hf
    exact b_CO_nextPart_72 E n ((mz_gI t6 7 5) - (1 : Int32)) t6 hf _ _ _ w (lv_sub hl [] rfl)
  · have hf := mz_t hc8 hf
    refine lv_aload_n hx hb d_CO_nextPart_58 rfl (lv_at hl 0 rfl) ?_
    refine mz_get E w 7 1 (v := .ref (ad 9)) (by decide) rfl rfl ii_4 (by decide) (Nat.le_of_ble_eq_true rfl) k_74 rfl d_CO_nextPart_59 ?_
    refine lv_aload_n hx hb d_CO_nextPart_62 rfl (lv_at hl 0 rfl) ?_
    refine mz_get E w 7 5 (v := .int (mz_gI t6 7 5)) (by decide) rfl rfl ii_4 (by decide) (Nat.le_of_ble_eq_true rfl) k_78 rfl d_CO_nextPart_63 ?_
    refine lv_iconst (v := (1 : Int32)) hx hb d_CO_nextPart_66 (by decide) ?_
    refine lv_isub hx hb d_CO_nextPart_67 ?_
    obtain ⟨hi11, hf⟩ := mz_gd hf
    refine mz_zald E w 9 (by decide) rfl hi11 d_CO_nextPart_68 ?_
    refine lv_if_eq (tgt := 76) hx hb d_CO_nextPart_69 (by decide) (fun hc12 => ?_) (fun hc12 => ?_)
    · have hf := mz_t hc12 hf
      refine lv_iconst (v := (0 : Int32)) hx hb d_CO_nextPart_76 (by decide) ?_
      obtain ⟨hi13, hf⟩ := mz_gd hf
      refine mz_zast E w 10 (x := (0 : Int32)) (by decide) rfl hi13 d_CO_nextPart_77 (fun H locs w => ?_)
      obtain ⟨t14, e_t14, hf⟩ := mz_lt hf
      rw [← e_t14] at w
      obtain rfl := Option.some.inj hf
      exact mz_vret E w rfl d_CO_nextPart_78
    · have hf := mz_f hc12 hf
      exact b_CO_nextPart_72 E n ((mz_gI t6 7 5) - (1 : Int32)) t6 hf _ _ _ w (lv_sub hl [] rfl)
set_option maxRecDepth 100000 in
set_option maxHeartbeats 4000000 in
theorem b_CO_nextPart_32 {SX : State → Heap → Prop} {dC : Nat → ClassId} {dI : Nat → Nat → Nat} {ad en : Nat → Nat} {ca : Nat → ClassId} {p : Program} {l : Launch} {e : Env} {s : State} {m : MethodId} {args : Array Value} {below : List Frame} {meth : Method} {c : Code} {res : mz_St} (E : mz_En SX 80 mz_cl dC dI ad ca p s m meth c prog_3_method_8_code 2 "MacroHouse$Conditions" none) (n : Nat) : ∀ (s1 : Int32) (t : mz_St), f_CO_nextPart_32 n s1 t = some res → ∀ (H : Heap) (locs : List Loc) (ls : Array Slot), mz_Wd mz_tC 80 mz_cl dC dI ad en ca s t H locs → lv_has ls 2 [(0, .ref (ad 7))] → W p l e (r_CO_nextPart) s m args below meth c H locs 0 0 (MQ below (mz_Q SX mz_tC 80 mz_cl dC dI ad en ca none res) args s 0 0 (mz_A ad 80)) (F0 m 32 ls [.int s1, .ref (ad 9)]) := by
  obtain ⟨hx, hb, hml, hown, hcx, -, -, hSX, -, -, hSK⟩ := id E
  intro s1 t hf H locs ls w hl
  unfold f_CO_nextPart_32 at hf
  refine lv_iconst (v := (0 : Int32)) hx hb d_CO_nextPart_32 (by decide) ?_
  exact b_CO_nextPart_33 E n s1 (0 : Int32) t hf _ _ _ w (lv_sub hl [0] rfl)
set_option maxRecDepth 100000 in
set_option maxHeartbeats 4000000 in
theorem c_CO_nextPart {SX : State → Heap → Prop} {dC : Nat → ClassId} {dI : Nat → Nat → Nat} {ad en : Nat → Nat} {ca : Nat → ClassId} (hSK : mz_SK SX ad 80) (l : Launch) (n : Nat) (x1 : Int32) (t : mz_St) (res : mz_St) (hf : f_CO_nextPart n x1 t = some res) : mz_C SX mz_tC 80 mz_cl dC dI ad en ca l y_CO_nextPart prog_3_method_8_code 2 none (r_CO_nextPart) [.ref (ad 7), .int x1] t none res := by
  unfold f_CO_nextPart at hf
  refine mz_met hSK (by decide) (Nat.le_of_ble_eq_true rfl) ?_
  intro p e s m args below meth c ls E w hl
  obtain ⟨hx, hb, hml, hown, hcx, -, -, hSX, -, -, -⟩ := id E
  have hl : lv_has ls 2 [(0, .ref (ad 7)), (1, .int x1)] := hl
  refine lv_aload_n hx hb d_CO_nextPart_0 rfl (lv_at hl 0 rfl) ?_
  obtain ⟨q1, hq2, hf⟩ := mz_bd hf
  refine mz_callV E w (k := 7) (As := []) (rest := []) (c_CO_isAny hSK l n t q1 hq2) (by decide) rfl rfl k_500 k_4 k_497 k_499 ks_3 hm_CO_isAny ⟨⟨rfl, rfl⟩, Nat.le_of_ble_eq_true rfl, Nat.le_of_ble_eq_true rfl⟩ rfl hl.1 rfl (Nat.le_of_ble_eq_true rfl) d_CO_nextPart_1 ⟨Nat.zero_le _, Nat.zero_le _⟩ (st1 := [.int q1.1]) rfl (fun H locs w => ?_)
  refine lv_if_eq (tgt := 78) hx hb d_CO_nextPart_4 (by decide) (fun hc3 => ?_) (fun hc3 => ?_)
  · have hf := mz_t hc3 hf
    obtain rfl := Option.some.inj hf
    exact mz_vret E w rfl d_CO_nextPart_78
  · have hf := mz_f hc3 hf
    refine lv_aload_n hx hb d_CO_nextPart_7 rfl (lv_at hl 0 rfl) ?_
    refine mz_get E w 7 1 (v := .ref (ad 9)) (by decide) rfl rfl ii_4 (by decide) (Nat.le_of_ble_eq_true rfl) k_74 rfl d_CO_nextPart_8 ?_
    refine lv_aload_n hx hb d_CO_nextPart_11 rfl (lv_at hl 0 rfl) ?_
    refine mz_get E w 7 5 (v := .int (mz_gI q1.2 7 5)) (by decide) rfl rfl ii_4 (by decide) (Nat.le_of_ble_eq_true rfl) k_78 rfl d_CO_nextPart_12 ?_
    refine lv_iconst (v := (1 : Int32)) hx hb d_CO_nextPart_15 (by decide) ?_
    refine lv_isub hx hb d_CO_nextPart_16 ?_
    refine lv_iload_n hx hb d_CO_nextPart_17 rfl (lv_at hl 1 rfl) ?_
    refine lv_if_eq (tgt := 32) hx hb d_CO_nextPart_18 (by decide) (fun hc4 => ?_) (fun hc4 => ?_)
    · have hf := mz_t hc4 hf
      exact b_CO_nextPart_32 E n ((mz_gI q1.2 7 5) - (1 : Int32)) q1.2 hf _ _ _ w (lv_sub hl [0] rfl)
    · have hf := mz_f hc4 hf
      refine lv_aload_n hx hb d_CO_nextPart_21 rfl (lv_at hl 0 rfl) ?_
      obtain ⟨q15, hq16, hf⟩ := mz_bd hf
      refine mz_callV E w (k := 7) (As := []) (rest := [.int ((mz_gI q1.2 7 5) - (1 : Int32)), .ref (ad 9)]) (c_CO_waits hSK l n q1.2 q15 hq16) (by decide) rfl rfl k_634 k_4 k_936 k_632 k_633 hm_CO_waits ⟨⟨rfl, rfl⟩, Nat.le_of_ble_eq_true rfl, Nat.le_of_ble_eq_true rfl⟩ rfl hl.1 rfl (Nat.le_of_ble_eq_true rfl) d_CO_nextPart_22 ⟨Nat.zero_le _, Nat.zero_le _⟩ (st1 := [.int q15.1, .int ((mz_gI q1.2 7 5) - (1 : Int32)), .ref (ad 9)]) rfl (fun H locs w => ?_)
      refine lv_if_eq (tgt := 32) hx hb d_CO_nextPart_25 (by decide) (fun hc17 => ?_) (fun hc17 => ?_)
      · have hf := mz_t hc17 hf
        exact b_CO_nextPart_32 E n ((mz_gI q1.2 7 5) - (1 : Int32)) q15.2 hf _ _ _ w (lv_sub hl [0] rfl)
      · have hf := mz_f hc17 hf
        refine lv_iconst (v := (1 : Int32)) hx hb d_CO_nextPart_28 (by decide) ?_
        refine lv_goto (tgt := 33) hx hb d_CO_nextPart_29 (by decide) ?_
        exact b_CO_nextPart_33 E n ((mz_gI q1.2 7 5) - (1 : Int32)) (1 : Int32) q15.2 hf _ _ _ w (lv_sub hl [0] rfl)

/-! MacroHouse$Conditions.lastPart()V -/
abbrev r_CO_lastPart : Room := { frames := 3, cells := 0, slots := 0, locals := 61 }
def f_CO_lastPart (n : Nat) (t : mz_St) : Option mz_St := (f_CO_nextPart n (1 : Int32) t).bind fun q1 => (f_CO_isAny n q1).bind fun q3 => if q3.1 = 0 then (some q3.2) else (if ¬ (((mz_gI q3.2 7 5) - (1 : Int32)) < 0 ∨ 8 ≤ ((mz_gI q3.2 7 5) - (1 : Int32)).toNatClampNeg) then (mz_let (mz_pI q3.2 11 ((mz_gI q3.2 7 5) - (1 : Int32)).toNatClampNeg (vp_nar .boolean (1 : Int32))) fun t7 => some t7) else none)
set_option maxRecDepth 100000 in
set_option maxHeartbeats 4000000 in
theorem c_CO_lastPart {SX : State → Heap → Prop} {dC : Nat → ClassId} {dI : Nat → Nat → Nat} {ad en : Nat → Nat} {ca : Nat → ClassId} (hSK : mz_SK SX ad 80) (l : Launch) (n : Nat) (t : mz_St) (res : mz_St) (hf : f_CO_lastPart n t = some res) : mz_C SX mz_tC 80 mz_cl dC dI ad en ca l y_CO_lastPart prog_3_method_9_code 1 none (r_CO_lastPart) [.ref (ad 7)] t none res := by
  unfold f_CO_lastPart at hf
  refine mz_met hSK (by decide) (Nat.le_of_ble_eq_true rfl) ?_
  intro p e s m args below meth c ls E w hl
  obtain ⟨hx, hb, hml, hown, hcx, -, -, hSX, -, -, -⟩ := id E
  have hl : lv_has ls 1 [(0, .ref (ad 7))] := hl
  refine lv_aload_n hx hb d_CO_lastPart_0 rfl (lv_at hl 0 rfl) ?_
  refine lv_iconst (v := (1 : Int32)) hx hb d_CO_lastPart_1 (by decide) ?_
  obtain ⟨q1, hq2, hf⟩ := mz_bd hf
  refine mz_callV E w (k := 7) (As := [.int (1 : Int32)]) (rest := []) (c_CO_nextPart hSK l n (1 : Int32) t q1 hq2) (by decide) rfl rfl k_935 k_4 k_932 k_933 k_934 hm_CO_nextPart ⟨⟨rfl, rfl⟩, Nat.le_of_ble_eq_true rfl, Nat.le_of_ble_eq_true rfl⟩ rfl hl.1 rfl (Nat.le_of_ble_eq_true rfl) d_CO_lastPart_2 ⟨Nat.zero_le _, Nat.zero_le _⟩ (st1 := []) rfl (fun H locs w => ?_)
  refine lv_aload_n hx hb d_CO_lastPart_5 rfl (lv_at hl 0 rfl) ?_
  obtain ⟨q3, hq4, hf⟩ := mz_bd hf
  refine mz_callV E w (k := 7) (As := []) (rest := []) (c_CO_isAny hSK l n q1 q3 hq4) (by decide) rfl rfl k_500 k_4 k_497 k_499 ks_3 hm_CO_isAny ⟨⟨rfl, rfl⟩, Nat.le_of_ble_eq_true rfl, Nat.le_of_ble_eq_true rfl⟩ rfl hl.1 rfl (Nat.le_of_ble_eq_true rfl) d_CO_lastPart_6 ⟨Nat.zero_le _, Nat.zero_le _⟩ (st1 := [.int q3.1]) rfl (fun H locs w => ?_)
  refine lv_if_eq (tgt := 24) hx hb d_CO_lastPart_9 (by decide) (fun hc5 => ?_) (fun hc5 => ?_)
  · have hf := mz_t hc5 hf
    obtain rfl := Option.some.inj hf
    exact mz_vret E w rfl d_CO_lastPart_24
  · have hf := mz_f hc5 hf
    refine lv_aload_n hx hb d_CO_lastPart_12 rfl (lv_at hl 0 rfl) ?_
    refine mz_get E w 7 3 (v := .ref (ad 11)) (by decide) rfl rfl ii_4 (by decide) (Nat.le_of_ble_eq_true rfl) k_76 rfl d_CO_lastPart_13 ?_
    refine lv_aload_n hx hb d_CO_lastPart_16 rfl (lv_at hl 0 rfl) ?_
    refine mz_get E w 7 5 (v := .int (mz_gI q3.2 7 5)) (by decide) rfl rfl ii_4 (by decide) (Nat.le_of_ble_eq_true rfl) k_78 rfl d_CO_lastPart_17 ?_
    refine lv_iconst (v := (1 : Int32)) hx hb d_CO_lastPart_20 (by decide) ?_
    refine lv_isub hx hb d_CO_lastPart_21 ?_
    refine lv_iconst (v := (1 : Int32)) hx hb d_CO_lastPart_22 (by decide) ?_
    obtain ⟨hi6, hf⟩ := mz_gd hf
    refine mz_zast E w 11 (x := (1 : Int32)) (by decide) rfl hi6 d_CO_lastPart_23 (fun H locs w => ?_)
    obtain ⟨t7, e_t7, hf⟩ := mz_lt hf
    rw [← e_t7] at w
    obtain rfl := Option.some.inj hf
    exact mz_vret E w rfl d_CO_lastPart_24
