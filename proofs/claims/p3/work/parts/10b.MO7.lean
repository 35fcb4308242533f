/-! MacroHouseModel.line(II)I -/
abbrev r_MO_line : Room := { frames := 1, cells := 0, slots := 0, locals := 22 }
def f_MO_line_35 (n : Nat) (x1 : Int32) (x2 : Int32) (s1 : Int32) (s2 : Int32) (t : mz_St) : Option (Int32 × mz_St) := (f_MO_refuse n s1 s2 t).bind fun q5 => if q5.1 = 0 then (if ¬ ((x1 + (1 : Int32)) < 0 ∨ 1001 ≤ (x1 + (1 : Int32)).toNatClampNeg) then (if ¬ (x1 < 0 ∨ 1001 ≤ x1.toNatClampNeg) then (if x2 = (0 : Int32) then (some (((mz_gI q5.2 18 (x1 + (1 : Int32)).toNatClampNeg) - (mz_gI q5.2 18 x1.toNatClampNeg)), q5.2)) else (if x2 = (1 : Int32) then (if ¬ (x1 < 0 ∨ 1000 ≤ x1.toNatClampNeg) then (some ((mz_gI q5.2 19 x1.toNatClampNeg), q5.2)) else none) else (if x2 = (2 : Int32) then (if ¬ (x1 < 0 ∨ 1000 ≤ x1.toNatClampNeg) then (some ((mz_gI q5.2 20 x1.toNatClampNeg), q5.2)) else none) else (if ((mz_gI q5.2 18 (x1 + (1 : Int32)).toNatClampNeg) - (mz_gI q5.2 18 x1.toNatClampNeg)) ≤ (x2 - (3 : Int32)) then (some ((-1 : Int32), q5.2)) else (if ¬ (x1 < 0 ∨ 1001 ≤ x1.toNatClampNeg) then (if ¬ ((((mz_gI q5.2 18 x1.toNatClampNeg) + x2) - (3 : Int32)) < 0 ∨ 12000 ≤ (((mz_gI q5.2 18 x1.toNatClampNeg) + x2) - (3 : Int32)).toNatClampNeg) then (some ((mz_gI q5.2 21 (((mz_gI q5.2 18 x1.toNatClampNeg) + x2) - (3 : Int32)).toNatClampNeg), q5.2)) else none) else none))))) else none) else none) else (some ((0 : Int32), q5.2))
def f_MO_line_34 (n : Nat) (x1 : Int32) (x2 : Int32) (s1 : Int32) (t : mz_St) : Option (Int32 × mz_St) := f_MO_line_35 n x1 x2 s1 (0 : Int32) t
def f_MO_line_22 (n : Nat) (x1 : Int32) (x2 : Int32) (x3 : Int32) (s1 : Int32) (t : mz_St) : Option (Int32 × mz_St) := if x3 = 0 then (f_MO_line_34 n x1 x2 s1 t) else (if 0 ≤ x2 then (f_MO_line_34 n x1 x2 s1 t) else (f_MO_line_35 n x1 x2 s1 (1 : Int32) t))
def f_MO_line (n : Nat) (x1 : Int32) (x2 : Int32) (t : mz_St) : Option (Int32 × mz_St) := (f_MO_in n x1 (0 : Int32) ((mz_gI t 0 28) - (1 : Int32)) t).bind fun q1 => if q1.1 = 0 then (f_MO_line_22 n x1 x2 q1.1 (1 : Int32) q1.2) else (f_MO_line_22 n x1 x2 q1.1 (0 : Int32) q1.2)
set_option maxRecDepth 100000 in
set_option maxHeartbeats 4000000 in
theorem b_MO_line_35 {SX : State → Heap → Prop} {dC : Nat → ClassId} {dI : Nat → Nat → Nat} {ad en : Nat → Nat} {ca : Nat → ClassId} {p : Program} {l : Launch} {e : Env} {s : State} {m : MethodId} {args : Array Value} {below : List Frame} {meth : Method} {c : Code} {res : (Int32 × mz_St)} (E : mz_En SX 55 mz_cl dC dI ad ca p s m meth c prog_15_method_64_code 5 "MacroHouseModel" (some (.int))) (n : Nat) : ∀ (x1 : Int32) (x2 : Int32) (s1 : Int32) (s2 : Int32) (t : mz_St), f_MO_line_35 n x1 x2 s1 s2 t = some res → ∀ (H : Heap) (locs : List Loc) (ls : Array Slot), mz_Wd mz_tM 55 mz_cl dC dI ad en ca s t H locs → lv_has ls 5 [(0, .ref (ad 0)), (1, .int x1), (2, .int x2)] → W p l e (r_MO_line) s m args below meth c H locs 0 0 (MQ below (mz_Q SX mz_tM 55 mz_cl dC dI ad en ca (some (.int res.1)) res.2) args s 0 0 (mz_A ad 55)) (F0 m 35 ls [.int s2, .int s1, .ref (ad 0)]) := by
  obtain ⟨hx, hb, hml, hown, hcx, -, -, hSX, -, -, hSK⟩ := id E
  intro x1 x2 s1 s2 t hf H locs ls w hl
  unfold f_MO_line_35 at hf
  obtain ⟨q5, hq6, hf⟩ := mz_bd hf
  refine mz_callV E w (k := 0) (As := [.int s1, .int s2]) (rest := []) (c_MO_refuse hSK l n s1 s2 t q5 hq6) (by decide) rfl rfl k_1439 k_15 k_1436 k_1438 ks_48 hm_MO_refuse ⟨⟨rfl, rfl⟩, Nat.le_of_ble_eq_true rfl, Nat.le_of_ble_eq_true rfl⟩ rfl hl.1 rfl (Nat.le_of_ble_eq_true rfl) d_MO_line_35 ⟨Nat.zero_le _, Nat.zero_le _⟩ (st1 := [.int q5.1]) rfl (fun H locs w => ?_)
  refine lv_if_eq (tgt := 43) hx hb d_MO_line_38 (by decide) (fun hc7 => ?_) (fun hc7 => ?_)
  · have hf := mz_t hc7 hf
    refine lv_aload_n hx hb d_MO_line_43 rfl (lv_at hl 0 rfl) ?_
    refine mz_get E w 0 30 (v := .ref (ad 18)) (by decide) rfl rfl ii_11 (by decide) (Nat.le_of_ble_eq_true rfl) k_1213 rfl d_MO_line_44 ?_
    refine lv_iload_n hx hb d_MO_line_47 rfl (lv_at hl 1 rfl) ?_
    refine lv_iconst (v := (1 : Int32)) hx hb d_MO_line_48 (by decide) ?_
    refine lv_iadd hx hb d_MO_line_49 ?_
    obtain ⟨hi8, hf⟩ := mz_gd hf
    refine mz_iald E w 18 (by decide) rfl hi8 d_MO_line_50 ?_
    refine lv_aload_n hx hb d_MO_line_51 rfl (lv_at hl 0 rfl) ?_
    refine mz_get E w 0 30 (v := .ref (ad 18)) (by decide) rfl rfl ii_11 (by decide) (Nat.le_of_ble_eq_true rfl) k_1213 rfl d_MO_line_52 ?_
    refine lv_iload_n hx hb d_MO_line_55 rfl (lv_at hl 1 rfl) ?_
    obtain ⟨hi9, hf⟩ := mz_gd hf
    refine mz_iald E w 18 (by decide) rfl hi9 d_MO_line_56 ?_
    refine lv_isub hx hb d_MO_line_57 ?_
    refine lv_istore (lv' := [(4, .int ((mz_gI q5.2 18 (x1 + (1 : Int32)).toNatClampNeg) - (mz_gI q5.2 18 x1.toNatClampNeg))), (0, .ref (ad 0)), (1, .int x1), (2, .int x2)]) hx hb d_MO_line_58 hl (by decide) rfl (fun ls hl => ?_)
    refine lv_iload_n hx hb d_MO_line_60 rfl (lv_at hl 3 rfl) ?_
    by_cases hc10 : x2 = (0 : Int32)
    · have hf := mz_t hc10 hf
      refine lv_tableIn (off := 27) (tgt := 88) hx hb d_MO_line_61 (by rw [hc10]; decide) (by rw [hc10]; decide) (by rw [hc10]; rfl) (by decide) ?_
      refine lv_iload hx hb d_MO_line_88 (lv_at hl 0 rfl) ?_
      obtain rfl := Option.some.inj hf
      exact mz_iret E w rfl d_MO_line_90
    · have hf := mz_f hc10 hf
      by_cases hc11 : x2 = (1 : Int32)
      · have hf := mz_t hc11 hf
        refine lv_tableIn (off := 30) (tgt := 91) hx hb d_MO_line_61 (by rw [hc11]; decide) (by rw [hc11]; decide) (by rw [hc11]; rfl) (by decide) ?_
        refine lv_aload_n hx hb d_MO_line_91 rfl (lv_at hl 1 rfl) ?_
        refine mz_get E w 0 31 (v := .ref (ad 19)) (by decide) rfl rfl ii_11 (by decide) (Nat.le_of_ble_eq_true rfl) k_1214 rfl d_MO_line_92 ?_
        refine lv_iload_n hx hb d_MO_line_95 rfl (lv_at hl 2 rfl) ?_
        obtain ⟨hi12, hf⟩ := mz_gd hf
        refine mz_iald E w 19 (by decide) rfl hi12 d_MO_line_96 ?_
        obtain rfl := Option.some.inj hf
        exact mz_iret E w rfl d_MO_line_97
      · have hf := mz_f hc11 hf
        by_cases hc13 : x2 = (2 : Int32)
        · have hf := mz_t hc13 hf
          refine lv_tableIn (off := 37) (tgt := 98) hx hb d_MO_line_61 (by rw [hc13]; decide) (by rw [hc13]; decide) (by rw [hc13]; rfl) (by decide) ?_
          refine lv_aload_n hx hb d_MO_line_98 rfl (lv_at hl 1 rfl) ?_
          refine mz_get E w 0 32 (v := .ref (ad 20)) (by decide) rfl rfl ii_11 (by decide) (Nat.le_of_ble_eq_true rfl) k_1215 rfl d_MO_line_99 ?_
          refine lv_iload_n hx hb d_MO_line_102 rfl (lv_at hl 2 rfl) ?_
          obtain ⟨hi14, hf⟩ := mz_gd hf
          refine mz_iald E w 20 (by decide) rfl hi14 d_MO_line_103 ?_
          obtain rfl := Option.some.inj hf
          exact mz_iret E w rfl d_MO_line_104
        · have hf := mz_f hc13 hf
          refine lv_tableOut (tgt := 105) hx hb d_MO_line_61 (by have := lv_neT (a := 0) hc10 rfl; have := lv_neT (a := 1) hc11 rfl; have := lv_neT (a := 2) hc13 rfl; omega) (by decide) ?_
          refine lv_iload_n hx hb d_MO_line_105 rfl (lv_at hl 3 rfl) ?_
          refine lv_iconst (v := (3 : Int32)) hx hb d_MO_line_106 (by decide) ?_
          refine lv_isub hx hb d_MO_line_107 ?_
          refine lv_iload hx hb d_MO_line_108 (lv_at hl 0 rfl) ?_
          refine lv_icmp_ge (tgt := 131) hx hb d_MO_line_110 (by decide) (fun hc15 => ?_) (fun hc15 => ?_)
          · have hf := mz_t hc15 hf
            refine lv_iconst (v := (-1 : Int32)) hx hb d_MO_line_131 (by decide) ?_
            obtain rfl := Option.some.inj hf
            exact mz_iret E w rfl d_MO_line_132
          · have hf := mz_f hc15 hf
            refine lv_aload_n hx hb d_MO_line_113 rfl (lv_at hl 1 rfl) ?_
            refine mz_get E w 0 33 (v := .ref (ad 21)) (by decide) rfl rfl ii_11 (by decide) (Nat.le_of_ble_eq_true rfl) k_1216 rfl d_MO_line_114 ?_
            refine lv_aload_n hx hb d_MO_line_117 rfl (lv_at hl 1 rfl) ?_
            refine mz_get E w 0 30 (v := .ref (ad 18)) (by decide) rfl rfl ii_11 (by decide) (Nat.le_of_ble_eq_true rfl) k_1213 rfl d_MO_line_118 ?_
            refine lv_iload_n hx hb d_MO_line_121 rfl (lv_at hl 2 rfl) ?_
            obtain ⟨hi16, hf⟩ := mz_gd hf
            refine mz_iald E w 18 (by decide) rfl hi16 d_MO_line_122 ?_
            refine lv_iload_n hx hb d_MO_line_123 rfl (lv_at hl 3 rfl) ?_
            refine lv_iadd hx hb d_MO_line_124 ?_
            refine lv_iconst (v := (3 : Int32)) hx hb d_MO_line_125 (by decide) ?_
            refine lv_isub hx hb d_MO_line_126 ?_
            obtain ⟨hi17, hf⟩ := mz_gd hf
            refine mz_iald E w 21 (by decide) rfl hi17 d_MO_line_127 ?_
            refine lv_goto (tgt := 132) hx hb d_MO_line_128 (by decide) ?_
            obtain rfl := Option.some.inj hf
            exact mz_iret E w rfl d_MO_line_132
  · have hf := mz_f hc7 hf
    refine lv_iconst (v := (0 : Int32)) hx hb d_MO_line_41 (by decide) ?_
    obtain rfl := Option.some.inj hf
    exact mz_iret E w rfl d_MO_line_42
set_option maxRecDepth 100000 in
set_option maxHeartbeats 4000000 in
theorem b_MO_line_34 {SX : State → Heap → Prop} {dC : Nat → ClassId} {dI : Nat → Nat → Nat} {ad en : Nat → Nat} {ca : Nat → ClassId} {p : Program} {l : Launch} {e : Env} {s : State} {m : MethodId} {args : Array Value} {below : List Frame} {meth : Method} {c : Code} {res : (Int32 × mz_St)} (E : mz_En SX 55 mz_cl dC dI ad ca p s m meth c prog_15_method_64_code 5 "MacroHouseModel" (some (.int))) (n : Nat) : ∀ (x1 : Int32) (x2 : Int32) (s1 : Int32) (t : mz_St), f_MO_line_34 n x1 x2 s1 t = some res → ∀ (H : Heap) (locs : List Loc) (ls : Array Slot), mz_Wd mz_tM 55 mz_cl dC dI ad en ca s t H locs → lv_has ls 5 [(0, .ref (ad 0)), (1, .int x1), (2, .int x2)] → W p l e (r_MO_line) s m args below meth c H locs 0 0 (MQ below (mz_Q SX mz_tM 55 mz_cl dC dI ad en ca (some (.int res.1)) res.2) args s 0 0 (mz_A ad 55)) (F0 m 34 ls [.int s1, .ref (ad 0)]) := by
  obtain ⟨hx, hb, hml, hown, hcx, -, -, hSX, -, -, hSK⟩ := id E
  intro x1 x2 s1 t hf H locs ls w hl
  unfold f_MO_line_34 at hf
  refine lv_iconst (v := (0 : Int32)) hx hb d_MO_line_34 (by decide) ?_
  exact b_MO_line_35 E n x1 x2 s1 (0 : Int32) t hf _ _ _ w (lv_sub hl [0, 1, 2] rfl)
set_option maxRecDepth 100000 in
set_option maxHeartbeats 4000000 in
theorem b_MO_line_22 {SX : State → Heap → Prop} {dC : Nat → ClassId} {dI : Nat → Nat → Nat} {ad en : Nat → Nat} {ca : Nat → ClassId} {p : Program} {l : Launch} {e : Env} {s : State} {m : MethodId} {args : Array Value} {below : List Frame} {meth : Method} {c : Code} {res : (Int32 × mz_St)} (E : mz_En SX 55 mz_cl dC dI ad ca p s m meth c prog_15_method_64_code 5 "MacroHouseModel" (some (.int))) (n : Nat) : ∀ (x1 : Int32) (x2 : Int32) (x3 : Int32) (s1 : Int32) (t : mz_St), f_MO_line_22 n x1 x2 x3 s1 t = some res → ∀ (H : Heap) (locs : List Loc) (ls : Array Slot), mz_Wd mz_tM 55 mz_cl dC dI ad en ca s t H locs → lv_has ls 5 [(0, .ref (ad 0)), (1, .int x1), (2, .int x2), (3, .int x3)] → W p l e (r_MO_line) s m args below meth c H locs 0 0 (MQ below (mz_Q SX mz_tM 55 mz_cl dC dI ad en ca (some (.int res.1)) res.2) args s 0 0 (mz_A ad 55)) (F0 m 22 ls [.int s1, .ref (ad 0)]) := by
  obtain ⟨hx, hb, hml, hown, hcx, -, -, hSX, -, -, hSK⟩ := id E
  intro x1 x2 x3 s1 t hf H locs ls w hl
  unfold f_MO_line_22 at hf
  refine lv_iload_n hx hb d_MO_line_22 rfl (lv_at hl 3 rfl) ?_
  refine lv_if_eq (tgt := 34) hx hb d_MO_line_23 (by decide) (fun hc4 => ?_) (fun hc4 => ?_)
  · have hf := mz_t hc4 hf
    exact b_MO_line_34 E n x1 x2 s1 t hf _ _ _ w (lv_sub hl [0, 1, 2] rfl)
  · have hf := mz_f hc4 hf
    refine lv_iload_n hx hb d_MO_line_26 rfl (lv_at hl 2 rfl) ?_
    refine lv_if_ge (tgt := 34) hx hb d_MO_line_27 (by decide) (fun hc18 => ?_) (fun hc18 => ?_)
    · have hf := mz_t hc18 hf
      exact b_MO_line_34 E n x1 x2 s1 t hf _ _ _ w (lv_sub hl [0, 1, 2] rfl)
    · have hf := mz_f hc18 hf
      refine lv_iconst (v := (1 : Int32)) hx hb d_MO_line_30 (by decide) ?_
      refine lv_goto (tgt := 35) hx hb d_MO_line_31 (by decide) ?_
      exact b_MO_line_35 E n x1 x2 s1 (1 : Int32) t hf _ _ _ w (lv_sub hl [0, 1, 2] rfl)
set_option maxRecDepth 100000 in
set_option maxHeartbeats 4000000 in
theorem c_MO_line {SX : State → Heap → Prop} {dC : Nat → ClassId} {dI : Nat → Nat → Nat} {ad en : Nat → Nat} {ca : Nat → ClassId} (hSK : mz_SK SX ad 55) (l : Launch) (n : Nat) (x1 : Int32) (x2 : Int32) (t : mz_St) (res : (Int32 × mz_St)) (hf : f_MO_line n x1 x2 t = some res) : mz_C SX mz_tM 55 mz_cl dC dI ad en ca l y_MO_line prog_15_method_64_code 5 (some (.int)) (r_MO_line) [.ref (ad 0), .int x1, .int x2] t (some (.int res.1)) res.2 := by
  unfold f_MO_line at hf
  refine mz_met hSK (by decide) (Nat.le_of_ble_eq_true rfl) ?_
  intro p e s m args below meth c ls E w hl
  obtain ⟨hx, hb, hml, hown, hcx, -, -, hSX, -, -, -⟩ := id E
  have hl : lv_has ls 5 [(0, .ref (ad 0)), (1, .int x1), (2, .int x2)] := hl
  refine lv_iload_n hx hb d_MO_line_0 rfl (lv_at hl 1 rfl) ?_
  refine lv_iconst (v := (0 : Int32)) hx hb d_MO_line_1 (by decide) ?_
  refine lv_aload_n hx hb d_MO_line_2 rfl (lv_at hl 0 rfl) ?_
  refine mz_get E w 0 28 (v := .int (mz_gI t 0 28)) (by decide) rfl rfl ii_11 (by decide) (Nat.le_of_ble_eq_true rfl) k_1211 rfl d_MO_line_3 ?_
  refine lv_iconst (v := (1 : Int32)) hx hb d_MO_line_6 (by decide) ?_
  refine lv_isub hx hb d_MO_line_7 ?_
  obtain ⟨q1, hq2, hf⟩ := mz_bd hf
  refine mz_callS E w (As := [.int x1, .int (0 : Int32), .int ((mz_gI t 0 28) - (1 : Int32))]) (rest := []) (c_MO_in hSK l n x1 (0 : Int32) ((mz_gI t 0 28) - (1 : Int32)) t q1 hq2) k_1435 k_15 k_1433 k_1434 hm_MO_in ⟨⟨rfl, rfl⟩, Nat.le_of_ble_eq_true rfl, Nat.le_of_ble_eq_true rfl⟩ rfl hl.1 rfl (Nat.le_of_ble_eq_true rfl) d_MO_line_8 ⟨Nat.zero_le _, Nat.zero_le _⟩ (st1 := [.int q1.1]) rfl (fun H locs w => ?_)
  refine lv_istore_n (lv' := [(3, .int q1.1), (0, .ref (ad 0)), (1, .int x1), (2, .int x2)]) hx hb d_MO_line_11 rfl hl (by decide) rfl (fun ls hl => ?_)
  refine lv_aload_n hx hb d_MO_line_12 rfl (lv_at hl 1 rfl) ?_
  refine lv_iload_n hx hb d_MO_line_13 rfl (lv_at hl 0 rfl) ?_
  refine lv_if_ne (tgt := 21) hx hb d_MO_line_14 (by decide) (fun hc3 => ?_) (fun hc3 => ?_)
  · have hf := mz_f hc3 hf
    refine lv_iconst (v := (0 : Int32)) hx hb d_MO_line_21 (by decide) ?_
    exact b_MO_line_22 E n x1 x2 q1.1 (0 : Int32) q1.2 hf _ _ _ w (lv_sub hl [1, 2, 3, 0] rfl)
  · have hf := mz_t hc3 hf
    refine lv_iconst (v := (1 : Int32)) hx hb d_MO_line_17 (by decide) ?_
    refine lv_goto (tgt := 22) hx hb d_MO_line_18 (by decide) ?_
    exact b_MO_line_22 E n x1 x2 q1.1 (1 : Int32) q1.2 hf _ _ _ w (lv_sub hl [1, 2, 3, 0] rfl)

/-! MacroHouseModel.signOf(JJI)I -/
abbrev r_MO_signOf : Room := { frames := 1, cells := 0, slots := 0, locals := 22 }
def f_MO_signOf_25 (n : Nat) (x4 : Int32) (s0 : Int64) (t : mz_St) : Option (Int32 × mz_St) := if ¬ (8 : Int32) = 0 then (if ((s0 >>> (((8 : Int32) * (x4 - x4 / (8 : Int32) * (8 : Int32))).toInt64 &&& 63)) &&& (127 : Int64)).toInt32 = 0 then (some ((-1 : Int32), t)) else (some (((s0 >>> (((8 : Int32) * (x4 - x4 / (8 : Int32) * (8 : Int32))).toInt64 &&& 63)) &&& (127 : Int64)).toInt32, t))) else none
def f_MO_signOf (n : Nat) (x0 : Int64) (x2 : Int64) (x4 : Int32) (t : mz_St) : Option (Int32 × mz_St) := (f_MO_in n x4 (0 : Int32) (11 : Int32) t).bind fun q1 => if q1.1 = 0 then (some ((-1 : Int32), q1.2)) else (if (8 : Int32) ≤ x4 then (f_MO_signOf_25 n x4 x2 q1.2) else (f_MO_signOf_25 n x4 x0 q1.2))
set_option maxRecDepth 100000 in
set_option maxHeartbeats 4000000 in
theorem b_MO_signOf_25 {SX : State → Heap → Prop} {dC : Nat → ClassId} {dI : Nat → Nat → Nat} {ad en : Nat → Nat} {ca : Nat → ClassId} {p : Program} {l : Launch} {e : Env} {s : State} {m : MethodId} {args : Array Value} {below : List Frame} {meth : Method} {c : Code} {res : (Int32 × mz_St)} (E : mz_En SX 55 mz_cl dC dI ad ca p s m meth c prog_15_method_65_code 6 "MacroHouseModel" (some (.int))) (n : Nat) : ∀ (x4 : Int32) (s0 : Int64) (t : mz_St), f_MO_signOf_25 n x4 s0 t = some res → ∀ (H : Heap) (locs : List Loc) (ls : Array Slot), mz_Wd mz_tM 55 mz_cl dC dI ad en ca s t H locs → lv_has ls 6 [(4, .int x4)] → W p l e (r_MO_signOf) s m args below meth c H locs 0 0 (MQ below (mz_Q SX mz_tM 55 mz_cl dC dI ad en ca (some (.int res.1)) res.2) args s 0 0 (mz_A ad 55)) (F0 m 25 ls [.long s0]) := by
  obtain ⟨hx, hb, hml, hown, hcx, -, -, hSX, -, -, hSK⟩ := id E
  intro x4 s0 t hf H locs ls w hl
  unfold f_MO_signOf_25 at hf
  refine lv_bipush (v := (8 : Int32)) hx hb d_MO_signOf_25 (by decide) ?_
  refine lv_iload hx hb d_MO_signOf_27 (lv_at hl 0 rfl) ?_
  refine lv_bipush (v := (8 : Int32)) hx hb d_MO_signOf_29 (by decide) ?_
  obtain ⟨hz5, hf⟩ := mz_gd hf
  refine lv_irem hx hb d_MO_signOf_31 hz5 ?_
  refine lv_imul hx hb d_MO_signOf_32 ?_
  refine lv_lshr (v := (s0 >>> (((8 : Int32) * (x4 - x4 / (8 : Int32) * (8 : Int32))).toInt64 &&& 63))) hx hb d_MO_signOf_33 rfl ?_
  refine lv_ldc2 (v := (127 : Int64)) hx hb hown (hcx.at args _ k_1692) d_MO_signOf_34 ?_
  refine lv_land hx hb d_MO_signOf_37 ?_
  refine lv_l2i (v := ((s0 >>> (((8 : Int32) * (x4 - x4 / (8 : Int32) * (8 : Int32))).toInt64 &&& 63)) &&& (127 : Int64)).toInt32) hx hb d_MO_signOf_38 rfl ?_
  refine lv_istore (lv' := [(5, .int (((s0 >>> (((8 : Int32) * (x4 - x4 / (8 : Int32) * (8 : Int32))).toInt64 &&& 63)) &&& (127 : Int64)).toInt32)), (4, .int x4)]) hx hb d_MO_signOf_39 hl (by decide) rfl (fun ls hl => ?_)
  refine lv_iload hx hb d_MO_signOf_41 (lv_at hl 0 rfl) ?_
  refine lv_if_ne (tgt := 50) hx hb d_MO_signOf_43 (by decide) (fun hc6 => ?_) (fun hc6 => ?_)
  · have hf := mz_f hc6 hf
    refine lv_iload hx hb d_MO_signOf_50 (lv_at hl 0 rfl) ?_
    obtain rfl := Option.some.inj hf
    exact mz_iret E w rfl d_MO_signOf_52
  · have hf := mz_t hc6 hf
    refine lv_iconst (v := (-1 : Int32)) hx hb d_MO_signOf_46 (by decide) ?_
    refine lv_goto (tgt := 52) hx hb d_MO_signOf_47 (by decide) ?_
    obtain rfl := Option.some.inj hf
    exact mz_iret E w rfl d_MO_signOf_52
set_option maxRecDepth 100000 in
set_option maxHeartbeats 4000000 in
theorem c_MO_signOf {SX : State → Heap → Prop} {dC : Nat → ClassId} {dI : Nat → Nat → Nat} {ad en : Nat → Nat} {ca : Nat → ClassId} (hSK : mz_SK SX ad 55) (l : Launch) (n : Nat) (x0 : Int64) (x2 : Int64) (x4 : Int32) (t : mz_St) (res : (Int32 × mz_St)) (hf : f_MO_signOf n x0 x2 x4 t = some res) : mz_C SX mz_tM 55 mz_cl dC dI ad en ca l y_MO_signOf prog_15_method_65_code 6 (some (.int)) (r_MO_signOf) [.long x0, .long x2, .int x4] t (some (.int res.1)) res.2 := by
  unfold f_MO_signOf at hf
  refine mz_met hSK (by decide) (Nat.le_of_ble_eq_true rfl) ?_
  intro p e s m args below meth c ls E w hl
  obtain ⟨hx, hb, hml, hown, hcx, -, -, hSX, -, -, -⟩ := id E
  have hl : lv_has ls 6 [(0, .long x0), (2, .long x2), (4, .int x4)] := hl
  refine lv_iload hx hb d_MO_signOf_0 (lv_at hl 2 rfl) ?_
  refine lv_iconst (v := (0 : Int32)) hx hb d_MO_signOf_2 (by decide) ?_
  refine lv_bipush (v := (11 : Int32)) hx hb d_MO_signOf_3 (by decide) ?_
  obtain ⟨q1, hq2, hf⟩ := mz_bd hf
  refine mz_callS E w (As := [.int x4, .int (0 : Int32), .int (11 : Int32)]) (rest := []) (c_MO_in hSK l n x4 (0 : Int32) (11 : Int32) t q1 hq2) k_1435 k_15 k_1433 k_1434 hm_MO_in ⟨⟨rfl, rfl⟩, Nat.le_of_ble_eq_true rfl, Nat.le_of_ble_eq_true rfl⟩ rfl hl.1 rfl (Nat.le_of_ble_eq_true rfl) d_MO_signOf_5 ⟨Nat.zero_le _, Nat.zero_le _⟩ (st1 := [.int q1.1]) rfl (fun H locs w => ?_)
  refine lv_if_ne (tgt := 13) hx hb d_MO_signOf_8 (by decide) (fun hc3 => ?_) (fun hc3 => ?_)
  · have hf := mz_f hc3 hf
    refine lv_iload hx hb d_MO_signOf_13 (lv_at hl 2 rfl) ?_
    refine lv_bipush (v := (8 : Int32)) hx hb d_MO_signOf_15 (by decide) ?_
    refine lv_icmp_ge (tgt := 24) hx hb d_MO_signOf_17 (by decide) (fun hc4 => ?_) (fun hc4 => ?_)
    · have hf := mz_t hc4 hf
      refine lv_lload_n hx hb d_MO_signOf_24 rfl (lv_at hl 1 rfl) ?_
      exact b_MO_signOf_25 E n x4 x2 q1.2 hf _ _ _ w (lv_sub hl [2] rfl)
    · have hf := mz_f hc4 hf
      refine lv_lload_n hx hb d_MO_signOf_20 rfl (lv_at hl 0 rfl) ?_
      refine lv_goto (tgt := 25) hx hb d_MO_signOf_21 (by decide) ?_
      exact b_MO_signOf_25 E n x4 x0 q1.2 hf _ _ _ w (lv_sub hl [2] rfl)
  · have hf := mz_t hc3 hf
    refine lv_iconst (v := (-1 : Int32)) hx hb d_MO_signOf_11 (by decide) ?_
    obtain rfl := Option.some.inj hf
    exact mz_iret E w rfl d_MO_signOf_12

/-! MacroHouseModel.constant(II)I -/
abbrev r_MO_constant : Room := { frames := 2, cells := 0, slots := 0, locals := 47 }
def f_MO_constant_35 (n : Nat) (x1 : Int32) (x2 : Int32) (s1 : Int32) (s2 : Int32) (t : mz_St) : Option (Int32 × mz_St) := (f_MO_refuse n s1 s2 t).bind fun q5 => if q5.1 = 0 then (if x2 = 0 then (if ¬ (x1 < 0 ∨ 64 ≤ x1.toNatClampNeg) then (some ((mz_gI q5.2 17 x1.toNatClampNeg), q5.2)) else none) else (if ¬ (x1 < 0 ∨ 64 ≤ x1.toNatClampNeg) then (if ¬ (x1 < 0 ∨ 64 ≤ x1.toNatClampNeg) then ((f_MO_signOf n (mz_gL q5.2 15 x1.toNatClampNeg) (mz_gL q5.2 16 x1.toNatClampNeg) (x2 - (1 : Int32)) q5.2).bind fun q11 => some (q11.1, q11.2)) else none) else none)) else (some ((0 : Int32), q5.2))
def f_MO_constant_34 (n : Nat) (x1 : Int32) (x2 : Int32) (s1 : Int32) (t : mz_St) : Option (Int32 × mz_St) := f_MO_constant_35 n x1 x2 s1 (0 : Int32) t
def f_MO_constant_22 (n : Nat) (x1 : Int32) (x2 : Int32) (x3 : Int32) (s1 : Int32) (t : mz_St) : Option (Int32 × mz_St) := if x3 = 0 then (f_MO_constant_34 n x1 x2 s1 t) else (if 0 ≤ x2 then (f_MO_constant_34 n x1 x2 s1 t) else (f_MO_constant_35 n x1 x2 s1 (1 : Int32) t))
def f_MO_constant (n : Nat) (x1 : Int32) (x2 : Int32) (t : mz_St) : Option (Int32 × mz_St) := (f_MO_in n x1 (0 : Int32) ((mz_gI t 0 24) - (1 : Int32)) t).bind fun q1 => if q1.1 = 0 then (f_MO_constant_22 n x1 x2 q1.1 (1 : Int32) q1.2) else (f_MO_constant_22 n x1 x2 q1.1 (0 : Int32) q1.2)
set_option maxRecDepth 100000 in
set_option maxHeartbeats 4000000 in
theorem b_MO_constant_35 {SX : State → Heap → Prop} {dC : Nat → ClassId} {dI : Nat → Nat → Nat} {ad en : Nat → Nat} {ca : Nat → ClassId} {p : Program} {l : Launch} {e : Env} {s : State} {m : MethodId} {args : Array Value} {below : List Frame} {meth : Method} {c : Code} {res : (Int32 × mz_St)} (E : mz_En SX 55 mz_cl dC dI ad ca p s m meth c prog_15_method_66_code 4 "MacroHouseModel" (some (.int))) (n : Nat) : ∀ (x1 : Int32) (x2 : Int32) (s1 : Int32) (s2 : Int32) (t : mz_St), f_MO_constant_35 n x1 x2 s1 s2 t = some res → ∀ (H : Heap) (locs : List Loc) (ls : Array Slot), mz_Wd mz_tM 55 mz_cl dC dI ad en ca s t H locs → lv_has ls 4 [(0, .ref (ad 0)), (1, .int x1), (2, .int x2)] → W p l e (r_MO_constant) s m args below meth c H locs 0 0 (MQ below (mz_Q SX mz_tM 55 mz_cl dC dI ad en ca (some (.int res.1)) res.2) args s 0 0 (mz_A ad 55)) (F0 m 35 ls [.int s2, .int s1, .ref (ad 0)]) := by
  obtain ⟨hx, hb, hml, hown, hcx, -, -, hSX, -, -, hSK⟩ := id E
  intro x1 x2 s1 s2 t hf H locs ls w hl
  unfold f_MO_constant_35 at hf
  obtain ⟨q5, hq6, hf⟩ := mz_bd hf
  refine mz_callV E w (k := 0) (As := [.int s1, .int s2]) (rest := []) (c_MO_refuse hSK l n s1 s2 t q5 hq6) (by decide) rfl rfl k_1439 k_15 k_1436 k_1438 ks_48 hm_MO_refuse ⟨⟨rfl, rfl⟩, Nat.le_of_ble_eq_true rfl, Nat.le_of_ble_eq_true rfl⟩ rfl hl.1 rfl (Nat.le_of_ble_eq_true rfl) d_MO_constant_35 ⟨Nat.zero_le _, Nat.zero_le _⟩ (st1 := [.int q5.1]) rfl (fun H locs w => ?_)
  refine lv_if_eq (tgt := 43) hx hb d_MO_constant_38 (by decide) (fun hc7 => ?_) (fun hc7 => ?_)
  · have hf := mz_t hc7 hf
    refine lv_iload_n hx hb d_MO_constant_43 rfl (lv_at hl 2 rfl) ?_
    refine lv_if_ne (tgt := 56) hx hb d_MO_constant_44 (by decide) (fun hc8 => ?_) (fun hc8 => ?_)
    · have hf := mz_f hc8 hf
      refine lv_aload_n hx hb d_MO_constant_56 rfl (lv_at hl 0 rfl) ?_
      refine mz_get E w 0 25 (v := .ref (ad 15)) (by decide) rfl rfl ii_11 (by decide) (Nat.le_of_ble_eq_true rfl) k_1208 rfl d_MO_constant_57 ?_
      refine lv_iload_n hx hb d_MO_constant_60 rfl (lv_at hl 1 rfl) ?_
      obtain ⟨hi9, hf⟩ := mz_gd hf
      refine mz_lald E w 15 (by decide) rfl hi9 d_MO_constant_61 ?_
      refine lv_aload_n hx hb d_MO_constant_62 rfl (lv_at hl 0 rfl) ?_
      refine mz_get E w 0 26 (v := .ref (ad 16)) (by decide) rfl rfl ii_11 (by decide) (Nat.le_of_ble_eq_true rfl) k_1209 rfl d_MO_constant_63 ?_
      refine lv_iload_n hx hb d_MO_constant_66 rfl (lv_at hl 1 rfl) ?_
      obtain ⟨hi10, hf⟩ := mz_gd hf
      refine mz_lald E w 16 (by decide) rfl hi10 d_MO_constant_67 ?_
      refine lv_iload_n hx hb d_MO_constant_68 rfl (lv_at hl 2 rfl) ?_
      refine lv_iconst (v := (1 : Int32)) hx hb d_MO_constant_69 (by decide) ?_
      refine lv_isub hx hb d_MO_constant_70 ?_
      obtain ⟨q11, hq12, hf⟩ := mz_bd hf
      refine mz_callS E w (As := [.long (mz_gL q5.2 15 x1.toNatClampNeg), .long (mz_gL q5.2 16 x1.toNatClampNeg), .int (x2 - (1 : Int32))]) (rest := []) (c_MO_signOf hSK l n (mz_gL q5.2 15 x1.toNatClampNeg) (mz_gL q5.2 16 x1.toNatClampNeg) (x2 - (1 : Int32)) q5.2 q11 hq12) k_1691 k_15 k_1689 k_1690 hm_MO_signOf ⟨⟨rfl, rfl⟩, Nat.le_of_ble_eq_true rfl, Nat.le_of_ble_eq_true rfl⟩ rfl hl.1 rfl (Nat.le_of_ble_eq_true rfl) d_MO_constant_71 ⟨Nat.zero_le _, Nat.zero_le _⟩ (st1 := [.int q11.1]) rfl (fun H locs w => ?_)
      obtain rfl := Option.some.inj hf
      exact mz_iret E w rfl d_MO_constant_74
    · have hf := mz_t hc8 hf
      refine lv_aload_n hx hb d_MO_constant_47 rfl (lv_at hl 0 rfl) ?_
      refine mz_get E w 0 27 (v := .ref (ad 17)) (by decide) rfl rfl ii_11 (by decide) (Nat.le_of_ble_eq_true rfl) k_1210 rfl d_MO_constant_48 ?_
      refine lv_iload_n hx hb d_MO_constant_51 rfl (lv_at hl 1 rfl) ?_
      obtain ⟨hi13, hf⟩ := mz_gd hf
      refine mz_iald E w 17 (by decide) rfl hi13 d_MO_constant_52 ?_
      refine lv_goto (tgt := 74) hx hb d_MO_constant_53 (by decide) ?_
      obtain rfl := Option.some.inj hf
      exact mz_iret E w rfl d_MO_constant_74
  · have hf := mz_f hc7 hf
    refine lv_iconst (v := (0 : Int32)) hx hb d_MO_constant_41 (by decide) ?_
    obtain rfl := Option.some.inj hf
    exact mz_iret E w rfl d_MO_constant_42
set_option maxRecDepth 100000 in
set_option maxHeartbeats 4000000 in
theorem b_MO_constant_34 {SX : State → Heap → Prop} {dC : Nat → ClassId} {dI : Nat → Nat → Nat} {ad en : Nat → Nat} {ca : Nat → ClassId} {p : Program} {l : Launch} {e : Env} {s : State} {m : MethodId} {args : Array Value} {below : List Frame} {meth : Method} {c : Code} {res : (Int32 × mz_St)} (E : mz_En SX 55 mz_cl dC dI ad ca p s m meth c prog_15_method_66_code 4 "MacroHouseModel" (some (.int))) (n : Nat) : ∀ (x1 : Int32) (x2 : Int32) (s1 : Int32) (t : mz_St), f_MO_constant_34 n x1 x2 s1 t = some res → ∀ (H : Heap) (locs : List Loc) (ls : Array Slot), mz_Wd mz_tM 55 mz_cl dC dI ad en ca s t H locs → lv_has ls 4 [(0, .ref (ad 0)), (1, .int x1), (2, .int x2)] → W p l e (r_MO_constant) s m args below meth c H locs 0 0 (MQ below (mz_Q SX mz_tM 55 mz_cl dC dI ad en ca (some (.int res.1)) res.2) args s 0 0 (mz_A ad 55)) (F0 m 34 ls [.int s1, .ref (ad 0)]) := by
  obtain ⟨hx, hb, hml, hown, hcx, -, -, hSX, -, -, hSK⟩ := id E
  intro x1 x2 s1 t hf H locs ls w hl
  unfold f_MO_constant_34 at hf
  refine lv_iconst (v := (0 : Int32)) hx hb d_MO_constant_34 (by decide) ?_
  exact b_MO_constant_35 E n x1 x2 s1 (0 : Int32) t hf _ _ _ w (lv_sub hl [0, 1, 2] rfl)
set_option maxRecDepth 100000 in
set_option maxHeartbeats 4000000 in
theorem b_MO_constant_22 {SX : State → Heap → Prop} {dC : Nat → ClassId} {dI : Nat → Nat → Nat} {ad en : Nat → Nat} {ca : Nat → ClassId} {p : Program} {l : Launch} {e : Env} {s : State} {m : MethodId} {args : Array Value} {below : List Frame} {meth : Method} {c : Code} {res : (Int32 × mz_St)} (E : mz_En SX 55 mz_cl dC dI ad ca p s m meth c prog_15_method_66_code 4 "MacroHouseModel" (some (.int))) (n : Nat) : ∀ (x1 : Int32) (x2 : Int32) (x3 : Int32) (s1 : Int32) (t : mz_St), f_MO_constant_22 n x1 x2 x3 s1 t = some res → ∀ (H : Heap) (locs : List Loc) (ls : Array Slot), mz_Wd mz_tM 55 mz_cl dC dI ad en ca s t H locs → lv_has ls 4 [(0, .ref (ad 0)), (1, .int x1), (2, .int x2), (3, .int x3)] → W p l e (r_MO_constant) s m args below meth c H locs 0 0 (MQ below (mz_Q SX mz_tM 55 mz_cl dC dI ad en ca (some (.int res.1)) res.2) args s 0 0 (mz_A ad 55)) (F0 m 22 ls [.int s1, .ref (ad 0)]) := by
  obtain ⟨hx, hb, hml, hown, hcx, -, -, hSX, -, -, hSK⟩ := id E
  intro x1 x2 x3 s1 t hf H locs ls w hl
  unfold f_MO_constant_22 at hf
  refine lv_iload_n hx hb d_MO_constant_22 rfl (lv_at hl 3 rfl) ?_
  refine lv_if_eq (tgt := 34) hx hb d_MO_constant_23 (by decide) (fun hc4 => ?_) (fun hc4 => ?_)
  · have hf := mz_t hc4 hf
    exact b_MO_constant_34 E n x1 x2 s1 t hf _ _ _ w (lv_sub hl [0, 1, 2] rfl)
  · have hf := mz_f hc4 hf
    refine lv_iload_n hx hb d_MO_constant_26 rfl (lv_at hl 2 rfl) ?_
    refine lv_if_ge (tgt := 34) hx hb d_MO_constant_27 (by decide) (fun hc14 => ?_) (fun hc14 => ?_)
    · have hf := mz_t hc14 hf
      exact b_MO_constant_34 E n x1 x2 s1 t hf _ _ _ w (lv_sub hl [0, 1, 2] rfl)
    · have hf := mz_f hc14 hf
      refine lv_iconst (v := (1 : Int32)) hx hb d_MO_constant_30 (by decide) ?_
      refine lv_goto (tgt := 35) hx hb d_MO_constant_31 (by decide) ?_
      exact b_MO_constant_35 E n x1 x2 s1 (1 : Int32) t hf _ _ _ w (lv_sub hl [0, 1, 2] rfl)
set_option maxRecDepth 100000 in
set_option maxHeartbeats 4000000 in
theorem c_MO_constant {SX : State → Heap → Prop} {dC : Nat → ClassId} {dI : Nat → Nat → Nat} {ad en : Nat → Nat} {ca : Nat → ClassId} (hSK : mz_SK SX ad 55) (l : Launch) (n : Nat) (x1 : Int32) (x2 : Int32) (t : mz_St) (res : (Int32 × mz_St)) (hf : f_MO_constant n x1 x2 t = some res) : mz_C SX mz_tM 55 mz_cl dC dI ad en ca l y_MO_constant prog_15_method_66_code 4 (some (.int)) (r_MO_constant) [.ref (ad 0), .int x1, .int x2] t (some (.int res.1)) res.2 := by
  unfold f_MO_constant at hf
  refine mz_met hSK (by decide) (Nat.le_of_ble_eq_true rfl) ?_
  intro p e s m args below meth c ls E w hl
  obtain ⟨hx, hb, hml, hown, hcx, -, -, hSX, -, -, -⟩ := id E
  have hl : lv_has ls 4 [(0, .ref (ad 0)), (1, .int x1), (2, .int x2)] := hl
  refine lv_iload_n hx hb d_MO_constant_0 rfl (lv_at hl 1 rfl) ?_
  refine lv_iconst (v := (0 : Int32)) hx hb d_MO_constant_1 (by decide) ?_
  refine lv_aload_n hx hb d_MO_constant_2 rfl (lv_at hl 0 rfl) ?_
  refine mz_get E w 0 24 (v := .int (mz_gI t 0 24)) (by decide) rfl rfl ii_11 (by decide) (Nat.le_of_ble_eq_true rfl) k_1207 rfl d_MO_constant_3 ?_
  refine lv_iconst (v := (1 : Int32)) hx hb d_MO_constant_6 (by decide) ?_
  refine lv_isub hx hb d_MO_constant_7 ?_
  obtain ⟨q1, hq2, hf⟩ := mz_bd hf
  refine mz_callS E w (As := [.int x1, .int (0 : Int32), .int ((mz_gI t 0 24) - (1 : Int32))]) (rest := []) (c_MO_in hSK l n x1 (0 : Int32) ((mz_gI t 0 24) - (1 : Int32)) t q1 hq2) k_1435 k_15 k_1433 k_1434 hm_MO_in ⟨⟨rfl, rfl⟩, Nat.le_of_ble_eq_true rfl, Nat.le_of_ble_eq_true rfl⟩ rfl hl.1 rfl (Nat.le_of_ble_eq_true rfl) d_MO_constant_8 ⟨Nat.zero_le _, Nat.zero_le _⟩ (st1 := [.int q1.1]) rfl (fun H locs w => ?_)
  refine lv_istore_n (lv' := [(3, .int q1.1), (0, .ref (ad 0)), (1, .int x1), (2, .int x2)]) hx hb d_MO_constant_11 rfl hl (by decide) rfl (fun ls hl => ?_)
  refine lv_aload_n hx hb d_MO_constant_12 rfl (lv_at hl 1 rfl) ?_
  refine lv_iload_n hx hb d_MO_constant_13 rfl (lv_at hl 0 rfl) ?_
  refine lv_if_ne (tgt := 21) hx hb d_MO_constant_14 (by decide) (fun hc3 => ?_) (fun hc3 => ?_)
  · have hf := mz_f hc3 hf
    refine lv_iconst (v := (0 : Int32)) hx hb d_MO_constant_21 (by decide) ?_
    exact b_MO_constant_22 E n x1 x2 q1.1 (0 : Int32) q1.2 hf _ _ _ w (lv_sub hl [1, 2, 3, 0] rfl)
  · have hf := mz_t hc3 hf
    refine lv_iconst (v := (1 : Int32)) hx hb d_MO_constant_17 (by decide) ?_
    refine lv_goto (tgt := 22) hx hb d_MO_constant_18 (by decide) ?_
    exact b_MO_constant_22 E n x1 x2 q1.1 (1 : Int32) q1.2 hf _ _ _ w (lv_sub hl [1, 2, 3, 0] rfl)

/-! MacroHouseModel.macro(II)I -/
abbrev r_MO_macro : Room := { frames := 2, cells := 0, slots := 0, locals := 47 }
def f_MO_macro_35 (n : Nat) (x1 : Int32) (x2 : Int32) (s1 : Int32) (s2 : Int32) (t : mz_St) : Option (Int32 × mz_St) := (f_MO_refuse n s1 s2 t).bind fun q5 => if q5.1 = 0 then (if x2 = (0 : Int32) then (if ¬ (x1 < 0 ∨ 16 ≤ x1.toNatClampNeg) then (some ((mz_gI q5.2 10 x1.toNatClampNeg), q5.2)) else none) else (if x2 = (1 : Int32) then (if ¬ (x1 < 0 ∨ 16 ≤ x1.toNatClampNeg) then (if ¬ (x1 < 0 ∨ 16 ≤ x1.toNatClampNeg) then (some (((mz_gI q5.2 7 x1.toNatClampNeg) - (mz_gI q5.2 6 x1.toNatClampNeg)), q5.2)) else none) else none) else (if x2 = (2 : Int32) then (if ¬ (x1 < 0 ∨ 16 ≤ x1.toNatClampNeg) then (some ((mz_gI q5.2 8 x1.toNatClampNeg), q5.2)) else none) else (if x2 = (3 : Int32) then (if ¬ (x1 < 0 ∨ 16 ≤ x1.toNatClampNeg) then (some ((mz_gI q5.2 9 x1.toNatClampNeg), q5.2)) else none) else (if ¬ (x1 < 0 ∨ 16 ≤ x1.toNatClampNeg) then (if ¬ (x1 < 0 ∨ 16 ≤ x1.toNatClampNeg) then ((f_MO_signOf n (mz_gL q5.2 4 x1.toNatClampNeg) (mz_gL q5.2 5 x1.toNatClampNeg) (x2 - (4 : Int32)) q5.2).bind fun q19 => some (q19.1, q19.2)) else none) else none))))) else (some ((0 : Int32), q5.2))
def f_MO_macro_34 (n : Nat) (x1 : Int32) (x2 : Int32) (s1 : Int32) (t : mz_St) : Option (Int32 × mz_St) := f_MO_macro_35 n x1 x2 s1 (0 : Int32) t
def f_MO_macro_22 (n : Nat) (x1 : Int32) (x2 : Int32) (x3 : Int32) (s1 : Int32) (t : mz_St) : Option (Int32 × mz_St) := if x3 = 0 then (f_MO_macro_34 n x1 x2 s1 t) else (if 0 ≤ x2 then (f_MO_macro_34 n x1 x2 s1 t) else (f_MO_macro_35 n x1 x2 s1 (1 : Int32) t))
def f_MO_macro (n : Nat) (x1 : Int32) (x2 : Int32) (t : mz_St) : Option (Int32 × mz_St) := (f_MO_in n x1 (0 : Int32) ((mz_gI t 0 12) - (1 : Int32)) t).bind fun q1 => if q1.1 = 0 then (f_MO_macro_22 n x1 x2 q1.1 (1 : Int32) q1.2) else (f_MO_macro_22 n x1 x2 q1.1 (0 : Int32) q1.2)
set_option maxRecDepth 100000 in
set_option maxHeartbeats 4000000 in
theorem b_MO_macro_35 {SX : State → Heap → Prop} {dC : Nat → ClassId} {dI : Nat → Nat → Nat} {ad en : Nat → Nat} {ca : Nat → ClassId} {p : Program} {l : Launch} {e : Env} {s : State} {m : MethodId} {args : Array Value} {below : List Frame} {meth : Method} {c : Code} {res : (Int32 × mz_St)} (E : mz_En SX 55 mz_cl dC dI ad ca p s m meth c prog_15_method_67_code 4 "MacroHouseModel" (some (.int))) (n : Nat) : ∀ (x1 : Int32) (x2 : Int32) (s1 : Int32) (s2 : Int32) (t : mz_St), f_MO_macro_35 n x1 x2 s1 s2 t = some res → ∀ (H : Heap) (locs : List Loc) (ls : Array Slot), mz_Wd mz_tM 55 mz_cl dC dI ad en ca s t H locs → lv_has ls 4 [(0, .ref (ad 0)), (1, .int x1), (2, .int x2)] → W p l e (r_MO_macro) s m args below meth c H locs 0 0 (MQ below (mz_Q SX mz_tM 55 mz_cl dC dI ad en ca (some (.int res.1)) res.2) args s 0 0 (mz_A ad 55)) (F0 m 35 ls [.int s2, .int s1, .ref (ad 0)]) := by
  obtain ⟨hx, hb, hml, hown, hcx, -, -, hSX, -, -, hSK⟩ := id E
  intro x1 x2 s1 s2 t hf H locs ls w hl
  unfold f_MO_macro_35 at hf
  obtain ⟨q5, hq6, hf⟩ := mz_bd hf
  refine mz_callV E w (k := 0) (As := [.int s1, .int s2]) (rest := []) (c_MO_refuse hSK l n s1 s2 t q5 hq6) (by decide) rfl rfl k_1439 k_15 k_1436 k_1438 ks_48 hm_MO_refuse ⟨⟨rfl, rfl⟩, Nat.le_of_ble_eq_true rfl, Nat.le_of_ble_eq_true rfl⟩ rfl hl.1 rfl (Nat.le_of_ble_eq_true rfl) d_MO_macro_35 ⟨Nat.zero_le _, Nat.zero_le _⟩ (st1 := [.int q5.1]) rfl (fun H locs w => ?_)
  refine lv_if_eq (tgt := 43) hx hb d_MO_macro_38 (by decide) (fun hc7 => ?_) (fun hc7 => ?_)
  · have hf := mz_t hc7 hf
    refine lv_iload_n hx hb d_MO_macro_43 rfl (lv_at hl 2 rfl) ?_
    by_cases hc8 : x2 = (0 : Int32)
    · have hf := mz_t hc8 hf
      refine lv_tableIn (off := 32) (tgt := 76) hx hb d_MO_macro_44 (by rw [hc8]; decide) (by rw [hc8]; decide) (by rw [hc8]; rfl) (by decide) ?_
      refine lv_aload_n hx hb d_MO_macro_76 rfl (lv_at hl 0 rfl) ?_
      refine mz_get E w 0 19 (v := .ref (ad 10)) (by decide) rfl rfl ii_11 (by decide) (Nat.le_of_ble_eq_true rfl) k_1202 rfl d_MO_macro_77 ?_
      refine lv_iload_n hx hb d_MO_macro_80 rfl (lv_at hl 1 rfl) ?_
      obtain ⟨hi9, hf⟩ := mz_gd hf
      refine mz_iald E w 10 (by decide) rfl hi9 d_MO_macro_81 ?_
      obtain rfl := Option.some.inj hf
      exact mz_iret E w rfl d_MO_macro_82
    · have hf := mz_f hc8 hf
      by_cases hc10 : x2 = (1 : Int32)
      · have hf := mz_t hc10 hf
        refine lv_tableIn (off := 39) (tgt := 83) hx hb d_MO_macro_44 (by rw [hc10]; decide) (by rw [hc10]; decide) (by rw [hc10]; rfl) (by decide) ?_
        refine lv_aload_n hx hb d_MO_macro_83 rfl (lv_at hl 0 rfl) ?_
        refine mz_get E w 0 16 (v := .ref (ad 7)) (by decide) rfl rfl ii_11 (by decide) (Nat.le_of_ble_eq_true rfl) k_1199 rfl d_MO_macro_84 ?_
        refine lv_iload_n hx hb d_MO_macro_87 rfl (lv_at hl 1 rfl) ?_
        obtain ⟨hi11, hf⟩ := mz_gd hf
        refine mz_iald E w 7 (by decide) rfl hi11 d_MO_macro_88 ?_
        refine lv_aload_n hx hb d_MO_macro_89 rfl (lv_at hl 0 rfl) ?_
        refine mz_get E w 0 15 (v := .ref (ad 6)) (by decide) rfl rfl ii_11 (by decide) (Nat.le_of_ble_eq_true rfl) k_1198 rfl d_MO_macro_90 ?_
        refine lv_iload_n hx hb d_MO_macro_93 rfl (lv_at hl 1 rfl) ?_
        obtain ⟨hi12, hf⟩ := mz_gd hf
        refine mz_iald E w 6 (by decide) rfl hi12 d_MO_macro_94 ?_
        refine lv_isub hx hb d_MO_macro_95 ?_
        obtain rfl := Option.some.inj hf
        exact mz_iret E w rfl d_MO_macro_96
      · have hf := mz_f hc10 hf
        by_cases hc13 : x2 = (2 : Int32)
        · have hf := mz_t hc13 hf
          refine lv_tableIn (off := 53) (tgt := 97) hx hb d_MO_macro_44 (by rw [hc13]; decide) (by rw [hc13]; decide) (by rw [hc13]; rfl) (by decide) ?_
          refine lv_aload_n hx hb d_MO_macro_97 rfl (lv_at hl 0 rfl) ?_
          refine mz_get E w 0 17 (v := .ref (ad 8)) (by decide) rfl rfl ii_11 (by decide) (Nat.le_of_ble_eq_true rfl) k_1200 rfl d_MO_macro_98 ?_
          refine lv_iload_n hx hb d_MO_macro_101 rfl (lv_at hl 1 rfl) ?_
          obtain ⟨hi14, hf⟩ := mz_gd hf
          refine mz_iald E w 8 (by decide) rfl hi14 d_MO_macro_102 ?_
          obtain rfl := Option.some.inj hf
          exact mz_iret E w rfl d_MO_macro_103
        · have hf := mz_f hc13 hf
          by_cases hc15 : x2 = (3 : Int32)
          · have hf := mz_t hc15 hf
            refine lv_tableIn (off := 60) (tgt := 104) hx hb d_MO_macro_44 (by rw [hc15]; decide) (by rw [hc15]; decide) (by rw [hc15]; rfl) (by decide) ?_
            refine lv_aload_n hx hb d_MO_macro_104 rfl (lv_at hl 0 rfl) ?_
            refine mz_get E w 0 18 (v := .ref (ad 9)) (by decide) rfl rfl ii_11 (by decide) (Nat.le_of_ble_eq_true rfl) k_1201 rfl d_MO_macro_105 ?_
            refine lv_iload_n hx hb d_MO_macro_108 rfl (lv_at hl 1 rfl) ?_
            obtain ⟨hi16, hf⟩ := mz_gd hf
            refine mz_iald E w 9 (by decide) rfl hi16 d_MO_macro_109 ?_
            obtain rfl := Option.some.inj hf
            exact mz_iret E w rfl d_MO_macro_110
          · have hf := mz_f hc15 hf
            refine lv_tableOut (tgt := 111) hx hb d_MO_macro_44 (by have := lv_neT (a := 0) hc8 rfl; have := lv_neT (a := 1) hc10 rfl; have := lv_neT (a := 2) hc13 rfl; have := lv_neT (a := 3) hc15 rfl; omega) (by decide) ?_
            refine lv_aload_n hx hb d_MO_macro_111 rfl (lv_at hl 0 rfl) ?_
            refine mz_get E w 0 13 (v := .ref (ad 4)) (by decide) rfl rfl ii_11 (by decide) (Nat.le_of_ble_eq_true rfl) k_1196 rfl d_MO_macro_112 ?_
            refine lv_iload_n hx hb d_MO_macro_115 rfl (lv_at hl 1 rfl) ?_
            obtain ⟨hi17, hf⟩ := mz_gd hf
            refine mz_lald E w 4 (by decide) rfl hi17 d_MO_macro_116 ?_
            refine lv_aload_n hx hb d_MO_macro_117 rfl (lv_at hl 0 rfl) ?_
            refine mz_get E w 0 14 (v := .ref (ad 5)) (by decide) rfl rfl ii_11 (by decide) (Nat.le_of_ble_eq_true rfl) k_1197 rfl d_MO_macro_118 ?_
            refine lv_iload_n hx hb d_MO_macro_121 rfl (lv_at hl 1 rfl) ?_
            obtain ⟨hi18, hf⟩ := mz_gd hf
            refine mz_lald E w 5 (by decide) rfl hi18 d_MO_macro_122 ?_
            refine lv_iload_n hx hb d_MO_macro_123 rfl (lv_at hl 2 rfl) ?_
            refine lv_iconst (v := (4 : Int32)) hx hb d_MO_macro_124 (by decide) ?_
            refine lv_isub hx hb d_MO_macro_125 ?_
            obtain ⟨q19, hq20, hf⟩ := mz_bd hf
            refine mz_callS E w (As := [.long (mz_gL q5.2 4 x1.toNatClampNeg), .long (mz_gL q5.2 5 x1.toNatClampNeg), .int (x2 - (4 : Int32))]) (rest := []) (c_MO_signOf hSK l n (mz_gL q5.2 4 x1.toNatClampNeg) (mz_gL q5.2 5 x1.toNatClampNeg) (x2 - (4 : Int32)) q5.2 q19 hq20) k_1691 k_15 k_1689 k_1690 hm_MO_signOf ⟨⟨rfl, rfl⟩, Nat.le_of_ble_eq_true rfl, Nat.le_of_ble_eq_true rfl⟩ rfl hl.1 rfl (Nat.le_of_ble_eq_true rfl) d_MO_macro_126 ⟨Nat.zero_le _, Nat.zero_le _⟩ (st1 := [.int q19.1]) rfl (fun H locs w => ?_)
            obtain rfl := Option.some.inj hf
            exact mz_iret E w rfl d_MO_macro_129
  · have hf := mz_f hc7 hf
    refine lv_iconst (v := (0 : Int32)) hx hb d_MO_macro_41 (by decide) ?_
    obtain rfl := Option.some.inj hf
    exact mz_iret E w rfl d_MO_macro_42
set_option maxRecDepth 100000 in
set_option maxHeartbeats 4000000 in
theorem b_MO_macro_34 {SX : State → Heap → Prop} {dC : Nat → ClassId} {dI : Nat → Nat → Nat} {ad en : Nat → Nat} {ca : Nat → ClassId} {p : Program} {l : Launch} {e : Env} {s : State} {m : MethodId} {args : Array Value} {below : List Frame} {meth : Method} {c : Code} {res : (Int32 × mz_St)} (E : mz_En SX 55 mz_cl dC dI ad ca p s m meth c prog_15_method_67_code 4 "MacroHouseModel" (some (.int))) (n : Nat) : ∀ (x1 : Int32) (x2 : Int32) (s1 : Int32) (t : mz_St), f_MO_macro_34 n x1 x2 s1 t = some res → ∀ (H : Heap) (locs : List Loc) (ls : Array Slot), mz_Wd mz_tM 55 mz_cl dC dI ad en ca s t H locs → lv_has ls 4 [(0, .ref (ad 0)), (1, .int x1), (2, .int x2)] → W p l e (r_MO_macro) s m args below meth c H locs 0 0 (MQ below (mz_Q SX mz_tM 55 mz_cl dC dI ad en ca (some (.int res.1)) res.2) args s 0 0 (mz_A ad 55)) (F0 m 34 ls [.int s1, .ref (ad 0)]) := by
  obtain ⟨hx, hb, hml, hown, hcx, -, -, hSX, -, -, hSK⟩ := id E
  intro x1 x2 s1 t hf H locs ls w hl
  unfold f_MO_macro_34 at hf
  refine lv_iconst (v := (0 : Int32)) hx hb d_MO_macro_34 (by decide) ?_
  exact b_MO_macro_35 E n x1 x2 s1 (0 : Int32) t hf _ _ _ w (lv_sub hl [0, 1, 2] rfl)
set_option maxRecDepth 100000 in
set_option maxHeartbeats 4000000 in
theorem b_MO_macro_22 {SX : State → Heap → Prop} {dC : Nat → ClassId} {dI : Nat → Nat → Nat} {ad en : Nat → Nat} {ca : Nat → ClassId} {p : Program} {l : Launch} {e : Env} {s : State} {m : MethodId} {args : Array Value} {below : List Frame} {meth : Method} {c : Code} {res : (Int32 × mz_St)} (E : mz_En SX 55 mz_cl dC dI ad ca p s m meth c prog_15_method_67_code 4 "MacroHouseModel" (some (.int))) (n : Nat) : ∀ (x1 : Int32) (x2 : Int32) (x3 : Int32) (s1 : Int32) (t : mz_St), f_MO_macro_22 n x1 x2 x3 s1 t = some res → ∀ (H : Heap) (locs : List Loc) (ls : Array Slot), mz_Wd mz_tM 55 mz_cl dC dI ad en ca s t H locs → lv_has ls 4 [(0, .ref (ad 0)), (1, .int x1), (2, .int x2), (3, .int x3)] → W p l e (r_MO_macro) s m args below meth c H locs 0 0 (MQ below (mz_Q SX mz_tM 55 mz_cl dC dI ad en ca (some (.int res.1)) res.2) args s 0 0 (mz_A ad 55)) (F0 m 22 ls [.int s1, .ref (ad 0)]) := by
  obtain ⟨hx, hb, hml, hown, hcx, -, -, hSX, -, -, hSK⟩ := id E
  intro x1 x2 x3 s1 t hf H locs ls w hl
  unfold f_MO_macro_22 at hf
  refine lv_iload_n hx hb d_MO_macro_22 rfl (lv_at hl 3 rfl) ?_
  refine lv_if_eq (tgt := 34) hx hb d_MO_macro_23 (by decide) (fun hc4 => ?_) (fun hc4 => ?_)
  · have hf := mz_t hc4 hf
    exact b_MO_macro_34 E n x1 x2 s1 t hf _ _ _ w (lv_sub hl [0, 1, 2] rfl)
  · have hf := mz_f hc4 hf
    refine lv_iload_n hx hb d_MO_macro_26 rfl (lv_at hl 2 rfl) ?_
    refine lv_if_ge (tgt := 34) hx hb d_MO_macro_27 (by decide) (fun hc21 => ?_) (fun hc21 => ?_)
    · have hf := mz_t hc21 hf
      exact b_MO_macro_34 E n x1 x2 s1 t hf _ _ _ w (lv_sub hl [0, 1, 2] rfl)
    · have hf := mz_f hc21 hf
      refine lv_iconst (v := (1 : Int32)) hx hb d_MO_macro_30 (by decide) ?_
      refine lv_goto (tgt := 35) hx hb d_MO_macro_31 (by decide) ?_
      exact b_MO_macro_35 E n x1 x2 s1 (1 : Int32) t hf _ _ _ w (lv_sub hl [0, 1, 2] rfl)
set_option maxRecDepth 100000 in
set_option maxHeartbeats 4000000 in
theorem c_MO_macro {SX : State → Heap → Prop} {dC : Nat → ClassId} {dI : Nat → Nat → Nat} {ad en : Nat → Nat} {ca : Nat → ClassId} (hSK : mz_SK SX ad 55) (l : Launch) (n : Nat) (x1 : Int32) (x2 : Int32) (t : mz_St) (res : (Int32 × mz_St)) (hf : f_MO_macro n x1 x2 t = some res) : mz_C SX mz_tM 55 mz_cl dC dI ad en ca l y_MO_macro prog_15_method_67_code 4 (some (.int)) (r_MO_macro) [.ref (ad 0), .int x1, .int x2] t (some (.int res.1)) res.2 := by
  unfold f_MO_macro at hf
  refine mz_met hSK (by decide) (Nat.le_of_ble_eq_true rfl) ?_
  intro p e s m args below meth c ls E w hl
  obtain ⟨hx, hb, hml, hown, hcx, -, -, hSX, -, -, -⟩ := id E
  have hl : lv_has ls 4 [(0, .ref (ad 0)), (1, .int x1), (2, .int x2)] := hl
  refine lv_iload_n hx hb d_MO_macro_0 rfl (lv_at hl 1 rfl) ?_
  refine lv_iconst (v := (0 : Int32)) hx hb d_MO_macro_1 (by decide) ?_
  refine lv_aload_n hx hb d_MO_macro_2 rfl (lv_at hl 0 rfl) ?_
  refine mz_get E w 0 12 (v := .int (mz_gI t 0 12)) (by decide) rfl rfl ii_11 (by decide) (Nat.le_of_ble_eq_true rfl) k_1195 rfl d_MO_macro_3 ?_
  refine lv_iconst (v := (1 : Int32)) hx hb d_MO_macro_6 (by decide) ?_
  refine lv_isub hx hb d_MO_macro_7 ?_
  obtain ⟨q1, hq2, hf⟩ := mz_bd hf
  refine mz_callS E w (As := [.int x1, .int (0 : Int32), .int ((mz_gI t 0 12) - (1 : Int32))]) (rest := []) (c_MO_in hSK l n x1 (0 : Int32) ((mz_gI t 0 12) - (1 : Int32)) t q1 hq2) k_1435 k_15 k_1433 k_1434 hm_MO_in ⟨⟨rfl, rfl⟩, Nat.le_of_ble_eq_true rfl, Nat.le_of_ble_eq_true rfl⟩ rfl hl.1 rfl (Nat.le_of_ble_eq_true rfl) d_MO_macro_8 ⟨Nat.zero_le _, Nat.zero_le _⟩ (st1 := [.int q1.1]) rfl (fun H locs w => ?_)
  refine lv_istore_n (lv' := [(3, .int q1.1), (0, .ref (ad 0)), (1, .int x1), (2, .int x2)]) hx hb d_MO_macro_11 rfl hl (by decide) rfl (fun ls hl => ?_)
  refine lv_aload_n hx hb d_MO_macro_12 rfl (lv_at hl 1 rfl) ?_
  refine lv_iload_n hx hb d_MO_macro_13 rfl (lv_at hl 0 rfl) ?_
  refine lv_if_ne (tgt := 21) hx hb d_MO_macro_14 (by decide) (fun hc3 => ?_) (fun hc3 => ?_)
  · have hf := mz_f hc3 hf
    refine lv_iconst (v := (0 : Int32)) hx hb d_MO_macro_21 (by decide) ?_
    exact b_MO_macro_22 E n x1 x2 q1.1 (0 : Int32) q1.2 hf _ _ _ w (lv_sub hl [1, 2, 3, 0] rfl)
  · have hf := mz_t hc3 hf
    refine lv_iconst (v := (1 : Int32)) hx hb d_MO_macro_17 (by decide) ?_
    refine lv_goto (tgt := 22) hx hb d_MO_macro_18 (by decide) ?_
    exact b_MO_macro_22 E n x1 x2 q1.1 (1 : Int32) q1.2 hf _ _ _ w (lv_sub hl [1, 2, 3, 0] rfl)
