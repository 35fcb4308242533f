/-! MacroHouse$Constants.set(III)Z -/
abbrev r_CN_set : Room := { frames := 3, cells := 0, slots := 0, locals := 70 }
def f_CN_set_47 (n : Nat) (x3 : Int32) (x4 : Int32) (t : mz_St) : Option (Int32 × mz_St) := if x4 < 0 then (some ((1 : Int32), t)) else (if (64 : Int32) ≤ x4 then (some ((1 : Int32), t)) else (if ¬ (x4 < 0 ∨ 64 ≤ x4.toNatClampNeg) then (mz_let (mz_pI t 14 x4.toNatClampNeg x3) fun t7 => some ((1 : Int32), t7)) else none))
def f_CN_set (n : Nat) (x1 : Int32) (x2 : Int32) (x3 : Int32) (t : mz_St) : Option (Int32 × mz_St) := (f_NA_find_c n x1 x2 t).bind fun q1 => if q1.1 = (-1 : Int32) then ((f_NA_isFull_c n q1.2).bind fun q8 => if q8.1 = 0 then ((f_NA_add_c n x1 x2 q8.2).bind fun q11 => f_CN_set_47 n x3 (mz_gI q8.2 15 4) q11) else (some ((0 : Int32), q8.2))) else (f_CN_set_47 n x3 q1.1 q1.2)
set_option maxRecDepth 100000 in
set_option maxHeartbeats 4000000 in
theorem b_CN_set_47 {SX : State → Heap → Prop} {dC : Nat → ClassId} {dI : Nat → Nat → Nat} {ad en : Nat → Nat} {ca : Nat → ClassId} {p : Program} {l : Launch} {e : Env} {s : State} {m : MethodId} {args : Array Value} {below : List Frame} {meth : Method} {c : Code} {res : (Int32 × mz_St)} (E : mz_En SX 80 mz_cl dC dI ad ca p s m meth c prog_4_method_3_code 5 "MacroHouse$Constants" (some (.boolean))) (n : Nat) : ∀ (x3 : Int32) (x4 : Int32) (t : mz_St), f_CN_set_47 n x3 x4 t = some res → ∀ (H : Heap) (locs : List Loc) (ls : Array Slot), mz_Wd mz_tC 80 mz_cl dC dI ad en ca s t H locs → lv_has ls 5 [(0, .ref (ad 13)), (3, .int x3), (4, .int x4)] → W p l e (r_CN_set) s m args below meth c H locs 0 0 (MQ below (mz_Q SX mz_tC 80 mz_cl dC dI ad en ca (some (.int res.1)) res.2) args s 0 0 (mz_A ad 80)) (F0 m 47 ls []) := by
  obtain ⟨hx, hb, hml, hown, hcx, -, -, hSX, -, -, hSK⟩ := id E
  intro x3 x4 t hf H locs ls w hl
  unfold f_CN_set_47 at hf
  refine lv_iload hx hb d_CN_set_47 (lv_at hl 2 rfl) ?_
  refine lv_if_lt (tgt := 70) hx hb d_CN_set_49 (by decide) (fun hc4 => ?_) (fun hc4 => ?_)
  · have hf := mz_t hc4 hf
    refine lv_iconst (v := (1 : Int32)) hx hb d_CN_set_70 (by decide) ?_
    obtain rfl := Option.some.inj hf
    exact mz_zret E w (by decide) rfl d_CN_set_71
  · have hf := mz_f hc4 hf
    refine lv_iload hx hb d_CN_set_52 (lv_at hl 2 rfl) ?_
    refine lv_aload_n hx hb d_CN_set_54 rfl (lv_at hl 0 rfl) ?_
    refine mz_get E w 13 1 (v := .ref (ad 14)) (by decide) rfl rfl ii_5 (by decide) (Nat.le_of_ble_eq_true rfl) k_165 rfl d_CN_set_55 ?_
    refine mz_alen E w 14 (v := (64 : Int32)) (by decide) rfl (by decide) rfl d_CN_set_58 ?_
    refine lv_icmp_ge (tgt := 70) hx hb d_CN_set_59 (by decide) (fun hc5 => ?_) (fun hc5 => ?_)
    · have hf := mz_t hc5 hf
      refine lv_iconst (v := (1 : Int32)) hx hb d_CN_set_70 (by decide) ?_
      obtain rfl := Option.some.inj hf
      exact mz_zret E w (by decide) rfl d_CN_set_71
    · have hf := mz_f hc5 hf
      refine lv_aload_n hx hb d_CN_set_62 rfl (lv_at hl 0 rfl) ?_
      refine mz_get E w 13 1 (v := .ref (ad 14)) (by decide) rfl rfl ii_5 (by decide) (Nat.le_of_ble_eq_true rfl) k_165 rfl d_CN_set_63 ?_
      refine lv_iload hx hb d_CN_set_66 (lv_at hl 2 rfl) ?_
      refine lv_iload_n hx hb d_CN_set_68 rfl (lv_at hl 1 rfl) ?_
      obtain ⟨hi6, hf⟩ := mz_gd hf
      refine mz_iast E w 14 (x := x3) (by decide) rfl hi6 d_CN_set_69 (fun H locs w => ?_)
      obtain ⟨t7, e_t7, hf⟩ := mz_lt hf
      rw [← e_t7] at w
      refine lv_iconst (v := (1 : Int32)) hx hb d_CN_set_70 (by decide) ?_
      obtain rfl := Option.some.inj hf
      exact mz_zret E w (by decide) rfl d_CN_set_71
set_option maxRecDepth 100000 in
set_option maxHeartbeats 4000000 in
theorem c_CN_set {SX : State → Heap → Prop} {dC : Nat → ClassId} {dI : Nat → Nat → Nat} {ad en : Nat → Nat} {ca : Nat → ClassId} (hSK : mz_SK SX ad 80) (l : Launch) (n : Nat) (x1 : Int32) (x2 : Int32) (x3 : Int32) (t : mz_St) (res : (Int32 × mz_St)) (hf : f_CN_set n x1 x2 x3 t = some res) : mz_C SX mz_tC 80 mz_cl dC dI ad en ca l y_CN_set prog_4_method_3_code 5 (some (.boolean)) (r_CN_set) [.ref (ad 13), .int x1, .int x2, .int x3] t (some (.int res.1)) res.2 := by
  unfold f_CN_set at hf
  refine mz_met hSK (by decide) (Nat.le_of_ble_eq_true rfl) ?_
  intro p e s m args below meth c ls E w hl
  obtain ⟨hx, hb, hml, hown, hcx, -, -, hSX, -, -, -⟩ := id E
  have hl : lv_has ls 5 [(0, .ref (ad 13)), (1, .int x1), (2, .int x2), (3, .int x3)] := hl
  refine lv_aload_n hx hb d_CN_set_0 rfl (lv_at hl 0 rfl) ?_
  refine mz_get E w 13 0 (v := .ref (ad 15)) (by decide) rfl rfl ii_5 (by decide) (Nat.le_of_ble_eq_true rfl) k_161 rfl d_CN_set_1 ?_
  refine lv_iload_n hx hb d_CN_set_4 rfl (lv_at hl 1 rfl) ?_
  refine lv_iload_n hx hb d_CN_set_5 rfl (lv_at hl 2 rfl) ?_
  obtain ⟨q1, hq2, hf⟩ := mz_bd hf
  refine mz_callV E w (k := 15) (As := [.int x1, .int x2]) (rest := []) (c_NA_find_c hSK l n x1 x2 t q1 hq2) (by decide) rfl rfl k_731 k_9 k_867 k_729 k_730 hm_NA_find ⟨⟨rfl, rfl⟩, Nat.le_of_ble_eq_true rfl, Nat.le_of_ble_eq_true rfl⟩ rfl hl.1 rfl (Nat.le_of_ble_eq_true rfl) d_CN_set_6 ⟨Nat.zero_le _, Nat.zero_le _⟩ (st1 := [.int q1.1]) rfl (fun H locs w => ?_)
  refine lv_istore (lv' := [(4, .int q1.1), (0, .ref (ad 13)), (1, .int x1), (2, .int x2), (3, .int x3)]) hx hb d_CN_set_9 hl (by decide) rfl (fun ls hl => ?_)
  refine lv_iload hx hb d_CN_set_11 (lv_at hl 0 rfl) ?_
  refine lv_iconst (v := (-1 : Int32)) hx hb d_CN_set_13 (by decide) ?_
  refine lv_icmp_ne (tgt := 47) hx hb d_CN_set_14 (by decide) (fun hc3 => ?_) (fun hc3 => ?_)
  · have hf := mz_f hc3 hf
    exact b_CN_set_47 E n x3 q1.1 q1.2 hf _ _ _ w (lv_sub hl [1, 4, 0] rfl)
  · have hf := mz_t hc3 hf
    refine lv_aload_n hx hb d_CN_set_17 rfl (lv_at hl 1 rfl) ?_
    refine mz_get E w 13 0 (v := .ref (ad 15)) (by decide) rfl rfl ii_5 (by decide) (Nat.le_of_ble_eq_true rfl) k_161 rfl d_CN_set_18 ?_
    obtain ⟨q8, hq9, hf⟩ := mz_bd hf
    refine mz_callV E w (k := 15) (As := []) (rest := []) (c_NA_isFull_c hSK l n q1.2 q8 hq9) (by decide) rfl rfl k_871 k_9 k_868 k_869 k_870 hm_NA_isFull ⟨⟨rfl, rfl⟩, Nat.le_of_ble_eq_true rfl, Nat.le_of_ble_eq_true rfl⟩ rfl hl.1 rfl (Nat.le_of_ble_eq_true rfl) d_CN_set_21 ⟨Nat.zero_le _, Nat.zero_le _⟩ (st1 := [.int q8.1]) rfl (fun H locs w => ?_)
    refine lv_if_eq (tgt := 29) hx hb d_CN_set_24 (by decide) (fun hc10 => ?_) (fun hc10 => ?_)
    · have hf := mz_t hc10 hf
      refine lv_aload_n hx hb d_CN_set_29 rfl (lv_at hl 1 rfl) ?_
      refine mz_get E w 13 0 (v := .ref (ad 15)) (by decide) rfl rfl ii_5 (by decide) (Nat.le_of_ble_eq_true rfl) k_161 rfl d_CN_set_30 ?_
      refine mz_get E w 15 4 (v := .int (mz_gI q8.2 15 4)) (by decide) rfl rfl ii_6 (by decide) (Nat.le_of_ble_eq_true rfl) k_147 rfl d_CN_set_33 ?_
      refine lv_istore (lv' := [(4, .int (mz_gI q8.2 15 4)), (0, .ref (ad 13)), (1, .int x1), (2, .int x2), (3, .int x3)]) hx hb d_CN_set_36 hl (by decide) rfl (fun ls hl => ?_)
      refine lv_aload_n hx hb d_CN_set_38 rfl (lv_at hl 1 rfl) ?_
      refine mz_get E w 13 0 (v := .ref (ad 15)) (by decide) rfl rfl ii_5 (by decide) (Nat.le_of_ble_eq_true rfl) k_161 rfl d_CN_set_39 ?_
      refine lv_iload_n hx hb d_CN_set_42 rfl (lv_at hl 2 rfl) ?_
      refine lv_iload_n hx hb d_CN_set_43 rfl (lv_at hl 3 rfl) ?_
      obtain ⟨q11, hq12, hf⟩ := mz_bd hf
      refine mz_callV E w (k := 15) (As := [.int x1, .int x2]) (rest := []) (c_NA_add_c hSK l n x1 x2 q8.2 q11 hq12) (by decide) rfl rfl k_875 k_9 k_872 k_873 k_874 hm_NA_add ⟨⟨rfl, rfl⟩, Nat.le_of_ble_eq_true rfl, Nat.le_of_ble_eq_true rfl⟩ rfl hl.1 rfl (Nat.le_of_ble_eq_true rfl) d_CN_set_44 ⟨Nat.zero_le _, Nat.zero_le _⟩ (st1 := []) rfl (fun H locs w => ?_)
      exact b_CN_set_47 E n x3 (mz_gI q8.2 15 4) q11 hf _ _ _ w (lv_sub hl [1, 4, 0] rfl)
    · have hf := mz_f hc10 hf
      refine lv_iconst (v := (0 : Int32)) hx hb d_CN_set_27 (by decide) ?_
      obtain rfl := Option.some.inj hf
      exact mz_zret E w (by decide) rfl d_CN_set_28

/-! MacroHouse$Constants.forget(II)Z -/
abbrev r_CN_forget : Room := { frames := 3, cells := 0, slots := 0, locals := 70 }
def f_CN_forget_28 (n : Nat) : Nat → Int32 → mz_St → Option (Int32 × mz_St)
  | 0, _, _ => none
  | k + 1, x4, t => if (mz_gI t 15 4) ≤ x4 then (some ((1 : Int32), t)) else (if x4 < 0 then (some ((1 : Int32), t)) else (if (64 : Int32) ≤ (x4 + (1 : Int32)) then (some ((1 : Int32), t)) else (if ¬ ((x4 + (1 : Int32)) < 0 ∨ 64 ≤ (x4 + (1 : Int32)).toNatClampNeg) then (if ¬ (x4 < 0 ∨ 64 ≤ x4.toNatClampNeg) then (mz_let (mz_pI t 14 x4.toNatClampNeg (mz_gI t 14 (x4 + (1 : Int32)).toNatClampNeg)) fun t11 => (f_CN_forget_28 n k) (x4 + (1 : Int32)) t11) else none) else none)))
def f_CN_forget (n : Nat) (x1 : Int32) (x2 : Int32) (t : mz_St) : Option (Int32 × mz_St) := (f_NA_find_c n x1 x2 t).bind fun q1 => if q1.1 = (-1 : Int32) then (some ((0 : Int32), q1.2)) else ((f_NA_remove_c n q1.1 q1.2).bind fun q4 => f_CN_forget_28 n n q1.1 q4)
set_option maxRecDepth 100000 in
set_option maxHeartbeats 4000000 in
theorem b_CN_forget_28 {SX : State → Heap → Prop} {dC : Nat → ClassId} {dI : Nat → Nat → Nat} {ad en : Nat → Nat} {ca : Nat → ClassId} {p : Program} {l : Launch} {e : Env} {s : State} {m : MethodId} {args : Array Value} {below : List Frame} {meth : Method} {c : Code} {res : (Int32 × mz_St)} (E : mz_En SX 80 mz_cl dC dI ad ca p s m meth c prog_4_method_4_code 5 "MacroHouse$Constants" (some (.boolean))) (n : Nat) (k : Nat) : ∀ (x4 : Int32) (t : mz_St), f_CN_forget_28 n k x4 t = some res → ∀ (H : Heap) (locs : List Loc) (ls : Array Slot), mz_Wd mz_tC 80 mz_cl dC dI ad en ca s t H locs → lv_has ls 5 [(0, .ref (ad 13)), (4, .int x4)] → W p l e (r_CN_forget) s m args below meth c H locs 0 0 (MQ below (mz_Q SX mz_tC 80 mz_cl dC dI ad en ca (some (.int res.1)) res.2) args s 0 0 (mz_A ad 80)) (F0 m 28 ls []) := by
  obtain ⟨hx, hb, hml, hown, hcx, -, -, hSX, -, -, hSK⟩ := id E
  induction k with
  | zero => intro x4 t hf; exact absurd hf (by unfold f_CN_forget_28; exact fun h => nomatch h)
  | succ k ih =>
    intro x4 t hf H locs ls w hl
    unfold f_CN_forget_28 at hf
    refine lv_iload hx hb d_CN_forget_28 (lv_at hl 1 rfl) ?_
    refine lv_aload_n hx hb d_CN_forget_30 rfl (lv_at hl 0 rfl) ?_
    refine mz_get E w 13 0 (v := .ref (ad 15)) (by decide) rfl rfl ii_5 (by decide) (Nat.le_of_ble_eq_true rfl) k_161 rfl d_CN_forget_31 ?_
    refine mz_get E w 15 4 (v := .int (mz_gI t 15 4)) (by decide) rfl rfl ii_6 (by decide) (Nat.le_of_ble_eq_true rfl) k_147 rfl d_CN_forget_34 ?_
    refine lv_icmp_ge (tgt := 79) hx hb d_CN_forget_37 (by decide) (fun hc6 => ?_) (fun hc6 => ?_)
    · have hf := mz_t hc6 hf
      refine lv_iconst (v := (1 : Int32)) hx hb d_CN_forget_79 (by decide) ?_
      obtain rfl := Option.some.inj hf
      exact mz_zret E w (by decide) rfl d_CN_forget_80
    · have hf := mz_f hc6 hf
      refine lv_iload hx hb d_CN_forget_40 (lv_at hl 1 rfl) ?_
      refine lv_if_lt (tgt := 79) hx hb d_CN_forget_42 (by decide) (fun hc7 => ?_) (fun hc7 => ?_)
      · have hf := mz_t hc7 hf
        refine lv_iconst (v := (1 : Int32)) hx hb d_CN_forget_79 (by decide) ?_
        obtain rfl := Option.some.inj hf
        exact mz_zret E w (by decide) rfl d_CN_forget_80
      · have hf := mz_f hc7 hf
        refine lv_iload hx hb d_CN_forget_45 (lv_at hl 1 rfl) ?_
        refine lv_iconst (v := (1 : Int32)) hx hb d_CN_forget_47 (by decide) ?_
        refine lv_iadd hx hb d_CN_forget_48 ?_
        refine lv_aload_n hx hb d_CN_forget_49 rfl (lv_at hl 0 rfl) ?_
        refine mz_get E w 13 1 (v := .ref (ad 14)) (by decide) rfl rfl ii_5 (by decide) (Nat.le_of_ble_eq_true rfl) k_165 rfl d_CN_forget_50 ?_
        refine mz_alen E w 14 (v := (64 : Int32)) (by decide) rfl (by decide) rfl d_CN_forget_53 ?_
        refine lv_icmp_ge (tgt := 79) hx hb d_CN_forget_54 (by decide) (fun hc8 => ?_) (fun hc8 => ?_)
        · have hf := mz_t hc8 hf
          refine lv_iconst (v := (1 : Int32)) hx hb d_CN_forget_79 (by decide) ?_
          obtain rfl := Option.some.inj hf
          exact mz_zret E w (by decide) rfl d_CN_forget_80
        · have hf := mz_f hc8 hf
          refine lv_aload_n hx hb d_CN_forget_57 rfl (lv_at hl 0 rfl) ?_
          refine mz_get E w 13 1 (v := .ref (ad 14)) (by decide) rfl rfl ii_5 (by decide) (Nat.le_of_ble_eq_true rfl) k_165 rfl d_CN_forget_58 ?_
          refine lv_iload hx hb d_CN_forget_61 (lv_at hl 1 rfl) ?_
          refine lv_aload_n hx hb d_CN_forget_63 rfl (lv_at hl 0 rfl) ?_
          refine mz_get E w 13 1 (v := .ref (ad 14)) (by decide) rfl rfl ii_5 (by decide) (Nat.le_of_ble_eq_true rfl) k_165 rfl d_CN_forget_64 ?_
          refine lv_iload hx hb d_CN_forget_67 (lv_at hl 1 rfl) ?_
          refine lv_iconst (v := (1 : Int32)) hx hb d_CN_forget_69 (by decide) ?_
          refine lv_iadd hx hb d_CN_forget_70 ?_
          obtain ⟨hi9, hf⟩ := mz_gd hf
          refine mz_iald E w 14 (by decide) rfl hi9 d_CN_forget_71 ?_
          obtain ⟨hi10, hf⟩ := mz_gd hf
          refine mz_iast E w 14 (x := (mz_gI t 14 (x4 + (1 : Int32)).toNatClampNeg)) (by decide) rfl hi10 d_CN_forget_72 (fun H locs w => ?_)
          obtain ⟨t11, e_t11, hf⟩ := mz_lt hf
          rw [← e_t11] at w
          refine lv_iinc (v := (x4 + (1 : Int32))) (lv' := [(4, .int (x4 + (1 : Int32))), (0, .ref (ad 13))]) hx hb d_CN_forget_73 hl (k := 1) rfl rfl (by decide) rfl (fun ls hl => ?_)
          refine lv_goto (tgt := 28) hx hb d_CN_forget_76 (by decide) ?_
          exact ih (x4 + (1 : Int32)) t11 hf _ _ _ w (lv_sub hl [1, 0] rfl)
set_option maxRecDepth 100000 in
set_option maxHeartbeats 4000000 in
theorem c_CN_forget {SX : State → Heap → Prop} {dC : Nat → ClassId} {dI : Nat → Nat → Nat} {ad en : Nat → Nat} {ca : Nat → ClassId} (hSK : mz_SK SX ad 80) (l : Launch) (n : Nat) (x1 : Int32) (x2 : Int32) (t : mz_St) (res : (Int32 × mz_St)) (hf : f_CN_forget n x1 x2 t = some res) : mz_C SX mz_tC 80 mz_cl dC dI ad en ca l y_CN_forget prog_4_method_4_code 5 (some (.boolean)) (r_CN_forget) [.ref (ad 13), .int x1, .int x2] t (some (.int res.1)) res.2 := by
  unfold f_CN_forget at hf
  refine mz_met hSK (by decide) (Nat.le_of_ble_eq_true rfl) ?_
  intro p e s m args below meth c ls E w hl
  obtain ⟨hx, hb, hml, hown, hcx, -, -, hSX, -, -, -⟩ := id E
  have hl : lv_has ls 5 [(0, .ref (ad 13)), (1, .int x1), (2, .int x2)] := hl
  refine lv_aload_n hx hb d_CN_forget_0 rfl (lv_at hl 0 rfl) ?_
  refine mz_get E w 13 0 (v := .ref (ad 15)) (by decide) rfl rfl ii_5 (by decide) (Nat.le_of_ble_eq_true rfl) k_161 rfl d_CN_forget_1 ?_
  refine lv_iload_n hx hb d_CN_forget_4 rfl (lv_at hl 1 rfl) ?_
  refine lv_iload_n hx hb d_CN_forget_5 rfl (lv_at hl 2 rfl) ?_
  obtain ⟨q1, hq2, hf⟩ := mz_bd hf
  refine mz_callV E w (k := 15) (As := [.int x1, .int x2]) (rest := []) (c_NA_find_c hSK l n x1 x2 t q1 hq2) (by decide) rfl rfl k_731 k_9 k_867 k_729 k_730 hm_NA_find ⟨⟨rfl, rfl⟩, Nat.le_of_ble_eq_true rfl, Nat.le_of_ble_eq_true rfl⟩ rfl hl.1 rfl (Nat.le_of_ble_eq_true rfl) d_CN_forget_6 ⟨Nat.zero_le _, Nat.zero_le _⟩ (st1 := [.int q1.1]) rfl (fun H locs w => ?_)
  refine lv_istore_n (lv' := [(3, .int q1.1), (0, .ref (ad 13)), (1, .int x1), (2, .int x2)]) hx hb d_CN_forget_9 rfl hl (by decide) rfl (fun ls hl => ?_)
  refine lv_iload_n hx hb d_CN_forget_10 rfl (lv_at hl 0 rfl) ?_
  refine lv_iconst (v := (-1 : Int32)) hx hb d_CN_forget_11 (by decide) ?_
  refine lv_icmp_ne (tgt := 17) hx hb d_CN_forget_12 (by decide) (fun hc3 => ?_) (fun hc3 => ?_)
  · have hf := mz_f hc3 hf
    refine lv_aload_n hx hb d_CN_forget_17 rfl (lv_at hl 1 rfl) ?_
    refine mz_get E w 13 0 (v := .ref (ad 15)) (by decide) rfl rfl ii_5 (by decide) (Nat.le_of_ble_eq_true rfl) k_161 rfl d_CN_forget_18 ?_
    refine lv_iload_n hx hb d_CN_forget_21 rfl (lv_at hl 0 rfl) ?_
    obtain ⟨q4, hq5, hf⟩ := mz_bd hf
    refine mz_callV E w (k := 15) (As := [.int q1.1]) (rest := []) (c_NA_remove_c hSK l n q1.1 q1.2 q4 hq5) (by decide) rfl rfl k_893 k_9 k_890 k_891 k_892 hm_NA_remove ⟨⟨rfl, rfl⟩, Nat.le_of_ble_eq_true rfl, Nat.le_of_ble_eq_true rfl⟩ rfl hl.1 rfl (Nat.le_of_ble_eq_true rfl) d_CN_forget_22 ⟨Nat.zero_le _, Nat.zero_le _⟩ (st1 := []) rfl (fun H locs w => ?_)
    refine lv_iload_n hx hb d_CN_forget_25 rfl (lv_at hl 0 rfl) ?_
    refine lv_istore (lv' := [(4, .int q1.1), (3, .int q1.1), (0, .ref (ad 13)), (1, .int x1), (2, .int x2)]) hx hb d_CN_forget_26 hl (by decide) rfl (fun ls hl => ?_)
    exact b_CN_forget_28 E n n q1.1 q4 hf _ _ _ w (lv_sub hl [2, 0] rfl)
  · have hf := mz_t hc3 hf
    refine lv_iconst (v := (0 : Int32)) hx hb d_CN_forget_15 (by decide) ?_
    obtain rfl := Option.some.inj hf
    exact mz_zret E w (by decide) rfl d_CN_forget_16

/-! MacroHouse$Constants.numberOf(I)I -/
abbrev r_CN_numberOf : Room := { frames := 0, cells := 0, slots := 0, locals := 0 }
def f_CN_numberOf (n : Nat) (x1 : Int32) (t : mz_St) : Option (Int32 × mz_St) := if x1 < 0 then (some ((0 : Int32), t)) else (if (mz_gI t 15 4) ≤ x1 then (some ((0 : Int32), t)) else (if (64 : Int32) ≤ x1 then (some ((0 : Int32), t)) else (if ¬ (x1 < 0 ∨ 64 ≤ x1.toNatClampNeg) then (some ((mz_gI t 14 x1.toNatClampNeg), t)) else none)))
set_option maxRecDepth 100000 in
set_option maxHeartbeats 4000000 in
theorem c_CN_numberOf {SX : State → Heap → Prop} {dC : Nat → ClassId} {dI : Nat → Nat → Nat} {ad en : Nat → Nat} {ca : Nat → ClassId} (hSK : mz_SK SX ad 80) (l : Launch) (n : Nat) (x1 : Int32) (t : mz_St) (res : (Int32 × mz_St)) (hf : f_CN_numberOf n x1 t = some res) : mz_C SX mz_tC 80 mz_cl dC dI ad en ca l y_CN_numberOf prog_4_method_2_code 2 (some (.int)) (r_CN_numberOf) [.ref (ad 13), .int x1] t (some (.int res.1)) res.2 := by
  unfold f_CN_numberOf at hf
  refine mz_met hSK (by decide) (Nat.le_of_ble_eq_true rfl) ?_
  intro p e s m args below meth c ls E w hl
  obtain ⟨hx, hb, hml, hown, hcx, -, -, hSX, -, -, -⟩ := id E
  have hl : lv_has ls 2 [(0, .ref (ad 13)), (1, .int x1)] := hl
  refine lv_iload_n hx hb d_CN_numberOf_0 rfl (lv_at hl 1 rfl) ?_
  refine lv_if_lt (tgt := 33) hx hb d_CN_numberOf_1 (by decide) (fun hc1 => ?_) (fun hc1 => ?_)
  · have hf := mz_t hc1 hf
    refine lv_iconst (v := (0 : Int32)) hx hb d_CN_numberOf_33 (by decide) ?_
    obtain rfl := Option.some.inj hf
    exact mz_iret E w rfl d_CN_numberOf_34
  · have hf := mz_f hc1 hf
    refine lv_iload_n hx hb d_CN_numberOf_4 rfl (lv_at hl 1 rfl) ?_
    refine lv_aload_n hx hb d_CN_numberOf_5 rfl (lv_at hl 0 rfl) ?_
    refine mz_get E w 13 0 (v := .ref (ad 15)) (by decide) rfl rfl ii_5 (by decide) (Nat.le_of_ble_eq_true rfl) k_161 rfl d_CN_numberOf_6 ?_
    refine mz_get E w 15 4 (v := .int (mz_gI t 15 4)) (by decide) rfl rfl ii_6 (by decide) (Nat.le_of_ble_eq_true rfl) k_147 rfl d_CN_numberOf_9 ?_
    refine lv_icmp_ge (tgt := 33) hx hb d_CN_numberOf_12 (by decide) (fun hc2 => ?_) (fun hc2 => ?_)
    · have hf := mz_t hc2 hf
      refine lv_iconst (v := (0 : Int32)) hx hb d_CN_numberOf_33 (by decide) ?_
      obtain rfl := Option.some.inj hf
      exact mz_iret E w rfl d_CN_numberOf_34
    · have hf := mz_f hc2 hf
      refine lv_iload_n hx hb d_CN_numberOf_15 rfl (lv_at hl 1 rfl) ?_
      refine lv_aload_n hx hb d_CN_numberOf_16 rfl (lv_at hl 0 rfl) ?_
      refine mz_get E w 13 1 (v := .ref (ad 14)) (by decide) rfl rfl ii_5 (by decide) (Nat.le_of_ble_eq_true rfl) k_165 rfl d_CN_numberOf_17 ?_
      refine mz_alen E w 14 (v := (64 : Int32)) (by decide) rfl (by decide) rfl d_CN_numberOf_20 ?_
      refine lv_icmp_ge (tgt := 33) hx hb d_CN_numberOf_21 (by decide) (fun hc3 => ?_) (fun hc3 => ?_)
      · have hf := mz_t hc3 hf
        refine lv_iconst (v := (0 : Int32)) hx hb d_CN_numberOf_33 (by decide) ?_
        obtain rfl := Option.some.inj hf
        exact mz_iret E w rfl d_CN_numberOf_34
      · have hf := mz_f hc3 hf
        refine lv_aload_n hx hb d_CN_numberOf_24 rfl (lv_at hl 0 rfl) ?_
        refine mz_get E w 13 1 (v := .ref (ad 14)) (by decide) rfl rfl ii_5 (by decide) (Nat.le_of_ble_eq_true rfl) k_165 rfl d_CN_numberOf_25 ?_
        refine lv_iload_n hx hb d_CN_numberOf_28 rfl (lv_at hl 1 rfl) ?_
        obtain ⟨hi4, hf⟩ := mz_gd hf
        refine mz_iald E w 14 (by decide) rfl hi4 d_CN_numberOf_29 ?_
        refine lv_goto (tgt := 34) hx hb d_CN_numberOf_30 (by decide) ?_
        obtain rfl := Option.some.inj hf
        exact mz_iret E w rfl d_CN_numberOf_34
