/-! MacroHouse$Output.clear()V -/
abbrev r_OU_clear : Room := { frames := 0, cells := 0, slots := 0, locals := 0 }
def f_OU_clear (n : Nat) (t : mz_St) : Option mz_St := mz_let (mz_pI t 32 5 (0 : Int32)) fun t1 => mz_let (mz_pI t1 32 6 (0 : Int32)) fun t2 => some t2
set_option maxRecDepth 100000 in
set_option maxHeartbeats 4000000 in
theorem c_OU_clear {SX : State → Heap → Prop} {dC : Nat → ClassId} {dI : Nat → Nat → Nat} {ad en : Nat → Nat} {ca : Nat → ClassId} (hSK : mz_SK SX ad 80) (l : Launch) (n : Nat) (t : mz_St) (res : mz_St) (hf : f_OU_clear n t = some res) : mz_C SX mz_tC 80 mz_cl dC dI ad en ca l y_OU_clear prog_10_method_2_code 1 none (r_OU_clear) [.ref (ad 32)] t none res := by
  unfold f_OU_clear at hf
  refine mz_met hSK (by decide) (Nat.le_of_ble_eq_true rfl) ?_
  intro p e s m args below meth c ls E w hl
  obtain ⟨hx, hb, hml, hown, hcx, -, -, hSX, -, -, -⟩ := id E
  have hl : lv_has ls 1 [(0, .ref (ad 32))] := hl
  refine lv_aload_n hx hb d_OU_clear_0 rfl (lv_at hl 0 rfl) ?_
  refine lv_iconst (v := (0 : Int32)) hx hb d_OU_clear_1 (by decide) ?_
  refine mz_put E w 32 5 (v := (0 : Int32)) (by decide) rfl rfl ii_9 tk_9 nm_9 (by decide) (Nat.le_of_ble_eq_true rfl) k_105 rfl (tk_9 5 (by decide)) rfl rfl rfl d_OU_clear_2 (fun H locs w => ?_)
  obtain ⟨t1, e_t1, hf⟩ := mz_lt hf
  rw [← e_t1] at w
  refine lv_aload_n hx hb d_OU_clear_5 rfl (lv_at hl 0 rfl) ?_
  refine lv_iconst (v := (0 : Int32)) hx hb d_OU_clear_6 (by decide) ?_
  refine mz_put E w 32 6 (v := (0 : Int32)) (by decide) rfl rfl ii_9 tk_9 nm_9 (by decide) (Nat.le_of_ble_eq_true rfl) k_107 rfl (tk_9 6 (by decide)) rfl rfl rfl d_OU_clear_7 (fun H locs w => ?_)
  obtain ⟨t2, e_t2, hf⟩ := mz_lt hf
  rw [← e_t2] at w
  obtain rfl := Option.some.inj hf
  exact mz_vret E w rfl d_OU_clear_10

/-! MacroHouse$Output.add(LMacroHouse$Signs;IIII)Z -/
abbrev r_OU_add : Room := { frames := 1, cells := 0, slots := 0, locals := 21 }
def f_OU_add_106 (n : Nat) (x4 : Int32) (x5 : Int32) (t : mz_St) : Option (Int32 × mz_St) := if ¬ ((mz_gI t 32 5) < 0 ∨ 1000 ≤ (mz_gI t 32 5).toNatClampNeg) then (mz_let (mz_pI t 35 (mz_gI t 32 5).toNatClampNeg (mz_gI t 32 6)) fun t8 => if ¬ ((mz_gI t8 32 5) < 0 ∨ 1000 ≤ (mz_gI t8 32 5).toNatClampNeg) then (mz_let (mz_pI t8 36 (mz_gI t8 32 5).toNatClampNeg x4) fun t10 => if ¬ ((mz_gI t10 32 5) < 0 ∨ 1000 ≤ (mz_gI t10 32 5).toNatClampNeg) then (mz_let (mz_pI t10 37 (mz_gI t10 32 5).toNatClampNeg x5) fun t12 => mz_let (mz_pI t12 32 5 ((mz_gI t12 32 5) + (1 : Int32))) fun t13 => some ((1 : Int32), t13)) else none) else none) else none
def f_OU_add_49 (n : Nat) : Nat → Int32 → Int32 → Int32 → Int32 → mz_St → Option (Int32 × mz_St)
  | 0, _, _, _, _, _ => none
  | k + 1, x3, x4, x5, x6, t => if x3 ≤ x6 then (f_OU_add_106 n x4 x5 t) else (if (mz_gI t 32 6) < 0 then (f_OU_add_106 n x4 x5 t) else (if (12000 : Int32) ≤ (mz_gI t 32 6) then (f_OU_add_106 n x4 x5 t) else ((f_SI_at n x6 t).bind fun q16 => if ¬ ((mz_gI t 32 6) < 0 ∨ 12000 ≤ (mz_gI t 32 6).toNatClampNeg) then (mz_let (mz_pI q16.2 33 (mz_gI t 32 6).toNatClampNeg (vp_nar .byte q16.1.toInt8.toInt32)) fun t19 => mz_let (mz_pI t19 32 6 ((mz_gI t19 32 6) + (1 : Int32))) fun t20 => (f_OU_add_49 n k) x3 x4 x5 (x6 + (1 : Int32)) t20) else none)))
def f_OU_add (n : Nat) (x2 : Int32) (x3 : Int32) (x4 : Int32) (x5 : Int32) (t : mz_St) : Option (Int32 × mz_St) := if (mz_gI t 32 5) < 0 then (some ((0 : Int32), t)) else (if (1000 : Int32) ≤ (mz_gI t 32 5) then (some ((0 : Int32), t)) else (if ((mz_gI t 32 6) + (x3 - x2)) ≤ (12000 : Int32) then (if ¬ ((mz_gI t 32 5) < 0 ∨ 1000 ≤ (mz_gI t 32 5).toNatClampNeg) then (mz_let (mz_pI t 34 (mz_gI t 32 5).toNatClampNeg (mz_gI t 32 6)) fun t5 => f_OU_add_49 n n x3 x4 x5 x2 t5) else none) else (some ((0 : Int32), t))))
set_option maxRecDepth 100000 in
set_option maxHeartbeats 4000000 in
theorem b_OU_add_106 {SX : State → Heap → Prop} {dC : Nat → ClassId} {dI : Nat → Nat → Nat} {ad en : Nat → Nat} {ca : Nat → ClassId} {p : Program} {l : Launch} {e : Env} {s : State} {m : MethodId} {args : Array Value} {below : List Frame} {meth : Method} {c : Code} {res : (Int32 × mz_St)} (E : mz_En SX 80 mz_cl dC dI ad ca p s m meth c prog_10_method_3_code 7 "MacroHouse$Output" (some (.boolean))) (n : Nat) : ∀ (x4 : Int32) (x5 : Int32) (t : mz_St), f_OU_add_106 n x4 x5 t = some res → ∀ (H : Heap) (locs : List Loc) (ls : Array Slot), mz_Wd mz_tC 80 mz_cl dC dI ad en ca s t H locs → lv_has ls 7 [(0, .ref (ad 32)), (4, .int x4), (5, .int x5)] → W p l e (r_OU_add) s m args below meth c H locs 0 0 (MQ below (mz_Q SX mz_tC 80 mz_cl dC dI ad en ca (some (.int res.1)) res.2) args s 0 0 (mz_A ad 80)) (F0 m 106 ls []) := by
  obtain ⟨hx, hb, hml, hown, hcx, -, -, hSX, -, -, hSK⟩ := id E
  intro x4 x5 t hf H locs ls w hl
  unfold f_OU_add_106 at hf
  refine lv_aload_n hx hb d_OU_add_106 rfl (lv_at hl 0 rfl) ?_
  refine mz_get E w 32 2 (v := .ref (ad 35)) (by decide) rfl rfl ii_9 (by decide) (Nat.le_of_ble_eq_true rfl) k_102 rfl d_OU_add_107 ?_
  refine lv_aload_n hx hb d_OU_add_110 rfl (lv_at hl 0 rfl) ?_
  refine mz_get E w 32 5 (v := .int (mz_gI t 32 5)) (by decide) rfl rfl ii_9 (by decide) (Nat.le_of_ble_eq_true rfl) k_105 rfl d_OU_add_111 ?_
  refine lv_aload_n hx hb d_OU_add_114 rfl (lv_at hl 0 rfl) ?_
  refine mz_get E w 32 6 (v := .int (mz_gI t 32 6)) (by decide) rfl rfl ii_9 (by decide) (Nat.le_of_ble_eq_true rfl) k_107 rfl d_OU_add_115 ?_
  obtain ⟨hi7, hf⟩ := mz_gd hf
  refine mz_iast E w 35 (x := (mz_gI t 32 6)) (by decide) rfl hi7 d_OU_add_118 (fun H locs w => ?_)
  obtain ⟨t8, e_t8, hf⟩ := mz_lt hf
  rw [← e_t8] at w
  refine lv_aload_n hx hb d_OU_add_119 rfl (lv_at hl 0 rfl) ?_
  refine mz_get E w 32 3 (v := .ref (ad 36)) (by decide) rfl rfl ii_9 (by decide) (Nat.le_of_ble_eq_true rfl) k_103 rfl d_OU_add_120 ?_
  refine lv_aload_n hx hb d_OU_add_123 rfl (lv_at hl 0 rfl) ?_
  refine mz_get E w 32 5 (v := .int (mz_gI t8 32 5)) (by decide) rfl rfl ii_9 (by decide) (Nat.le_of_ble_eq_true rfl) k_105 rfl d_OU_add_124 ?_
  refine lv_iload hx hb d_OU_add_127 (lv_at hl 1 rfl) ?_
  obtain ⟨hi9, hf⟩ := mz_gd hf
  refine mz_iast E w 36 (x := x4) (by decide) rfl hi9 d_OU_add_129 (fun H locs w => ?_)
  obtain ⟨t10, e_t10, hf⟩ := mz_lt hf
  rw [← e_t10] at w
  refine lv_aload_n hx hb d_OU_add_130 rfl (lv_at hl 0 rfl) ?_
  refine mz_get E w 32 4 (v := .ref (ad 37)) (by decide) rfl rfl ii_9 (by decide) (Nat.le_of_ble_eq_true rfl) k_104 rfl d_OU_add_131 ?_
  refine lv_aload_n hx hb d_OU_add_134 rfl (lv_at hl 0 rfl) ?_
  refine mz_get E w 32 5 (v := .int (mz_gI t10 32 5)) (by decide) rfl rfl ii_9 (by decide) (Nat.le_of_ble_eq_true rfl) k_105 rfl d_OU_add_135 ?_
  refine lv_iload hx hb d_OU_add_138 (lv_at hl 2 rfl) ?_
  obtain ⟨hi11, hf⟩ := mz_gd hf
  refine mz_iast E w 37 (x := x5) (by decide) rfl hi11 d_OU_add_140 (fun H locs w => ?_)
  obtain ⟨t12, e_t12, hf⟩ := mz_lt hf
  rw [← e_t12] at w
  refine lv_aload_n hx hb d_OU_add_141 rfl (lv_at hl 0 rfl) ?_
  refine lv_dup hx hb d_OU_add_142 rfl ?_
  refine mz_get E w 32 5 (v := .int (mz_gI t12 32 5)) (by decide) rfl rfl ii_9 (by decide) (Nat.le_of_ble_eq_true rfl) k_105 rfl d_OU_add_143 ?_
  refine lv_iconst (v := (1 : Int32)) hx hb d_OU_add_146 (by decide) ?_
  refine lv_iadd hx hb d_OU_add_147 ?_
  refine mz_put E w 32 5 (v := ((mz_gI t12 32 5) + (1 : Int32))) (by decide) rfl rfl ii_9 tk_9 nm_9 (by decide) (Nat.le_of_ble_eq_true rfl) k_105 rfl (tk_9 5 (by decide)) rfl rfl rfl d_OU_add_148 (fun H locs w => ?_)
  obtain ⟨t13, e_t13, hf⟩ := mz_lt hf
  rw [← e_t13] at w
  refine lv_iconst (v := (1 : Int32)) hx hb d_OU_add_151 (by decide) ?_
  obtain rfl := Option.some.inj hf
  exact mz_zret E w (by decide) rfl d_OU_add_152
set_option maxRecDepth 100000 in
set_option maxHeartbeats 4000000 in
theorem b_OU_add_49 {SX : State → Heap → Prop} {dC : Nat → ClassId} {dI : Nat → Nat → Nat} {ad en : Nat → Nat} {ca : Nat → ClassId} {p : Program} {l : Launch} {e : Env} {s : State} {m : MethodId} {args : Array Value} {below : List Frame} {meth : Method} {c : Code} {res : (Int32 × mz_St)} (E : mz_En SX 80 mz_cl dC dI ad ca p s m meth c prog_10_method_3_code 7 "MacroHouse$Output" (some (.boolean))) (n : Nat) (k : Nat) : ∀ (x3 : Int32) (x4 : Int32) (x5 : Int32) (x6 : Int32) (t : mz_St), f_OU_add_49 n k x3 x4 x5 x6 t = some res → ∀ (H : Heap) (locs : List Loc) (ls : Array Slot), mz_Wd mz_tC 80 mz_cl dC dI ad en ca s t H locs → lv_has ls 7 [(0, .ref (ad 32)), (1, .ref (ad 1)), (3, .int x3), (4, .int x4), (5, .int x5), (6, .int x6)] → W p l e (r_OU_add) s m args below meth c H locs 0 0 (MQ below (mz_Q SX mz_tC 80 mz_cl dC dI ad en ca (some (.int res.1)) res.2) args s 0 0 (mz_A ad 80)) (F0 m 49 ls []) := by
  obtain ⟨hx, hb, hml, hown, hcx, -, -, hSX, -, -, hSK⟩ := id E
  induction k with
  | zero => intro x3 x4 x5 x6 t hf; exact absurd hf (by unfold f_OU_add_49; exact fun h => nomatch h)
  | succ k ih =>
    intro x3 x4 x5 x6 t hf H locs ls w hl
    unfold f_OU_add_49 at hf
    refine lv_iload hx hb d_OU_add_49 (lv_at hl 5 rfl) ?_
    refine lv_iload_n hx hb d_OU_add_51 rfl (lv_at hl 2 rfl) ?_
    refine lv_icmp_ge (tgt := 106) hx hb d_OU_add_52 (by decide) (fun hc6 => ?_) (fun hc6 => ?_)
    · have hf := mz_t hc6 hf
      exact b_OU_add_106 E n x4 x5 t hf _ _ _ w (lv_sub hl [0, 3, 4] rfl)
    · have hf := mz_f hc6 hf
      refine lv_aload_n hx hb d_OU_add_55 rfl (lv_at hl 0 rfl) ?_
      refine mz_get E w 32 6 (v := .int (mz_gI t 32 6)) (by decide) rfl rfl ii_9 (by decide) (Nat.le_of_ble_eq_true rfl) k_107 rfl d_OU_add_56 ?_
      refine lv_if_lt (tgt := 106) hx hb d_OU_add_59 (by decide) (fun hc14 => ?_) (fun hc14 => ?_)
      · have hf := mz_t hc14 hf
        exact b_OU_add_106 E n x4 x5 t hf _ _ _ w (lv_sub hl [0, 3, 4] rfl)
      · have hf := mz_f hc14 hf
        refine lv_aload_n hx hb d_OU_add_62 rfl (lv_at hl 0 rfl) ?_
        refine mz_get E w 32 6 (v := .int (mz_gI t 32 6)) (by decide) rfl rfl ii_9 (by decide) (Nat.le_of_ble_eq_true rfl) k_107 rfl d_OU_add_63 ?_
        refine lv_aload_n hx hb d_OU_add_66 rfl (lv_at hl 0 rfl) ?_
        refine mz_get E w 32 0 (v := .ref (ad 33)) (by decide) rfl rfl ii_9 (by decide) (Nat.le_of_ble_eq_true rfl) k_100 rfl d_OU_add_67 ?_
        refine mz_alen E w 33 (v := (12000 : Int32)) (by decide) rfl (by decide) rfl d_OU_add_70 ?_
        refine lv_icmp_ge (tgt := 106) hx hb d_OU_add_71 (by decide) (fun hc15 => ?_) (fun hc15 => ?_)
        · have hf := mz_t hc15 hf
          exact b_OU_add_106 E n x4 x5 t hf _ _ _ w (lv_sub hl [0, 3, 4] rfl)
        · have hf := mz_f hc15 hf
          refine lv_aload_n hx hb d_OU_add_74 rfl (lv_at hl 0 rfl) ?_
          refine mz_get E w 32 0 (v := .ref (ad 33)) (by decide) rfl rfl ii_9 (by decide) (Nat.le_of_ble_eq_true rfl) k_100 rfl d_OU_add_75 ?_
          refine lv_aload_n hx hb d_OU_add_78 rfl (lv_at hl 0 rfl) ?_
          refine mz_get E w 32 6 (v := .int (mz_gI t 32 6)) (by decide) rfl rfl ii_9 (by decide) (Nat.le_of_ble_eq_true rfl) k_107 rfl d_OU_add_79 ?_
          refine lv_aload_n hx hb d_OU_add_82 rfl (lv_at hl 1 rfl) ?_
          refine lv_iload hx hb d_OU_add_83 (lv_at hl 5 rfl) ?_
          obtain ⟨q16, hq17, hf⟩ := mz_bd hf
          refine mz_callV E w (k := 1) (As := [.int x6]) (rest := [.int (mz_gI t 32 6), .ref (ad 33)]) (c_SI_at hSK l n x6 t q16 hq17) (by decide) rfl rfl k_450 k_2 k_745 k_448 k_449 hm_SI_at ⟨⟨rfl, rfl⟩, Nat.le_of_ble_eq_true rfl, Nat.le_of_ble_eq_true rfl⟩ rfl hl.1 rfl (Nat.le_of_ble_eq_true rfl) d_OU_add_85 ⟨Nat.zero_le _, Nat.zero_le _⟩ (st1 := [.int q16.1, .int (mz_gI t 32 6), .ref (ad 33)]) rfl (fun H locs w => ?_)
          refine lv_i2b (v := q16.1.toInt8.toInt32) hx hb d_OU_add_88 rfl ?_
          obtain ⟨hi18, hf⟩ := mz_gd hf
          refine mz_bast E w 33 (x := q16.1.toInt8.toInt32) (by decide) rfl hi18 d_OU_add_89 (fun H locs w => ?_)
          obtain ⟨t19, e_t19, hf⟩ := mz_lt hf
          rw [← e_t19] at w
          refine lv_aload_n hx hb d_OU_add_90 rfl (lv_at hl 0 rfl) ?_
          refine lv_dup hx hb d_OU_add_91 rfl ?_
          refine mz_get E w 32 6 (v := .int (mz_gI t19 32 6)) (by decide) rfl rfl ii_9 (by decide) (Nat.le_of_ble_eq_true rfl) k_107 rfl d_OU_add_92 ?_
          refine lv_iconst (v := (1 : Int32)) hx hb d_OU_add_95 (by decide) ?_
          refine lv_iadd hx hb d_OU_add_96 ?_
          refine mz_put E w 32 6 (v := ((mz_gI t19 32 6) + (1 : Int32))) (by decide) rfl rfl ii_9 tk_9 nm_9 (by decide) (Nat.le_of_ble_eq_true rfl) k_107 rfl (tk_9 6 (by decide)) rfl rfl rfl d_OU_add_97 (fun H locs w => ?_)
          obtain ⟨t20, e_t20, hf⟩ := mz_lt hf
          rw [← e_t20] at w
          refine lv_iinc (v := (x6 + (1 : Int32))) (lv' := [(6, .int (x6 + (1 : Int32))), (0, .ref (ad 32)), (1, .ref (ad 1)), (3, .int x3), (4, .int x4), (5, .int x5)]) hx hb d_OU_add_100 hl (k := 5) rfl rfl (by decide) rfl (fun ls hl => ?_)
          refine lv_goto (tgt := 49) hx hb d_OU_add_103 (by decide) ?_
          exact ih x3 x4 x5 (x6 + (1 : Int32)) t20 hf _ _ _ w (lv_sub hl [1, 2, 3, 4, 5, 0] rfl)
set_option maxRecDepth 100000 in
set_option maxHeartbeats 4000000 in
theorem c_OU_add {SX : State → Heap → Prop} {dC : Nat → ClassId} {dI : Nat → Nat → Nat} {ad en : Nat → Nat} {ca : Nat → ClassId} (hSK : mz_SK SX ad 80) (l : Launch) (n : Nat) (x2 : Int32) (x3 : Int32) (x4 : Int32) (x5 : Int32) (t : mz_St) (res : (Int32 × mz_St)) (hf : f_OU_add n x2 x3 x4 x5 t = some res) : mz_C SX mz_tC 80 mz_cl dC dI ad en ca l y_OU_add prog_10_method_3_code 7 (some (.boolean)) (r_OU_add) [.ref (ad 32), .ref (ad 1), .int x2, .int x3, .int x4, .int x5] t (some (.int res.1)) res.2 := by
  unfold f_OU_add at hf
  refine mz_met hSK (by decide) (Nat.le_of_ble_eq_true rfl) ?_
  intro p e s m args below meth c ls E w hl
  obtain ⟨hx, hb, hml, hown, hcx, -, -, hSX, -, -, -⟩ := id E
  have hl : lv_has ls 7 [(0, .ref (ad 32)), (1, .ref (ad 1)), (2, .int x2), (3, .int x3), (4, .int x4), (5, .int x5)] := hl
  refine lv_aload_n hx hb d_OU_add_0 rfl (lv_at hl 0 rfl) ?_
  refine mz_get E w 32 5 (v := .int (mz_gI t 32 5)) (by decide) rfl rfl ii_9 (by decide) (Nat.le_of_ble_eq_true rfl) k_105 rfl d_OU_add_1 ?_
  refine lv_if_lt (tgt := 31) hx hb d_OU_add_4 (by decide) (fun hc1 => ?_) (fun hc1 => ?_)
  · have hf := mz_t hc1 hf
    refine lv_iconst (v := (0 : Int32)) hx hb d_OU_add_31 (by decide) ?_
    obtain rfl := Option.some.inj hf
    exact mz_zret E w (by decide) rfl d_OU_add_32
  · have hf := mz_f hc1 hf
    refine lv_aload_n hx hb d_OU_add_7 rfl (lv_at hl 0 rfl) ?_
    refine mz_get E w 32 5 (v := .int (mz_gI t 32 5)) (by decide) rfl rfl ii_9 (by decide) (Nat.le_of_ble_eq_true rfl) k_105 rfl d_OU_add_8 ?_
    refine lv_sipush (v := (1000 : Int32)) hx hb d_OU_add_11 (by decide) ?_
    refine lv_icmp_ge (tgt := 31) hx hb d_OU_add_14 (by decide) (fun hc2 => ?_) (fun hc2 => ?_)
    · have hf := mz_t hc2 hf
      refine lv_iconst (v := (0 : Int32)) hx hb d_OU_add_31 (by decide) ?_
      obtain rfl := Option.some.inj hf
      exact mz_zret E w (by decide) rfl d_OU_add_32
    · have hf := mz_f hc2 hf
      refine lv_aload_n hx hb d_OU_add_17 rfl (lv_at hl 0 rfl) ?_
      refine mz_get E w 32 6 (v := .int (mz_gI t 32 6)) (by decide) rfl rfl ii_9 (by decide) (Nat.le_of_ble_eq_true rfl) k_107 rfl d_OU_add_18 ?_
      refine lv_iload_n hx hb d_OU_add_21 rfl (lv_at hl 3 rfl) ?_
      refine lv_iload_n hx hb d_OU_add_22 rfl (lv_at hl 2 rfl) ?_
      refine lv_isub hx hb d_OU_add_23 ?_
      refine lv_iadd hx hb d_OU_add_24 ?_
      refine lv_sipush (v := (12000 : Int32)) hx hb d_OU_add_25 (by decide) ?_
      refine lv_icmp_le (tgt := 33) hx hb d_OU_add_28 (by decide) (fun hc3 => ?_) (fun hc3 => ?_)
      · have hf := mz_t hc3 hf
        refine lv_aload_n hx hb d_OU_add_33 rfl (lv_at hl 0 rfl) ?_
        refine mz_get E w 32 1 (v := .ref (ad 34)) (by decide) rfl rfl ii_9 (by decide) (Nat.le_of_ble_eq_true rfl) k_101 rfl d_OU_add_34 ?_
        refine lv_aload_n hx hb d_OU_add_37 rfl (lv_at hl 0 rfl) ?_
        refine mz_get E w 32 5 (v := .int (mz_gI t 32 5)) (by decide) rfl rfl ii_9 (by decide) (Nat.le_of_ble_eq_true rfl) k_105 rfl d_OU_add_38 ?_
        refine lv_aload_n hx hb d_OU_add_41 rfl (lv_at hl 0 rfl) ?_
        refine mz_get E w 32 6 (v := .int (mz_gI t 32 6)) (by decide) rfl rfl ii_9 (by decide) (Nat.le_of_ble_eq_true rfl) k_107 rfl d_OU_add_42 ?_
        obtain ⟨hi4, hf⟩ := mz_gd hf
        refine mz_iast E w 34 (x := (mz_gI t 32 6)) (by decide) rfl hi4 d_OU_add_45 (fun H locs w => ?_)
        obtain ⟨t5, e_t5, hf⟩ := mz_lt hf
        rw [← e_t5] at w
        refine lv_iload_n hx hb d_OU_add_46 rfl (lv_at hl 2 rfl) ?_
        refine lv_istore (lv' := [(6, .int x2), (0, .ref (ad 32)), (1, .ref (ad 1)), (2, .int x2), (3, .int x3), (4, .int x4), (5, .int x5)]) hx hb d_OU_add_47 hl (by decide) rfl (fun ls hl => ?_)
        exact b_OU_add_49 E n n x3 x4 x5 x2 t5 hf _ _ _ w (lv_sub hl [1, 2, 4, 5, 6, 0] rfl)
      · have hf := mz_f hc3 hf
        refine lv_iconst (v := (0 : Int32)) hx hb d_OU_add_31 (by decide) ?_
        obtain rfl := Option.some.inj hf
        exact mz_zret E w (by decide) rfl d_OU_add_32

/-! MacroHouse$Output.sign(III)I -/
abbrev r_OU_sign : Room := { frames := 0, cells := 0, slots := 0, locals := 0 }
def f_OU_sign (n : Nat) (x1 : Int32) (x2 : Int32) (x3 : Int32) (t : mz_St) : Option (Int32 × mz_St) := if x3 < 0 then (some ((-1 : Int32), t)) else (if (x2 - x1) ≤ x3 then (some ((-1 : Int32), t)) else (if x1 < 0 then (some ((-1 : Int32), t)) else (if (x1 + x3) < (12000 : Int32) then (if ¬ ((x1 + x3) < 0 ∨ 12000 ≤ (x1 + x3).toNatClampNeg) then (some ((mz_gI t 33 (x1 + x3).toNatClampNeg), t)) else none) else (some ((-1 : Int32), t)))))
set_option maxRecDepth 100000 in
set_option maxHeartbeats 4000000 in
theorem c_OU_sign {SX : State → Heap → Prop} {dC : Nat → ClassId} {dI : Nat → Nat → Nat} {ad en : Nat → Nat} {ca : Nat → ClassId} (hSK : mz_SK SX ad 80) (l : Launch) (n : Nat) (x1 : Int32) (x2 : Int32) (x3 : Int32) (t : mz_St) (res : (Int32 × mz_St)) (hf : f_OU_sign n x1 x2 x3 t = some res) : mz_C SX mz_tC 80 mz_cl dC dI ad en ca l y_OU_sign prog_10_method_5_code 4 (some (.int)) (r_OU_sign) [.ref (ad 32), .int x1, .int x2, .int x3] t (some (.int res.1)) res.2 := by
  unfold f_OU_sign at hf
  refine mz_met hSK (by decide) (Nat.le_of_ble_eq_true rfl) ?_
  intro p e s m args below meth c ls E w hl
  obtain ⟨hx, hb, hml, hown, hcx, -, -, hSX, -, -, -⟩ := id E
  have hl : lv_has ls 4 [(0, .ref (ad 32)), (1, .int x1), (2, .int x2), (3, .int x3)] := hl
  refine lv_iload_n hx hb d_OU_sign_0 rfl (lv_at hl 3 rfl) ?_
  refine lv_if_lt (tgt := 26) hx hb d_OU_sign_1 (by decide) (fun hc1 => ?_) (fun hc1 => ?_)
  · have hf := mz_t hc1 hf
    refine lv_iconst (v := (-1 : Int32)) hx hb d_OU_sign_26 (by decide) ?_
    obtain rfl := Option.some.inj hf
    exact mz_iret E w rfl d_OU_sign_27
  · have hf := mz_f hc1 hf
    refine lv_iload_n hx hb d_OU_sign_4 rfl (lv_at hl 3 rfl) ?_
    refine lv_iload_n hx hb d_OU_sign_5 rfl (lv_at hl 2 rfl) ?_
    refine lv_iload_n hx hb d_OU_sign_6 rfl (lv_at hl 1 rfl) ?_
    refine lv_isub hx hb d_OU_sign_7 ?_
    refine lv_icmp_ge (tgt := 26) hx hb d_OU_sign_8 (by decide) (fun hc2 => ?_) (fun hc2 => ?_)
    · have hf := mz_t hc2 hf
      refine lv_iconst (v := (-1 : Int32)) hx hb d_OU_sign_26 (by decide) ?_
      obtain rfl := Option.some.inj hf
      exact mz_iret E w rfl d_OU_sign_27
    · have hf := mz_f hc2 hf
      refine lv_iload_n hx hb d_OU_sign_11 rfl (lv_at hl 1 rfl) ?_
      refine lv_if_lt (tgt := 26) hx hb d_OU_sign_12 (by decide) (fun hc3 => ?_) (fun hc3 => ?_)
      · have hf := mz_t hc3 hf
        refine lv_iconst (v := (-1 : Int32)) hx hb d_OU_sign_26 (by decide) ?_
        obtain rfl := Option.some.inj hf
        exact mz_iret E w rfl d_OU_sign_27
      · have hf := mz_f hc3 hf
        refine lv_iload_n hx hb d_OU_sign_15 rfl (lv_at hl 1 rfl) ?_
        refine lv_iload_n hx hb d_OU_sign_16 rfl (lv_at hl 3 rfl) ?_
        refine lv_iadd hx hb d_OU_sign_17 ?_
        refine lv_aload_n hx hb d_OU_sign_18 rfl (lv_at hl 0 rfl) ?_
        refine mz_get E w 32 0 (v := .ref (ad 33)) (by decide) rfl rfl ii_9 (by decide) (Nat.le_of_ble_eq_true rfl) k_100 rfl d_OU_sign_19 ?_
        refine mz_alen E w 33 (v := (12000 : Int32)) (by decide) rfl (by decide) rfl d_OU_sign_22 ?_
        refine lv_icmp_lt (tgt := 28) hx hb d_OU_sign_23 (by decide) (fun hc4 => ?_) (fun hc4 => ?_)
        · have hf := mz_t hc4 hf
          refine lv_aload_n hx hb d_OU_sign_28 rfl (lv_at hl 0 rfl) ?_
          refine mz_get E w 32 0 (v := .ref (ad 33)) (by decide) rfl rfl ii_9 (by decide) (Nat.le_of_ble_eq_true rfl) k_100 rfl d_OU_sign_29 ?_
          refine lv_iload_n hx hb d_OU_sign_32 rfl (lv_at hl 1 rfl) ?_
          refine lv_iload_n hx hb d_OU_sign_33 rfl (lv_at hl 3 rfl) ?_
          refine lv_iadd hx hb d_OU_sign_34 ?_
          obtain ⟨hi5, hf⟩ := mz_gd hf
          refine mz_bald E w 33 (by decide) rfl hi5 d_OU_sign_35 ?_
          obtain rfl := Option.some.inj hf
          exact mz_iret E w rfl d_OU_sign_36
        · have hf := mz_f hc4 hf
          refine lv_iconst (v := (-1 : Int32)) hx hb d_OU_sign_26 (by decide) ?_
          obtain rfl := Option.some.inj hf
          exact mz_iret E w rfl d_OU_sign_27

/-! MacroHouse$Output.tell(II)I -/
abbrev r_OU_tell : Room := { frames := 1, cells := 0, slots := 0, locals := 23 }
def f_OU_tell (n : Nat) (x1 : Int32) (x2 : Int32) (t : mz_St) : Option (Int32 × mz_St) := if x1 < 0 then (some ((-1 : Int32), t)) else (if x1 < (1000 : Int32) then (if x2 = (0 : Int32) then (if ¬ (x1 < 0 ∨ 1000 ≤ x1.toNatClampNeg) then (if ¬ (x1 < 0 ∨ 1000 ≤ x1.toNatClampNeg) then (some (((mz_gI t 35 x1.toNatClampNeg) - (mz_gI t 34 x1.toNatClampNeg)), t)) else none) else none) else (if x2 = (1 : Int32) then (if ¬ (x1 < 0 ∨ 1000 ≤ x1.toNatClampNeg) then (some ((mz_gI t 36 x1.toNatClampNeg), t)) else none) else (if x2 = (2 : Int32) then (if ¬ (x1 < 0 ∨ 1000 ≤ x1.toNatClampNeg) then (some ((mz_gI t 37 x1.toNatClampNeg), t)) else none) else (if ¬ (x1 < 0 ∨ 1000 ≤ x1.toNatClampNeg) then (if ¬ (x1 < 0 ∨ 1000 ≤ x1.toNatClampNeg) then ((f_OU_sign n (mz_gI t 34 x1.toNatClampNeg) (mz_gI t 35 x1.toNatClampNeg) (x2 - (3 : Int32)) t).bind fun q12 => some (q12.1, q12.2)) else none) else none)))) else (some ((-1 : Int32), t)))
set_option maxRecDepth 100000 in
set_option maxHeartbeats 4000000 in
theorem c_OU_tell {SX : State → Heap → Prop} {dC : Nat → ClassId} {dI : Nat → Nat → Nat} {ad en : Nat → Nat} {ca : Nat → ClassId} (hSK : mz_SK SX ad 80) (l : Launch) (n : Nat) (x1 : Int32) (x2 : Int32) (t : mz_St) (res : (Int32 × mz_St)) (hf : f_OU_tell n x1 x2 t = some res) : mz_C SX mz_tC 80 mz_cl dC dI ad en ca l y_OU_tell prog_10_method_4_code 3 (some (.int)) (r_OU_tell) [.ref (ad 32), .int x1, .int x2] t (some (.int res.1)) res.2 := by
  unfold f_OU_tell at hf
  refine mz_met hSK (by decide) (Nat.le_of_ble_eq_true rfl) ?_
  intro p e s m args below meth c ls E w hl
  obtain ⟨hx, hb, hml, hown, hcx, -, -, hSX, -, -, -⟩ := id E
  have hl : lv_has ls 3 [(0, .ref (ad 32)), (1, .int x1), (2, .int x2)] := hl
  refine lv_iload_n hx hb d_OU_tell_0 rfl (lv_at hl 1 rfl) ?_
  refine lv_if_lt (tgt := 11) hx hb d_OU_tell_1 (by decide) (fun hc1 => ?_) (fun hc1 => ?_)
  · have hf := mz_t hc1 hf
    refine lv_iconst (v := (-1 : Int32)) hx hb d_OU_tell_11 (by decide) ?_
    obtain rfl := Option.some.inj hf
    exact mz_iret E w rfl d_OU_tell_12
  · have hf := mz_f hc1 hf
    refine lv_iload_n hx hb d_OU_tell_4 rfl (lv_at hl 1 rfl) ?_
    refine lv_sipush (v := (1000 : Int32)) hx hb d_OU_tell_5 (by decide) ?_
    refine lv_icmp_lt (tgt := 13) hx hb d_OU_tell_8 (by decide) (fun hc2 => ?_) (fun hc2 => ?_)
    · have hf := mz_t hc2 hf
      refine lv_iload_n hx hb d_OU_tell_13 rfl (lv_at hl 2 rfl) ?_
      by_cases hc3 : x2 = (0 : Int32)
      · have hf := mz_t hc3 hf
        refine lv_tableIn (off := 26) (tgt := 40) hx hb d_OU_tell_14 (by rw [hc3]; decide) (by rw [hc3]; decide) (by rw [hc3]; rfl) (by decide) ?_
        refine lv_aload_n hx hb d_OU_tell_40 rfl (lv_at hl 0 rfl) ?_
        refine mz_get E w 32 2 (v := .ref (ad 35)) (by decide) rfl rfl ii_9 (by decide) (Nat.le_of_ble_eq_true rfl) k_102 rfl d_OU_tell_41 ?_
        refine lv_iload_n hx hb d_OU_tell_44 rfl (lv_at hl 1 rfl) ?_
        obtain ⟨hi4, hf⟩ := mz_gd hf
        refine mz_iald E w 35 (by decide) rfl hi4 d_OU_tell_45 ?_
        refine lv_aload_n hx hb d_OU_tell_46 rfl (lv_at hl 0 rfl) ?_
        refine mz_get E w 32 1 (v := .ref (ad 34)) (by decide) rfl rfl ii_9 (by decide) (Nat.le_of_ble_eq_true rfl) k_101 rfl d_OU_tell_47 ?_
        refine lv_iload_n hx hb d_OU_tell_50 rfl (lv_at hl 1 rfl) ?_
        obtain ⟨hi5, hf⟩ := mz_gd hf
        refine mz_iald E w 34 (by decide) rfl hi5 d_OU_tell_51 ?_
        refine lv_isub hx hb d_OU_tell_52 ?_
        obtain rfl := Option.some.inj hf
        exact mz_iret E w rfl d_OU_tell_53
      · have hf := mz_f hc3 hf
        by_cases hc6 : x2 = (1 : Int32)
        · have hf := mz_t hc6 hf
          refine lv_tableIn (off := 40) (tgt := 54) hx hb d_OU_tell_14 (by rw [hc6]; decide) (by rw [hc6]; decide) (by rw [hc6]; rfl) (by decide) ?_
          refine lv_aload_n hx hb d_OU_tell_54 rfl (lv_at hl 0 rfl) ?_
          refine mz_get E w 32 3 (v := .ref (ad 36)) (by decide) rfl rfl ii_9 (by decide) (Nat.le_of_ble_eq_true rfl) k_103 rfl d_OU_tell_55 ?_
          refine lv_iload_n hx hb d_OU_tell_58 rfl (lv_at hl 1 rfl) ?_
          obtain ⟨hi7, hf⟩ := mz_gd hf
          refine mz_iald E w 36 (by decide) rfl hi7 d_OU_tell_59 ?_
          obtain rfl := Option.some.inj hf
          exact mz_iret E w rfl d_OU_tell_60
        · have hf := mz_f hc6 hf
          by_cases hc8 : x2 = (2 : Int32)
          · have hf := mz_t hc8 hf
            refine lv_tableIn (off := 47) (tgt := 61) hx hb d_OU_tell_14 (by rw [hc8]; decide) (by rw [hc8]; decide) (by rw [hc8]; rfl) (by decide) ?_
            refine lv_aload_n hx hb d_OU_tell_61 rfl (lv_at hl 0 rfl) ?_
            refine mz_get E w 32 4 (v := .ref (ad 37)) (by decide) rfl rfl ii_9 (by decide) (Nat.le_of_ble_eq_true rfl) k_104 rfl d_OU_tell_62 ?_
            refine lv_iload_n hx hb d_OU_tell_65 rfl (lv_at hl 1 rfl) ?_
            obtain ⟨hi9, hf⟩ := mz_gd hf
            refine mz_iald E w 37 (by decide) rfl hi9 d_OU_tell_66 ?_
            obtain rfl := Option.some.inj hf
            exact mz_iret E w rfl d_OU_tell_67
          · have hf := mz_f hc8 hf
            refine lv_tableOut (tgt := 68) hx hb d_OU_tell_14 (by have := lv_neT (a := 0) hc3 rfl; have := lv_neT (a := 1) hc6 rfl; have := lv_neT (a := 2) hc8 rfl; omega) (by decide) ?_
            refine lv_aload_n hx hb d_OU_tell_68 rfl (lv_at hl 0 rfl) ?_
            refine lv_aload_n hx hb d_OU_tell_69 rfl (lv_at hl 0 rfl) ?_
            refine mz_get E w 32 1 (v := .ref (ad 34)) (by decide) rfl rfl ii_9 (by decide) (Nat.le_of_ble_eq_true rfl) k_101 rfl d_OU_tell_70 ?_
            refine lv_iload_n hx hb d_OU_tell_73 rfl (lv_at hl 1 rfl) ?_
            obtain ⟨hi10, hf⟩ := mz_gd hf
            refine mz_iald E w 34 (by decide) rfl hi10 d_OU_tell_74 ?_
            refine lv_aload_n hx hb d_OU_tell_75 rfl (lv_at hl 0 rfl) ?_
            refine mz_get E w 32 2 (v := .ref (ad 35)) (by decide) rfl rfl ii_9 (by decide) (Nat.le_of_ble_eq_true rfl) k_102 rfl d_OU_tell_76 ?_
            refine lv_iload_n hx hb d_OU_tell_79 rfl (lv_at hl 1 rfl) ?_
            obtain ⟨hi11, hf⟩ := mz_gd hf
            refine mz_iald E w 35 (by decide) rfl hi11 d_OU_tell_80 ?_
            refine lv_iload_n hx hb d_OU_tell_81 rfl (lv_at hl 2 rfl) ?_
            refine lv_iconst (v := (3 : Int32)) hx hb d_OU_tell_82 (by decide) ?_
            refine lv_isub hx hb d_OU_tell_83 ?_
            obtain ⟨q12, hq13, hf⟩ := mz_bd hf
            refine mz_callV E w (k := 32) (As := [.int (mz_gI t 34 x1.toNatClampNeg), .int (mz_gI t 35 x1.toNatClampNeg), .int (x2 - (3 : Int32))]) (rest := []) (c_OU_sign hSK l n (mz_gI t 34 x1.toNatClampNeg) (mz_gI t 35 x1.toNatClampNeg) (x2 - (3 : Int32)) t q12 hq13) (by decide) rfl rfl k_1152 k_5 k_1149 k_1151 ks_47 hm_OU_sign ⟨⟨rfl, rfl⟩, Nat.le_of_ble_eq_true rfl, Nat.le_of_ble_eq_true rfl⟩ rfl hl.1 rfl (Nat.le_of_ble_eq_true rfl) d_OU_tell_84 ⟨Nat.zero_le _, Nat.zero_le _⟩ (st1 := [.int q12.1]) rfl (fun H locs w => ?_)
            obtain rfl := Option.some.inj hf
            exact mz_iret E w rfl d_OU_tell_87
    · have hf := mz_f hc2 hf
      refine lv_iconst (v := (-1 : Int32)) hx hb d_OU_tell_11 (by decide) ?_
      obtain rfl := Option.some.inj hf
      exact mz_iret E w rfl d_OU_tell_12
