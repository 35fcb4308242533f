/-! MacroHouse$Reader.begin(II)V -/
abbrev r_RE_begin : Room := { frames := 0, cells := 0, slots := 0, locals := 0 }
def f_RE_begin (n : Nat) (x1 : Int32) (x2 : Int32) (t : mz_St) : Option mz_St := mz_let (mz_pI t 6 2 x1) fun t1 => mz_let (mz_pI t1 6 3 x2) fun t2 => mz_let (mz_pI t2 6 6 (0 : Int32)) fun t3 => mz_let (mz_pI t3 6 7 (0 : Int32)) fun t4 => some t4
set_option maxRecDepth 100000 in
set_option maxHeartbeats 4000000 in
theorem c_RE_begin {SX : State → Heap → Prop} {dC : Nat → ClassId} {dI : Nat → Nat → Nat} {ad en : Nat → Nat} {ca : Nat → ClassId} (hSK : mz_SK SX ad 80) (l : Launch) (n : Nat) (x1 : Int32) (x2 : Int32) (t : mz_St) (res : mz_St) (hf : f_RE_begin n x1 x2 t = some res) : mz_C SX mz_tC 80 mz_cl dC dI ad en ca l y_RE_begin prog_11_method_2_code 3 none r_RE_begin [.ref (ad 6), .int x1, .int x2] t none res := by
  unfold f_RE_begin at hf
  refine mz_met hSK (by decide) (Nat.le_of_ble_eq_true rfl) ?_
  intro p e s m args below meth c ls E w hl
  obtain ⟨hx, hb, hml, hown, hcx, -, -, hSX, -, -, -⟩ := id E
  have hl : lv_has ls 3 [(0, .ref (ad 6)), (1, .int x1), (2, .int x2)] := hl
  refine lv_aload_n hx hb d_RE_begin_0 rfl (lv_at hl 0 rfl) ?_
  refine lv_iload_n hx hb d_RE_begin_1 rfl (lv_at hl 1 rfl) ?_
  refine mz_put E w 6 2 (v := x1) (by decide) rfl rfl ii_3 tk_3 nm_3 (by decide) (Nat.le_of_ble_eq_true rfl) k_179 rfl (tk_3 2 (by decide)) rfl rfl rfl d_RE_begin_2 (fun H locs w => ?_)
  obtain ⟨t1, e_t1, hf⟩ := mz_lt hf
  rw [← e_t1] at w
  refine lv_aload_n hx hb d_RE_begin_5 rfl (lv_at hl 0 rfl) ?_
  refine lv_iload_n hx hb d_RE_begin_6 rfl (lv_at hl 2 rfl) ?_
  refine mz_put E w 6 3 (v := x2) (by decide) rfl rfl ii_3 tk_3 nm_3 (by decide) (Nat.le_of_ble_eq_true rfl) k_182 rfl (tk_3 3 (by decide)) rfl rfl rfl d_RE_begin_7 (fun H locs w => ?_)
  obtain ⟨t2, e_t2, hf⟩ := mz_lt hf
  rw [← e_t2] at w
  refine lv_aload_n hx hb d_RE_begin_10 rfl (lv_at hl 0 rfl) ?_
  refine lv_iconst (v := (0 : Int32)) hx hb d_RE_begin_11 (by decide) ?_
  refine mz_put E w 6 6 (v := (0 : Int32)) (by decide) rfl rfl ii_3 tk_3 nm_3 (by decide) (Nat.le_of_ble_eq_true rfl) k_190 rfl (tk_3 6 (by decide)) rfl (by decide) rfl d_RE_begin_12 (fun H locs w => ?_)
  obtain ⟨t3, e_t3, hf⟩ := mz_lt hf
  rw [← e_t3] at w
  refine lv_aload_n hx hb d_RE_begin_15 rfl (lv_at hl 0 rfl) ?_
  refine lv_iconst (v := (0 : Int32)) hx hb d_RE_begin_16 (by decide) ?_
  refine mz_put E w 6 7 (v := (0 : Int32)) (by decide) rfl rfl ii_3 tk_3 nm_3 (by decide) (Nat.le_of_ble_eq_true rfl) k_192 rfl (tk_3 7 (by decide)) rfl rfl rfl d_RE_begin_17 (fun H locs w => ?_)
  obtain ⟨t4, e_t4, hf⟩ := mz_lt hf
  rw [← e_t4] at w
  obtain rfl := Option.some.inj hf
  exact mz_vret E w rfl d_RE_begin_20

/-! MacroHouse$Reader.takeWord()Z -/
abbrev r_RE_takeWord : Room := { frames := 2, cells := 0, slots := 0, locals := 44 }
def f_RE_takeWord (n : Nat) (t : mz_St) : Option (Int32 × mz_St) := (f_SI_behindBlanks n (mz_gI t 6 2) (mz_gI t 6 3) t).bind fun q1 => mz_let (mz_pI q1.2 6 2 q1.1) fun t3 => mz_let (mz_pI t3 6 4 (mz_gI t3 6 2)) fun t4 => (f_SI_wordEnd n (mz_gI t4 6 2) (mz_gI t4 6 3) t4).bind fun q5 => mz_let (mz_pI q5.2 6 5 q5.1) fun t7 => mz_let (mz_pI t7 6 2 (mz_gI t7 6 5)) fun t8 => if (mz_gI t8 6 5) ≤ (mz_gI t8 6 4) then (some ((0 : Int32), t8)) else (if (12 : Int32) < ((mz_gI t8 6 5) - (mz_gI t8 6 4)) then (some ((0 : Int32), t8)) else (some ((1 : Int32), t8)))
set_option maxRecDepth 100000 in
set_option maxHeartbeats 4000000 in
theorem c_RE_takeWord {SX : State → Heap → Prop} {dC : Nat → ClassId} {dI : Nat → Nat → Nat} {ad en : Nat → Nat} {ca : Nat → ClassId} (hSK : mz_SK SX ad 80) (l : Launch) (n : Nat) (t : mz_St) (res : (Int32 × mz_St)) (hf : f_RE_takeWord n t = some res) : mz_C SX mz_tC 80 mz_cl dC dI ad en ca l y_RE_takeWord prog_11_method_6_code 1 (some (.boolean)) r_RE_takeWord [.ref (ad 6)] t (some (.int res.1)) res.2 := by
  unfold f_RE_takeWord at hf
  refine mz_met hSK (by decide) (Nat.le_of_ble_eq_true rfl) ?_
  intro p e s m args below meth c ls E w hl
  obtain ⟨hx, hb, hml, hown, hcx, -, -, hSX, -, -, -⟩ := id E
  have hl : lv_has ls 1 [(0, .ref (ad 6))] := hl
  refine lv_aload_n hx hb d_RE_takeWord_0 rfl (lv_at hl 0 rfl) ?_
  refine lv_aload_n hx hb d_RE_takeWord_1 rfl (lv_at hl 0 rfl) ?_
  refine mz_get E w 6 0 (v := .ref (ad 1)) (by decide) rfl rfl ii_3 (by decide) (Nat.le_of_ble_eq_true rfl) k_177 rfl d_RE_takeWord_2 ?_
  refine lv_aload_n hx hb d_RE_takeWord_5 rfl (lv_at hl 0 rfl) ?_
  refine mz_get E w 6 2 (v := .int (mz_gI t 6 2)) (by decide) rfl rfl ii_3 (by decide) (Nat.le_of_ble_eq_true rfl) k_179 rfl d_RE_takeWord_6 ?_
  refine lv_aload_n hx hb d_RE_takeWord_9 rfl (lv_at hl 0 rfl) ?_
  refine mz_get E w 6 3 (v := .int (mz_gI t 6 3)) (by decide) rfl rfl ii_3 (by decide) (Nat.le_of_ble_eq_true rfl) k_182 rfl d_RE_takeWord_10 ?_
  obtain ⟨q1, hq2, hf⟩ := mz_bd hf
  refine mz_callV E w (k := 1) (As := [.int (mz_gI t 6 2), .int (mz_gI t 6 3)]) (rest := [.ref (ad 6)]) (c_SI_behindBlanks hSK l n (mz_gI t 6 2) (mz_gI t 6 3) t q1 hq2) (by decide) rfl rfl k_462 k_2 k_794 k_460 k_461 hm_SI_behindBlanks ⟨⟨rfl, rfl⟩, Nat.le_of_ble_eq_true rfl, Nat.le_of_ble_eq_true rfl⟩ rfl hl.1 rfl (Nat.le_of_ble_eq_true rfl) d_RE_takeWord_13 ⟨Nat.zero_le _, Nat.zero_le _⟩ (st1 := [.int q1.1, .ref (ad 6)]) rfl (fun H locs w => ?_)
  refine mz_put E w 6 2 (v := q1.1) (by decide) rfl rfl ii_3 tk_3 nm_3 (by decide) (Nat.le_of_ble_eq_true rfl) k_179 rfl (tk_3 2 (by decide)) rfl rfl rfl d_RE_takeWord_16 (fun H locs w => ?_)
  obtain ⟨t3, e_t3, hf⟩ := mz_lt hf
  rw [← e_t3] at w
  refine lv_aload_n hx hb d_RE_takeWord_19 rfl (lv_at hl 0 rfl) ?_
  refine lv_aload_n hx hb d_RE_takeWord_20 rfl (lv_at hl 0 rfl) ?_
  refine mz_get E w 6 2 (v := .int (mz_gI t3 6 2)) (by decide) rfl rfl ii_3 (by decide) (Nat.le_of_ble_eq_true rfl) k_179 rfl d_RE_takeWord_21 ?_
  refine mz_put E w 6 4 (v := (mz_gI t3 6 2)) (by decide) rfl rfl ii_3 tk_3 nm_3 (by decide) (Nat.le_of_ble_eq_true rfl) k_185 rfl (tk_3 4 (by decide)) rfl rfl rfl d_RE_takeWord_24 (fun H locs w => ?_)
  obtain ⟨t4, e_t4, hf⟩ := mz_lt hf
  rw [← e_t4] at w
  refine lv_aload_n hx hb d_RE_takeWord_27 rfl (lv_at hl 0 rfl) ?_
  refine lv_aload_n hx hb d_RE_takeWord_28 rfl (lv_at hl 0 rfl) ?_
  refine mz_get E w 6 0 (v := .ref (ad 1)) (by decide) rfl rfl ii_3 (by decide) (Nat.le_of_ble_eq_true rfl) k_177 rfl d_RE_takeWord_29 ?_
  refine lv_aload_n hx hb d_RE_takeWord_32 rfl (lv_at hl 0 rfl) ?_
  refine mz_get E w 6 2 (v := .int (mz_gI t4 6 2)) (by decide) rfl rfl ii_3 (by decide) (Nat.le_of_ble_eq_true rfl) k_179 rfl d_RE_takeWord_33 ?_
  refine lv_aload_n hx hb d_RE_takeWord_36 rfl (lv_at hl 0 rfl) ?_
  refine mz_get E w 6 3 (v := .int (mz_gI t4 6 3)) (by decide) rfl rfl ii_3 (by decide) (Nat.le_of_ble_eq_true rfl) k_182 rfl d_RE_takeWord_37 ?_
  obtain ⟨q5, hq6, hf⟩ := mz_bd hf
  refine mz_callV E w (k := 1) (As := [.int (mz_gI t4 6 2), .int (mz_gI t4 6 3)]) (rest := [.ref (ad 6)]) (c_SI_wordEnd hSK l n (mz_gI t4 6 2) (mz_gI t4 6 3) t4 q5 hq6) (by decide) rfl rfl k_566 k_2 k_795 k_564 k_565 hm_SI_wordEnd ⟨⟨rfl, rfl⟩, Nat.le_of_ble_eq_true rfl, Nat.le_of_ble_eq_true rfl⟩ rfl hl.1 rfl (Nat.le_of_ble_eq_true rfl) d_RE_takeWord_40 ⟨Nat.zero_le _, Nat.zero_le _⟩ (st1 := [.int q5.1, .ref (ad 6)]) rfl (fun H locs w => ?_)
  refine mz_put E w 6 5 (v := q5.1) (by decide) rfl rfl ii_3 tk_3 nm_3 (by decide) (Nat.le_of_ble_eq_true rfl) k_188 rfl (tk_3 5 (by decide)) rfl rfl rfl d_RE_takeWord_43 (fun H locs w => ?_)
  obtain ⟨t7, e_t7, hf⟩ := mz_lt hf
  rw [← e_t7] at w
  refine lv_aload_n hx hb d_RE_takeWord_46 rfl (lv_at hl 0 rfl) ?_
  refine lv_aload_n hx hb d_RE_takeWord_47 rfl (lv_at hl 0 rfl) ?_
  refine mz_get E w 6 5 (v := .int (mz_gI t7 6 5)) (by decide) rfl rfl ii_3 (by decide) (Nat.le_of_ble_eq_true rfl) k_188 rfl d_RE_takeWord_48 ?_
  refine mz_put E w 6 2 (v := (mz_gI t7 6 5)) (by decide) rfl rfl ii_3 tk_3 nm_3 (by decide) (Nat.le_of_ble_eq_true rfl) k_179 rfl (tk_3 2 (by decide)) rfl rfl rfl d_RE_takeWord_51 (fun H locs w => ?_)
  obtain ⟨t8, e_t8, hf⟩ := mz_lt hf
  rw [← e_t8] at w
  refine lv_aload_n hx hb d_RE_takeWord_54 rfl (lv_at hl 0 rfl) ?_
  refine mz_get E w 6 5 (v := .int (mz_gI t8 6 5)) (by decide) rfl rfl ii_3 (by decide) (Nat.le_of_ble_eq_true rfl) k_188 rfl d_RE_takeWord_55 ?_
  refine lv_aload_n hx hb d_RE_takeWord_58 rfl (lv_at hl 0 rfl) ?_
  refine mz_get E w 6 4 (v := .int (mz_gI t8 6 4)) (by decide) rfl rfl ii_3 (by decide) (Nat.le_of_ble_eq_true rfl) k_185 rfl d_RE_takeWord_59 ?_
  refine lv_icmp_le (tgt := 83) hx hb d_RE_takeWord_62 (by decide) (fun hc9 => ?_) (fun hc9 => ?_)
  · have hf := mz_t hc9 hf
    refine lv_iconst (v := (0 : Int32)) hx hb d_RE_takeWord_83 (by decide) ?_
    obtain rfl := Option.some.inj hf
    exact mz_zret E w (by decide) rfl d_RE_takeWord_84
  · have hf := mz_f hc9 hf
    refine lv_aload_n hx hb d_RE_takeWord_65 rfl (lv_at hl 0 rfl) ?_
    refine mz_get E w 6 5 (v := .int (mz_gI t8 6 5)) (by decide) rfl rfl ii_3 (by decide) (Nat.le_of_ble_eq_true rfl) k_188 rfl d_RE_takeWord_66 ?_
    refine lv_aload_n hx hb d_RE_takeWord_69 rfl (lv_at hl 0 rfl) ?_
    refine mz_get E w 6 4 (v := .int (mz_gI t8 6 4)) (by decide) rfl rfl ii_3 (by decide) (Nat.le_of_ble_eq_true rfl) k_185 rfl d_RE_takeWord_70 ?_
    refine lv_isub hx hb d_RE_takeWord_73 ?_
    refine lv_bipush (v := (12 : Int32)) hx hb d_RE_takeWord_74 (by decide) ?_
    refine lv_icmp_gt (tgt := 83) hx hb d_RE_takeWord_76 (by decide) (fun hc10 => ?_) (fun hc10 => ?_)
    · have hf := mz_t hc10 hf
      refine lv_iconst (v := (0 : Int32)) hx hb d_RE_takeWord_83 (by decide) ?_
      obtain rfl := Option.some.inj hf
      exact mz_zret E w (by decide) rfl d_RE_takeWord_84
    · have hf := mz_f hc10 hf
      refine lv_iconst (v := (1 : Int32)) hx hb d_RE_takeWord_79 (by decide) ?_
      refine lv_goto (tgt := 84) hx hb d_RE_takeWord_80 (by decide) ?_
      obtain rfl := Option.some.inj hf
      exact mz_zret E w (by decide) rfl d_RE_takeWord_84

/-! MacroHouse$Reader.take(I)Z -/
abbrev r_RE_take : Room := { frames := 1, cells := 0, slots := 0, locals := 23 }
def f_RE_take (n : Nat) (x1 : Int32) (t : mz_St) : Option (Int32 × mz_St) := (f_SI_behindBlanks n (mz_gI t 6 2) (mz_gI t 6 3) t).bind fun q1 => mz_let (mz_pI q1.2 6 2 q1.1) fun t3 => if (mz_gI t3 6 3) ≤ (mz_gI t3 6 2) then (some ((0 : Int32), t3)) else ((f_SI_at n (mz_gI t3 6 2) t3).bind fun q5 => if q5.1 = x1 then (mz_let (mz_pI q5.2 6 2 ((mz_gI q5.2 6 2) + (1 : Int32))) fun t8 => some ((1 : Int32), t8)) else (some ((0 : Int32), q5.2)))
set_option maxRecDepth 100000 in
set_option maxHeartbeats 4000000 in
theorem c_RE_take {SX : State → Heap → Prop} {dC : Nat → ClassId} {dI : Nat → Nat → Nat} {ad en : Nat → Nat} {ca : Nat → ClassId} (hSK : mz_SK SX ad 80) (l : Launch) (n : Nat) (x1 : Int32) (t : mz_St) (res : (Int32 × mz_St)) (hf : f_RE_take n x1 t = some res) : mz_C SX mz_tC 80 mz_cl dC dI ad en ca l y_RE_take prog_11_method_5_code 2 (some (.boolean)) r_RE_take [.ref (ad 6), .int x1] t (some (.int res.1)) res.2 := by
  unfold f_RE_take at hf
  refine mz_met hSK (by decide) (Nat.le_of_ble_eq_true rfl) ?_
  intro p e s m args below meth c ls E w hl
  obtain ⟨hx, hb, hml, hown, hcx, -, -, hSX, -, -, -⟩ := id E
  have hl : lv_has ls 2 [(0, .ref (ad 6)), (1, .int x1)] := hl
  refine lv_aload_n hx hb d_RE_take_0 rfl (lv_at hl 0 rfl) ?_
  refine lv_aload_n hx hb d_RE_take_1 rfl (lv_at hl 0 rfl) ?_
  refine mz_get E w 6 0 (v := .ref (ad 1)) (by decide) rfl rfl ii_3 (by decide) (Nat.le_of_ble_eq_true rfl) k_177 rfl d_RE_take_2 ?_
  refine lv_aload_n hx hb d_RE_take_5 rfl (lv_at hl 0 rfl) ?_
  refine mz_get E w 6 2 (v := .int (mz_gI t 6 2)) (by decide) rfl rfl ii_3 (by decide) (Nat.le_of_ble_eq_true rfl) k_179 rfl d_RE_take_6 ?_
  refine lv_aload_n hx hb d_RE_take_9 rfl (lv_at hl 0 rfl) ?_
  refine mz_get E w 6 3 (v := .int (mz_gI t 6 3)) (by decide) rfl rfl ii_3 (by decide) (Nat.le_of_ble_eq_true rfl) k_182 rfl d_RE_take_10 ?_
  obtain ⟨q1, hq2, hf⟩ := mz_bd hf
  refine mz_callV E w (k := 1) (As := [.int (mz_gI t 6 2), .int (mz_gI t 6 3)]) (rest := [.ref (ad 6)]) (c_SI_behindBlanks hSK l n (mz_gI t 6 2) (mz_gI t 6 3) t q1 hq2) (by decide) rfl rfl k_462 k_2 k_794 k_460 k_461 hm_SI_behindBlanks ⟨⟨rfl, rfl⟩, Nat.le_of_ble_eq_true rfl, Nat.le_of_ble_eq_true rfl⟩ rfl hl.1 rfl (Nat.le_of_ble_eq_true rfl) d_RE_take_13 ⟨Nat.zero_le _, Nat.zero_le _⟩ (st1 := [.int q1.1, .ref (ad 6)]) rfl (fun H locs w => ?_)
  refine mz_put E w 6 2 (v := q1.1) (by decide) rfl rfl ii_3 tk_3 nm_3 (by decide) (Nat.le_of_ble_eq_true rfl) k_179 rfl (tk_3 2 (by decide)) rfl rfl rfl d_RE_take_16 (fun H locs w => ?_)
  obtain ⟨t3, e_t3, hf⟩ := mz_lt hf
  rw [← e_t3] at w
  refine lv_aload_n hx hb d_RE_take_19 rfl (lv_at hl 0 rfl) ?_
  refine mz_get E w 6 2 (v := .int (mz_gI t3 6 2)) (by decide) rfl rfl ii_3 (by decide) (Nat.le_of_ble_eq_true rfl) k_179 rfl d_RE_take_20 ?_
  refine lv_aload_n hx hb d_RE_take_23 rfl (lv_at hl 0 rfl) ?_
  refine mz_get E w 6 3 (v := .int (mz_gI t3 6 3)) (by decide) rfl rfl ii_3 (by decide) (Nat.le_of_ble_eq_true rfl) k_182 rfl d_RE_take_24 ?_
  refine lv_icmp_ge (tgt := 45) hx hb d_RE_take_27 (by decide) (fun hc4 => ?_) (fun hc4 => ?_)
  · have hf := mz_t hc4 hf
    refine lv_iconst (v := (0 : Int32)) hx hb d_RE_take_45 (by decide) ?_
    obtain rfl := Option.some.inj hf
    exact mz_zret E w (by decide) rfl d_RE_take_46
  · have hf := mz_f hc4 hf
    refine lv_aload_n hx hb d_RE_take_30 rfl (lv_at hl 0 rfl) ?_
    refine mz_get E w 6 0 (v := .ref (ad 1)) (by decide) rfl rfl ii_3 (by decide) (Nat.le_of_ble_eq_true rfl) k_177 rfl d_RE_take_31 ?_
    refine lv_aload_n hx hb d_RE_take_34 rfl (lv_at hl 0 rfl) ?_
    refine mz_get E w 6 2 (v := .int (mz_gI t3 6 2)) (by decide) rfl rfl ii_3 (by decide) (Nat.le_of_ble_eq_true rfl) k_179 rfl d_RE_take_35 ?_
    obtain ⟨q5, hq6, hf⟩ := mz_bd hf
    refine mz_callV E w (k := 1) (As := [.int (mz_gI t3 6 2)]) (rest := []) (c_SI_at hSK l n (mz_gI t3 6 2) t3 q5 hq6) (by decide) rfl rfl k_450 k_2 k_800 k_448 k_449 hm_SI_at ⟨⟨rfl, rfl⟩, Nat.le_of_ble_eq_true rfl, Nat.le_of_ble_eq_true rfl⟩ rfl hl.1 rfl (Nat.le_of_ble_eq_true rfl) d_RE_take_38 ⟨Nat.zero_le _, Nat.zero_le _⟩ (st1 := [.int q5.1]) rfl (fun H locs w => ?_)
    refine lv_iload_n hx hb d_RE_take_41 rfl (lv_at hl 1 rfl) ?_
    refine lv_icmp_eq (tgt := 47) hx hb d_RE_take_42 (by decide) (fun hc7 => ?_) (fun hc7 => ?_)
    · have hf := mz_t hc7 hf
      refine lv_aload_n hx hb d_RE_take_47 rfl (lv_at hl 0 rfl) ?_
      refine lv_dup hx hb d_RE_take_48 rfl ?_
      refine mz_get E w 6 2 (v := .int (mz_gI q5.2 6 2)) (by decide) rfl rfl ii_3 (by decide) (Nat.le_of_ble_eq_true rfl) k_179 rfl d_RE_take_49 ?_
      refine lv_iconst (v := (1 : Int32)) hx hb d_RE_take_52 (by decide) ?_
      refine lv_iadd hx hb d_RE_take_53 ?_
      refine mz_put E w 6 2 (v := ((mz_gI q5.2 6 2) + (1 : Int32))) (by decide) rfl rfl ii_3 tk_3 nm_3 (by decide) (Nat.le_of_ble_eq_true rfl) k_179 rfl (tk_3 2 (by decide)) rfl rfl rfl d_RE_take_54 (fun H locs w => ?_)
      obtain ⟨t8, e_t8, hf⟩ := mz_lt hf
      rw [← e_t8] at w
      refine lv_iconst (v := (1 : Int32)) hx hb d_RE_take_57 (by decide) ?_
      obtain rfl := Option.some.inj hf
      exact mz_zret E w (by decide) rfl d_RE_take_58
    · have hf := mz_f hc7 hf
      refine lv_iconst (v := (0 : Int32)) hx hb d_RE_take_45 (by decide) ?_
      obtain rfl := Option.some.inj hf
      exact mz_zret E w (by decide) rfl d_RE_take_46

/-! MacroHouse$Reader.next()I -/
abbrev r_RE_next : Room := { frames := 1, cells := 0, slots := 0, locals := 23 }
def f_RE_next (n : Nat) (t : mz_St) : Option (Int32 × mz_St) := (f_SI_behindBlanks n (mz_gI t 6 2) (mz_gI t 6 3) t).bind fun q1 => mz_let (mz_pI q1.2 6 2 q1.1) fun t3 => if (mz_gI t3 6 3) ≤ (mz_gI t3 6 2) then (some ((-1 : Int32), t3)) else ((f_SI_at n (mz_gI t3 6 2) t3).bind fun q5 => some (q5.1, q5.2))
set_option maxRecDepth 100000 in
set_option maxHeartbeats 4000000 in
theorem c_RE_next {SX : State → Heap → Prop} {dC : Nat → ClassId} {dI : Nat → Nat → Nat} {ad en : Nat → Nat} {ca : Nat → ClassId} (hSK : mz_SK SX ad 80) (l : Launch) (n : Nat) (t : mz_St) (res : (Int32 × mz_St)) (hf : f_RE_next n t = some res) : mz_C SX mz_tC 80 mz_cl dC dI ad en ca l y_RE_next prog_11_method_3_code 1 (some (.int)) r_RE_next [.ref (ad 6)] t (some (.int res.1)) res.2 := by
  unfold f_RE_next at hf
  refine mz_met hSK (by decide) (Nat.le_of_ble_eq_true rfl) ?_
  intro p e s m args below meth c ls E w hl
  obtain ⟨hx, hb, hml, hown, hcx, -, -, hSX, -, -, -⟩ := id E
  have hl : lv_has ls 1 [(0, .ref (ad 6))] := hl
  refine lv_aload_n hx hb d_RE_next_0 rfl (lv_at hl 0 rfl) ?_
  refine lv_aload_n hx hb d_RE_next_1 rfl (lv_at hl 0 rfl) ?_
  refine mz_get E w 6 0 (v := .ref (ad 1)) (by decide) rfl rfl ii_3 (by decide) (Nat.le_of_ble_eq_true rfl) k_177 rfl d_RE_next_2 ?_
  refine lv_aload_n hx hb d_RE_next_5 rfl (lv_at hl 0 rfl) ?_
  refine mz_get E w 6 2 (v := .int (mz_gI t 6 2)) (by decide) rfl rfl ii_3 (by decide) (Nat.le_of_ble_eq_true rfl) k_179 rfl d_RE_next_6 ?_
  refine lv_aload_n hx hb d_RE_next_9 rfl (lv_at hl 0 rfl) ?_
  refine mz_get E w 6 3 (v := .int (mz_gI t 6 3)) (by decide) rfl rfl ii_3 (by decide) (Nat.le_of_ble_eq_true rfl) k_182 rfl d_RE_next_10 ?_
  obtain ⟨q1, hq2, hf⟩ := mz_bd hf
  refine mz_callV E w (k := 1) (As := [.int (mz_gI t 6 2), .int (mz_gI t 6 3)]) (rest := [.ref (ad 6)]) (c_SI_behindBlanks hSK l n (mz_gI t 6 2) (mz_gI t 6 3) t q1 hq2) (by decide) rfl rfl k_462 k_2 k_794 k_460 k_461 hm_SI_behindBlanks ⟨⟨rfl, rfl⟩, Nat.le_of_ble_eq_true rfl, Nat.le_of_ble_eq_true rfl⟩ rfl hl.1 rfl (Nat.le_of_ble_eq_true rfl) d_RE_next_13 ⟨Nat.zero_le _, Nat.zero_le _⟩ (st1 := [.int q1.1, .ref (ad 6)]) rfl (fun H locs w => ?_)
  refine mz_put E w 6 2 (v := q1.1) (by decide) rfl rfl ii_3 tk_3 nm_3 (by decide) (Nat.le_of_ble_eq_true rfl) k_179 rfl (tk_3 2 (by decide)) rfl rfl rfl d_RE_next_16 (fun H locs w => ?_)
  obtain ⟨t3, e_t3, hf⟩ := mz_lt hf
  rw [← e_t3] at w
  refine lv_aload_n hx hb d_RE_next_19 rfl (lv_at hl 0 rfl) ?_
  refine mz_get E w 6 2 (v := .int (mz_gI t3 6 2)) (by decide) rfl rfl ii_3 (by decide) (Nat.le_of_ble_eq_true rfl) k_179 rfl d_RE_next_20 ?_
  refine lv_aload_n hx hb d_RE_next_23 rfl (lv_at hl 0 rfl) ?_
  refine mz_get E w 6 3 (v := .int (mz_gI t3 6 3)) (by decide) rfl rfl ii_3 (by decide) (Nat.le_of_ble_eq_true rfl) k_182 rfl d_RE_next_24 ?_
  refine lv_icmp_ge (tgt := 44) hx hb d_RE_next_27 (by decide) (fun hc4 => ?_) (fun hc4 => ?_)
  · have hf := mz_t hc4 hf
    refine lv_iconst (v := (-1 : Int32)) hx hb d_RE_next_44 (by decide) ?_
    obtain rfl := Option.some.inj hf
    exact mz_iret E w rfl d_RE_next_45
  · have hf := mz_f hc4 hf
    refine lv_aload_n hx hb d_RE_next_30 rfl (lv_at hl 0 rfl) ?_
    refine mz_get E w 6 0 (v := .ref (ad 1)) (by decide) rfl rfl ii_3 (by decide) (Nat.le_of_ble_eq_true rfl) k_177 rfl d_RE_next_31 ?_
    refine lv_aload_n hx hb d_RE_next_34 rfl (lv_at hl 0 rfl) ?_
    refine mz_get E w 6 2 (v := .int (mz_gI t3 6 2)) (by decide) rfl rfl ii_3 (by decide) (Nat.le_of_ble_eq_true rfl) k_179 rfl d_RE_next_35 ?_
    obtain ⟨q5, hq6, hf⟩ := mz_bd hf
    refine mz_callV E w (k := 1) (As := [.int (mz_gI t3 6 2)]) (rest := []) (c_SI_at hSK l n (mz_gI t3 6 2) t3 q5 hq6) (by decide) rfl rfl k_450 k_2 k_800 k_448 k_449 hm_SI_at ⟨⟨rfl, rfl⟩, Nat.le_of_ble_eq_true rfl, Nat.le_of_ble_eq_true rfl⟩ rfl hl.1 rfl (Nat.le_of_ble_eq_true rfl) d_RE_next_38 ⟨Nat.zero_le _, Nat.zero_le _⟩ (st1 := [.int q5.1]) rfl (fun H locs w => ?_)
    refine lv_goto (tgt := 45) hx hb d_RE_next_41 (by decide) ?_
    obtain rfl := Option.some.inj hf
    exact mz_iret E w rfl d_RE_next_45

/-! MacroHouse$Reader.refuse()I -/
abbrev r_RE_refuse : Room := { frames := 0, cells := 0, slots := 0, locals := 0 }
def f_RE_refuse (n : Nat) (t : mz_St) : Option (Int32 × mz_St) := mz_let (mz_pI t 6 6 (1 : Int32)) fun t1 => some ((0 : Int32), t1)
set_option maxRecDepth 100000 in
set_option maxHeartbeats 4000000 in
theorem c_RE_refuse {SX : State → Heap → Prop} {dC : Nat → ClassId} {dI : Nat → Nat → Nat} {ad en : Nat → Nat} {ca : Nat → ClassId} (hSK : mz_SK SX ad 80) (l : Launch) (n : Nat) (t : mz_St) (res : (Int32 × mz_St)) (hf : f_RE_refuse n t = some res) : mz_C SX mz_tC 80 mz_cl dC dI ad en ca l y_RE_refuse prog_11_method_16_code 1 (some (.int)) r_RE_refuse [.ref (ad 6)] t (some (.int res.1)) res.2 := by
  unfold f_RE_refuse at hf
  refine mz_met hSK (by decide) (Nat.le_of_ble_eq_true rfl) ?_
  intro p e s m args below meth c ls E w hl
  obtain ⟨hx, hb, hml, hown, hcx, -, -, hSX, -, -, -⟩ := id E
  have hl : lv_has ls 1 [(0, .ref (ad 6))] := hl
  refine lv_aload_n hx hb d_RE_refuse_0 rfl (lv_at hl 0 rfl) ?_
  refine lv_iconst (v := (1 : Int32)) hx hb d_RE_refuse_1 (by decide) ?_
  refine mz_put E w 6 6 (v := (1 : Int32)) (by decide) rfl rfl ii_3 tk_3 nm_3 (by decide) (Nat.le_of_ble_eq_true rfl) k_190 rfl (tk_3 6 (by decide)) rfl (by decide) rfl d_RE_refuse_2 (fun H locs w => ?_)
  obtain ⟨t1, e_t1, hf⟩ := mz_lt hf
  rw [← e_t1] at w
  refine lv_iconst (v := (0 : Int32)) hx hb d_RE_refuse_5 (by decide) ?_
  obtain rfl := Option.some.inj hf
  exact mz_iret E w rfl d_RE_refuse_6

/-! MacroHouse$Reader.number()I -/
abbrev r_RE_number : Room := { frames := 1, cells := 0, slots := 0, locals := 21 }
def f_RE_number_112 (n : Nat) (t : mz_St) : Option (Int32 × mz_St) := (f_RE_refuse n t).bind fun q4 => some (q4.1, q4.2)
def f_RE_number_101 (n : Nat) (x1 : Int32) (x2 : Int32) (s0 : Int32) (t : mz_St) : Option (Int32 × mz_St) := if s0 = 0 then (if x2 ≤ (9 : Int32) then (some (x1, t)) else (f_RE_number_112 n  t)) else (f_RE_number_112 n  t)
def f_RE_number_100 (n : Nat) (x1 : Int32) (x2 : Int32) (t : mz_St) : Option (Int32 × mz_St) := f_RE_number_101 n x1 x2 (0 : Int32) t
def f_RE_number_68 (n : Nat) (x1 : Int32) (x2 : Int32) (t : mz_St) : Option (Int32 × mz_St) := if (mz_gI t 6 3) ≤ (mz_gI t 6 2) then (f_RE_number_100 n x1 x2 t) else ((f_SI_at n (mz_gI t 6 2) t).bind fun q7 => (f_SI_beginsWord n q7.1 q7.2).bind fun q9 => if q9.1 = 0 then (f_RE_number_100 n x1 x2 q9.2) else (f_RE_number_101 n x1 x2 (1 : Int32) q9.2))
def f_RE_number_4 (n : Nat) : Nat → Int32 → Int32 → mz_St → Option (Int32 × mz_St)
  | 0, _, _, _ => none
  | k + 1, x1, x2, t => if (mz_gI t 6 3) ≤ (mz_gI t 6 2) then (f_RE_number_68 n x1 x2 t) else ((f_SI_at n (mz_gI t 6 2) t).bind fun q12 => (f_SI_isDigit n q12.1 q12.2).bind fun q14 => if q14.1 = 0 then (f_RE_number_68 n x1 x2 q14.2) else ((f_SI_at n (mz_gI q14.2 6 2) q14.2).bind fun q17 => mz_let (mz_pI q17.2 6 2 ((mz_gI q17.2 6 2) + (1 : Int32))) fun t19 => (f_RE_number_4 n k) ((x1 * (10 : Int32)) + (q17.1 - (48 : Int32))) (x2 + (1 : Int32)) t19))
def f_RE_number (n : Nat) (t : mz_St) : Option (Int32 × mz_St) := f_RE_number_4 n n (0 : Int32) (0 : Int32) t
set_option maxRecDepth 100000 in
set_option maxHeartbeats 4000000 in
theorem b_RE_number_112 {SX : State → Heap → Prop} {dC : Nat → ClassId} {dI : Nat → Nat → Nat} {ad en : Nat → Nat} {ca : Nat → ClassId} {p : Program} {l : Launch} {e : Env} {s : State} {m : MethodId} {args : Array Value} {below : List Frame} {meth : Method} {c : Code} {res : (Int32 × mz_St)} (E : mz_En SX 80 mz_cl dC dI ad ca p s m meth c prog_11_method_14_code 4 "MacroHouse$Reader" (some (.int))) (n : Nat) : ∀ (t : mz_St), f_RE_number_112 n t = some res → ∀ (H : Heap) (locs : List Loc) (ls : Array Slot), mz_Wd mz_tC 80 mz_cl dC dI ad en ca s t H locs → lv_has ls 4 [(0, .ref (ad 6))] → W p l e r_RE_number s m args below meth c H locs 0 0 (MQ below (mz_Q SX mz_tC 80 mz_cl dC dI ad en ca (some (.int res.1)) res.2) args s 0 0 (mz_A ad 80)) (F0 m 112 ls []) := by
  obtain ⟨hx, hb, hml, hown, hcx, -, -, hSX, -, -, hSK⟩ := id E
  intro t hf H locs ls w hl
  unfold f_RE_number_112 at hf
  refine lv_aload_n hx hb d_RE_number_112 rfl (lv_at hl 0 rfl) ?_
  obtain ⟨q4, hq5, hf⟩ := mz_bd hf
  refine mz_callV E w (k := 6) (As := []) (rest := []) (c_RE_refuse hSK l n t q4 hq5) (by decide) rfl rfl k_824 k_11 k_821 k_823 ks_24 hm_RE_refuse ⟨⟨rfl, rfl⟩, Nat.le_of_ble_eq_true rfl, Nat.le_of_ble_eq_true rfl⟩ rfl hl.1 rfl (Nat.le_of_ble_eq_true rfl) d_RE_number_113 ⟨Nat.zero_le _, Nat.zero_le _⟩ (st1 := [.int q4.1]) rfl (fun H locs w => ?_)
  refine lv_goto (tgt := 120) hx hb d_RE_number_116 (by decide) ?_
  obtain rfl := Option.some.inj hf
  exact mz_iret E w rfl d_RE_number_120
set_option maxRecDepth 100000 in
set_option maxHeartbeats 4000000 in
theorem b_RE_number_101 {SX : State → Heap → Prop} {dC : Nat → ClassId} {dI : Nat → Nat → Nat} {ad en : Nat → Nat} {ca : Nat → ClassId} {p : Program} {l : Launch} {e : Env} {s : State} {m : MethodId} {args : Array Value} {below : List Frame} {meth : Method} {c : Code} {res : (Int32 × mz_St)} (E : mz_En SX 80 mz_cl dC dI ad ca p s m meth c prog_11_method_14_code 4 "MacroHouse$Reader" (some (.int))) (n : Nat) : ∀ (x1 : Int32) (x2 : Int32) (s0 : Int32) (t : mz_St), f_RE_number_101 n x1 x2 s0 t = some res → ∀ (H : Heap) (locs : List Loc) (ls : Array Slot), mz_Wd mz_tC 80 mz_cl dC dI ad en ca s t H locs → lv_has ls 4 [(0, .ref (ad 6)), (1, .int x1), (2, .int x2)] → W p l e r_RE_number s m args below meth c H locs 0 0 (MQ below (mz_Q SX mz_tC 80 mz_cl dC dI ad en ca (some (.int res.1)) res.2) args s 0 0 (mz_A ad 80)) (F0 m 101 ls [.int s0]) := by
  obtain ⟨hx, hb, hml, hown, hcx, -, -, hSX, -, -, hSK⟩ := id E
  intro x1 x2 s0 t hf H locs ls w hl
  unfold f_RE_number_101 at hf
  refine lv_istore_n (lv' := [(3, .int s0), (0, .ref (ad 6)), (1, .int x1), (2, .int x2)]) hx hb d_RE_number_101 rfl hl (by decide) rfl (fun ls hl => ?_)
  refine lv_iload_n hx hb d_RE_number_102 rfl (lv_at hl 0 rfl) ?_
  refine lv_if_ne (tgt := 112) hx hb d_RE_number_103 (by decide) (fun hc3 => ?_) (fun hc3 => ?_)
  · have hf := mz_f hc3 hf
    exact b_RE_number_112 E n  t hf _ _ _ w (lv_sub hl [1] rfl)
  · have hf := mz_t hc3 hf
    refine lv_iload_n hx hb d_RE_number_106 rfl (lv_at hl 3 rfl) ?_
    refine lv_bipush (v := (9 : Int32)) hx hb d_RE_number_107 (by decide) ?_
    refine lv_icmp_le (tgt := 119) hx hb d_RE_number_109 (by decide) (fun hc6 => ?_) (fun hc6 => ?_)
    · have hf := mz_t hc6 hf
      refine lv_iload_n hx hb d_RE_number_119 rfl (lv_at hl 2 rfl) ?_
      obtain rfl := Option.some.inj hf
      exact mz_iret E w rfl d_RE_number_120
    · have hf := mz_f hc6 hf
      exact b_RE_number_112 E n  t hf _ _ _ w (lv_sub hl [1] rfl)
set_option maxRecDepth 100000 in
set_option maxHeartbeats 4000000 in
theorem b_RE_number_100 {SX : State → Heap → Prop} {dC : Nat → ClassId} {dI : Nat → Nat → Nat} {ad en : Nat → Nat} {ca : Nat → ClassId} {p : Program} {l : Launch} {e : Env} {s : State} {m : MethodId} {args : Array Value} {below : List Frame} {meth : Method} {c : Code} {res : (Int32 × mz_St)} (E : mz_En SX 80 mz_cl dC dI ad ca p s m meth c prog_11_method_14_code 4 "MacroHouse$Reader" (some (.int))) (n : Nat) : ∀ (x1 : Int32) (x2 : Int32) (t : mz_St), f_RE_number_100 n x1 x2 t = some res → ∀ (H : Heap) (locs : List Loc) (ls : Array Slot), mz_Wd mz_tC 80 mz_cl dC dI ad en ca s t H locs → lv_has ls 4 [(0, .ref (ad 6)), (1, .int x1), (2, .int x2)] → W p l e r_RE_number s m args below meth c H locs 0 0 (MQ below (mz_Q SX mz_tC 80 mz_cl dC dI ad en ca (some (.int res.1)) res.2) args s 0 0 (mz_A ad 80)) (F0 m 100 ls []) := by
  obtain ⟨hx, hb, hml, hown, hcx, -, -, hSX, -, -, hSK⟩ := id E
  intro x1 x2 t hf H locs ls w hl
  unfold f_RE_number_100 at hf
  refine lv_iconst (v := (0 : Int32)) hx hb d_RE_number_100 (by decide) ?_
  exact b_RE_number_101 E n x1 x2 (0 : Int32) t hf _ _ _ w (lv_sub hl [0, 1, 2] rfl)
set_option maxRecDepth 100000 in
set_option maxHeartbeats 4000000 in
theorem b_RE_number_68 {SX : State → Heap → Prop} {dC : Nat → ClassId} {dI : Nat → Nat → Nat} {ad en : Nat → Nat} {ca : Nat → ClassId} {p : Program} {l : Launch} {e : Env} {s : State} {m : MethodId} {args : Array Value} {below : List Frame} {meth : Method} {c : Code} {res : (Int32 × mz_St)} (E : mz_En SX 80 mz_cl dC dI ad ca p s m meth c prog_11_method_14_code 4 "MacroHouse$Reader" (some (.int))) (n : Nat) : ∀ (x1 : Int32) (x2 : Int32) (t : mz_St), f_RE_number_68 n x1 x2 t = some res → ∀ (H : Heap) (locs : List Loc) (ls : Array Slot), mz_Wd mz_tC 80 mz_cl dC dI ad en ca s t H locs → lv_has ls 4 [(0, .ref (ad 6)), (1, .int x1), (2, .int x2)] → W p l e r_RE_number s m args below meth c H locs 0 0 (MQ below (mz_Q SX mz_tC 80 mz_cl dC dI ad en ca (some (.int res.1)) res.2) args s 0 0 (mz_A ad 80)) (F0 m 68 ls []) := by
  obtain ⟨hx, hb, hml, hown, hcx, -, -, hSX, -, -, hSK⟩ := id E
  intro x1 x2 t hf H locs ls w hl
  unfold f_RE_number_68 at hf
  refine lv_aload_n hx hb d_RE_number_68 rfl (lv_at hl 0 rfl) ?_
  refine mz_get E w 6 2 (v := .int (mz_gI t 6 2)) (by decide) rfl rfl ii_3 (by decide) (Nat.le_of_ble_eq_true rfl) k_179 rfl d_RE_number_69 ?_
  refine lv_aload_n hx hb d_RE_number_72 rfl (lv_at hl 0 rfl) ?_
  refine mz_get E w 6 3 (v := .int (mz_gI t 6 3)) (by decide) rfl rfl ii_3 (by decide) (Nat.le_of_ble_eq_true rfl) k_182 rfl d_RE_number_73 ?_
  refine lv_icmp_ge (tgt := 100) hx hb d_RE_number_76 (by decide) (fun hc2 => ?_) (fun hc2 => ?_)
  · have hf := mz_t hc2 hf
    exact b_RE_number_100 E n x1 x2 t hf _ _ _ w (lv_sub hl [0, 1, 2] rfl)
  · have hf := mz_f hc2 hf
    refine lv_aload_n hx hb d_RE_number_79 rfl (lv_at hl 0 rfl) ?_
    refine mz_get E w 6 0 (v := .ref (ad 1)) (by decide) rfl rfl ii_3 (by decide) (Nat.le_of_ble_eq_true rfl) k_177 rfl d_RE_number_80 ?_
    refine lv_aload_n hx hb d_RE_number_83 rfl (lv_at hl 0 rfl) ?_
    refine mz_get E w 6 2 (v := .int (mz_gI t 6 2)) (by decide) rfl rfl ii_3 (by decide) (Nat.le_of_ble_eq_true rfl) k_179 rfl d_RE_number_84 ?_
    obtain ⟨q7, hq8, hf⟩ := mz_bd hf
    refine mz_callV E w (k := 1) (As := [.int (mz_gI t 6 2)]) (rest := []) (c_SI_at hSK l n (mz_gI t 6 2) t q7 hq8) (by decide) rfl rfl k_450 k_2 k_800 k_448 k_449 hm_SI_at ⟨⟨rfl, rfl⟩, Nat.le_of_ble_eq_true rfl, Nat.le_of_ble_eq_true rfl⟩ rfl hl.1 rfl (Nat.le_of_ble_eq_true rfl) d_RE_number_87 ⟨Nat.zero_le _, Nat.zero_le _⟩ (st1 := [.int q7.1]) rfl (fun H locs w => ?_)
    obtain ⟨q9, hq10, hf⟩ := mz_bd hf
    refine mz_callS E w (As := [.int q7.1]) (rest := []) (c_SI_beginsWord hSK l n q7.1 q7.2 q9 hq10) k_569 k_2 k_836 k_568 hm_SI_beginsWord ⟨⟨rfl, rfl⟩, Nat.le_of_ble_eq_true rfl, Nat.le_of_ble_eq_true rfl⟩ rfl hl.1 rfl (Nat.le_of_ble_eq_true rfl) d_RE_number_90 ⟨Nat.zero_le _, Nat.zero_le _⟩ (st1 := [.int q9.1]) rfl (fun H locs w => ?_)
    refine lv_if_eq (tgt := 100) hx hb d_RE_number_93 (by decide) (fun hc11 => ?_) (fun hc11 => ?_)
    · have hf := mz_t hc11 hf
      exact b_RE_number_100 E n x1 x2 q9.2 hf _ _ _ w (lv_sub hl [0, 1, 2] rfl)
    · have hf := mz_f hc11 hf
      refine lv_iconst (v := (1 : Int32)) hx hb d_RE_number_96 (by decide) ?_
      refine lv_goto (tgt := 101) hx hb d_RE_number_97 (by decide) ?_
      exact b_RE_number_101 E n x1 x2 (1 : Int32) q9.2 hf _ _ _ w (lv_sub hl [0, 1, 2] rfl)
set_option maxRecDepth 100000 in
set_option maxHeartbeats 4000000 in
theorem b_RE_number_4 {SX : State → Heap → Prop} {dC : Nat → ClassId} {dI : Nat → Nat → Nat} {ad en : Nat → Nat} {ca : Nat → ClassId} {p : Program} {l : Launch} {e : Env} {s : State} {m : MethodId} {args : Array Value} {below : List Frame} {meth : Method} {c : Code} {res : (Int32 × mz_St)} (E : mz_En SX 80 mz_cl dC dI ad ca p s m meth c prog_11_method_14_code 4 "MacroHouse$Reader" (some (.int))) (n : Nat) (k : Nat) : ∀ (x1 : Int32) (x2 : Int32) (t : mz_St), f_RE_number_4 n k x1 x2 t = some res → ∀ (H : Heap) (locs : List Loc) (ls : Array Slot), mz_Wd mz_tC 80 mz_cl dC dI ad en ca s t H locs → lv_has ls 4 [(0, .ref (ad 6)), (1, .int x1), (2, .int x2)] → W p l e r_RE_number s m args below meth c H locs 0 0 (MQ below (mz_Q SX mz_tC 80 mz_cl dC dI ad en ca (some (.int res.1)) res.2) args s 0 0 (mz_A ad 80)) (F0 m 4 ls []) := by
  obtain ⟨hx, hb, hml, hown, hcx, -, -, hSX, -, -, hSK⟩ := id E
  induction k with
  | zero => intro x1 x2 t hf; exact absurd hf (by unfold f_RE_number_4; exact fun h => nomatch h)
  | succ k ih =>
    intro x1 x2 t hf H locs ls w hl
    unfold f_RE_number_4 at hf
    refine lv_aload_n hx hb d_RE_number_4 rfl (lv_at hl 0 rfl) ?_
    refine mz_get E w 6 2 (v := .int (mz_gI t 6 2)) (by decide) rfl rfl ii_3 (by decide) (Nat.le_of_ble_eq_true rfl) k_179 rfl d_RE_number_5 ?_
    refine lv_aload_n hx hb d_RE_number_8 rfl (lv_at hl 0 rfl) ?_
    refine mz_get E w 6 3 (v := .int (mz_gI t 6 3)) (by decide) rfl rfl ii_3 (by decide) (Nat.le_of_ble_eq_true rfl) k_182 rfl d_RE_number_9 ?_
    refine lv_icmp_ge (tgt := 68) hx hb d_RE_number_12 (by decide) (fun hc1 => ?_) (fun hc1 => ?_)
    · have hf := mz_t hc1 hf
      exact b_RE_number_68 E n x1 x2 t hf _ _ _ w (lv_sub hl [0, 1, 2] rfl)
    · have hf := mz_f hc1 hf
      refine lv_aload_n hx hb d_RE_number_15 rfl (lv_at hl 0 rfl) ?_
      refine mz_get E w 6 0 (v := .ref (ad 1)) (by decide) rfl rfl ii_3 (by decide) (Nat.le_of_ble_eq_true rfl) k_177 rfl d_RE_number_16 ?_
      refine lv_aload_n hx hb d_RE_number_19 rfl (lv_at hl 0 rfl) ?_
      refine mz_get E w 6 2 (v := .int (mz_gI t 6 2)) (by decide) rfl rfl ii_3 (by decide) (Nat.le_of_ble_eq_true rfl) k_179 rfl d_RE_number_20 ?_
      obtain ⟨q12, hq13, hf⟩ := mz_bd hf
      refine mz_callV E w (k := 1) (As := [.int (mz_gI t 6 2)]) (rest := []) (c_SI_at hSK l n (mz_gI t 6 2) t q12 hq13) (by decide) rfl rfl k_450 k_2 k_800 k_448 k_449 hm_SI_at ⟨⟨rfl, rfl⟩, Nat.le_of_ble_eq_true rfl, Nat.le_of_ble_eq_true rfl⟩ rfl hl.1 rfl (Nat.le_of_ble_eq_true rfl) d_RE_number_23 ⟨Nat.zero_le _, Nat.zero_le _⟩ (st1 := [.int q12.1]) rfl (fun H locs w => ?_)
      obtain ⟨q14, hq15, hf⟩ := mz_bd hf
      refine mz_callS E w (As := [.int q12.1]) (rest := []) (c_SI_isDigit hSK l n q12.1 q12.2 q14 hq15) k_572 k_2 k_831 k_571 hm_SI_isDigit ⟨⟨rfl, rfl⟩, Nat.le_of_ble_eq_true rfl, Nat.le_of_ble_eq_true rfl⟩ rfl hl.1 rfl (Nat.le_of_ble_eq_true rfl) d_RE_number_26 ⟨Nat.zero_le _, Nat.zero_le _⟩ (st1 := [.int q14.1]) rfl (fun H locs w => ?_)
      refine lv_if_eq (tgt := 68) hx hb d_RE_number_29 (by decide) (fun hc16 => ?_) (fun hc16 => ?_)
      · have hf := mz_t hc16 hf
        exact b_RE_number_68 E n x1 x2 q14.2 hf _ _ _ w (lv_sub hl [0, 1, 2] rfl)
      · have hf := mz_f hc16 hf
        refine lv_iload_n hx hb d_RE_number_32 rfl (lv_at hl 1 rfl) ?_
        refine lv_bipush (v := (10 : Int32)) hx hb d_RE_number_33 (by decide) ?_
        refine lv_imul hx hb d_RE_number_35 ?_
        refine lv_aload_n hx hb d_RE_number_36 rfl (lv_at hl 0 rfl) ?_
        refine mz_get E w 6 0 (v := .ref (ad 1)) (by decide) rfl rfl ii_3 (by decide) (Nat.le_of_ble_eq_true rfl) k_177 rfl d_RE_number_37 ?_
        refine lv_aload_n hx hb d_RE_number_40 rfl (lv_at hl 0 rfl) ?_
        refine mz_get E w 6 2 (v := .int (mz_gI q14.2 6 2)) (by decide) rfl rfl ii_3 (by decide) (Nat.le_of_ble_eq_true rfl) k_179 rfl d_RE_number_41 ?_
        obtain ⟨q17, hq18, hf⟩ := mz_bd hf
        refine mz_callV E w (k := 1) (As := [.int (mz_gI q14.2 6 2)]) (rest := [.int (x1 * (10 : Int32))]) (c_SI_at hSK l n (mz_gI q14.2 6 2) q14.2 q17 hq18) (by decide) rfl rfl k_450 k_2 k_800 k_448 k_449 hm_SI_at ⟨⟨rfl, rfl⟩, Nat.le_of_ble_eq_true rfl, Nat.le_of_ble_eq_true rfl⟩ rfl hl.1 rfl (Nat.le_of_ble_eq_true rfl) d_RE_number_44 ⟨Nat.zero_le _, Nat.zero_le _⟩ (st1 := [.int q17.1, .int (x1 * (10 : Int32))]) rfl (fun H locs w => ?_)
        refine lv_bipush (v := (48 : Int32)) hx hb d_RE_number_47 (by decide) ?_
        refine lv_isub hx hb d_RE_number_49 ?_
        refine lv_iadd hx hb d_RE_number_50 ?_
        refine lv_istore_n (lv' := [(1, .int ((x1 * (10 : Int32)) + (q17.1 - (48 : Int32)))), (0, .ref (ad 6)), (2, .int x2)]) hx hb d_RE_number_51 rfl hl (by decide) rfl (fun ls hl => ?_)
        refine lv_iinc (v := (x2 + (1 : Int32))) (lv' := [(2, .int (x2 + (1 : Int32))), (1, .int ((x1 * (10 : Int32)) + (q17.1 - (48 : Int32)))), (0, .ref (ad 6))]) hx hb d_RE_number_52 hl (k := 2) rfl rfl (by decide) rfl (fun ls hl => ?_)
        refine lv_aload_n hx hb d_RE_number_55 rfl (lv_at hl 2 rfl) ?_
        refine lv_dup hx hb d_RE_number_56 rfl ?_
        refine mz_get E w 6 2 (v := .int (mz_gI q17.2 6 2)) (by decide) rfl rfl ii_3 (by decide) (Nat.le_of_ble_eq_true rfl) k_179 rfl d_RE_number_57 ?_
        refine lv_iconst (v := (1 : Int32)) hx hb d_RE_number_60 (by decide) ?_
        refine lv_iadd hx hb d_RE_number_61 ?_
        refine mz_put E w 6 2 (v := ((mz_gI q17.2 6 2) + (1 : Int32))) (by decide) rfl rfl ii_3 tk_3 nm_3 (by decide) (Nat.le_of_ble_eq_true rfl) k_179 rfl (tk_3 2 (by decide)) rfl rfl rfl d_RE_number_62 (fun H locs w => ?_)
        obtain ⟨t19, e_t19, hf⟩ := mz_lt hf
        rw [← e_t19] at w
        refine lv_goto (tgt := 4) hx hb d_RE_number_65 (by decide) ?_
        exact ih ((x1 * (10 : Int32)) + (q17.1 - (48 : Int32))) (x2 + (1 : Int32)) t19 hf _ _ _ w (lv_sub hl [2, 1, 0] rfl)
set_option maxRecDepth 100000 in
set_option maxHeartbeats 4000000 in
theorem c_RE_number {SX : State → Heap → Prop} {dC : Nat → ClassId} {dI : Nat → Nat → Nat} {ad en : Nat → Nat} {ca : Nat → ClassId} (hSK : mz_SK SX ad 80) (l : Launch) (n : Nat) (t : mz_St) (res : (Int32 × mz_St)) (hf : f_RE_number n t = some res) : mz_C SX mz_tC 80 mz_cl dC dI ad en ca l y_RE_number prog_11_method_14_code 4 (some (.int)) r_RE_number [.ref (ad 6)] t (some (.int res.1)) res.2 := by
  unfold f_RE_number at hf
  refine mz_met hSK (by decide) (Nat.le_of_ble_eq_true rfl) ?_
  intro p e s m args below meth c ls E w hl
  obtain ⟨hx, hb, hml, hown, hcx, -, -, hSX, -, -, -⟩ := id E
  have hl : lv_has ls 4 [(0, .ref (ad 6))] := hl
  refine lv_iconst (v := (0 : Int32)) hx hb d_RE_number_0 (by decide) ?_
  refine lv_istore_n (lv' := [(1, .int (0 : Int32)), (0, .ref (ad 6))]) hx hb d_RE_number_1 rfl hl (by decide) rfl (fun ls hl => ?_)
  refine lv_iconst (v := (0 : Int32)) hx hb d_RE_number_2 (by decide) ?_
  refine lv_istore_n (lv' := [(2, .int (0 : Int32)), (1, .int (0 : Int32)), (0, .ref (ad 6))]) hx hb d_RE_number_3 rfl hl (by decide) rfl (fun ls hl => ?_)
  exact b_RE_number_4 E n n (0 : Int32) (0 : Int32) t hf _ _ _ w (lv_sub hl [2, 1, 0] rfl)

/-! MacroHouse$Reader.meet(I)V -/
abbrev r_RE_meet : Room := { frames := 0, cells := 0, slots := 0, locals := 0 }
def f_RE_meet (n : Nat) (x1 : Int32) (t : mz_St) : Option mz_St := if (mz_gI t 6 7) = 0 then (mz_let (mz_pI t 6 7 x1) fun t2 => some t2) else (some t)
set_option maxRecDepth 100000 in
set_option maxHeartbeats 4000000 in
theorem c_RE_meet {SX : State → Heap → Prop} {dC : Nat → ClassId} {dI : Nat → Nat → Nat} {ad en : Nat → Nat} {ca : Nat → ClassId} (hSK : mz_SK SX ad 80) (l : Launch) (n : Nat) (x1 : Int32) (t : mz_St) (res : mz_St) (hf : f_RE_meet n x1 t = some res) : mz_C SX mz_tC 80 mz_cl dC dI ad en ca l y_RE_meet prog_11_method_15_code 2 none r_RE_meet [.ref (ad 6), .int x1] t none res := by
  unfold f_RE_meet at hf
  refine mz_met hSK (by decide) (Nat.le_of_ble_eq_true rfl) ?_
  intro p e s m args below meth c ls E w hl
  obtain ⟨hx, hb, hml, hown, hcx, -, -, hSX, -, -, -⟩ := id E
  have hl : lv_has ls 2 [(0, .ref (ad 6)), (1, .int x1)] := hl
  refine lv_aload_n hx hb d_RE_meet_0 rfl (lv_at hl 0 rfl) ?_
  refine mz_get E w 6 7 (v := .int (mz_gI t 6 7)) (by decide) rfl rfl ii_3 (by decide) (Nat.le_of_ble_eq_true rfl) k_192 rfl d_RE_meet_1 ?_
  refine lv_if_ne (tgt := 12) hx hb d_RE_meet_4 (by decide) (fun hc1 => ?_) (fun hc1 => ?_)
  · have hf := mz_f hc1 hf
    obtain rfl := Option.some.inj hf
    exact mz_vret E w rfl d_RE_meet_12
  · have hf := mz_t hc1 hf
    refine lv_aload_n hx hb d_RE_meet_7 rfl (lv_at hl 0 rfl) ?_
    refine lv_iload_n hx hb d_RE_meet_8 rfl (lv_at hl 1 rfl) ?_
    refine mz_put E w 6 7 (v := x1) (by decide) rfl rfl ii_3 tk_3 nm_3 (by decide) (Nat.le_of_ble_eq_true rfl) k_192 rfl (tk_3 7 (by decide)) rfl rfl rfl d_RE_meet_9 (fun H locs w => ?_)
    obtain ⟨t2, e_t2, hf⟩ := mz_lt hf
    rw [← e_t2] at w
    obtain rfl := Option.some.inj hf
    exact mz_vret E w rfl d_RE_meet_12

/-! MacroHouse$Reader.divisor(I)I -/
abbrev r_RE_divisor : Room := { frames := 1, cells := 0, slots := 0, locals := 21 }
def f_RE_divisor (n : Nat) (x1 : Int32) (t : mz_St) : Option (Int32 × mz_St) := if x1 = 0 then ((f_RE_meet n (4 : Int32) t).bind fun q2 => some (x1, q2)) else (some (x1, t))
set_option maxRecDepth 100000 in
set_option maxHeartbeats 4000000 in
theorem c_RE_divisor {SX : State → Heap → Prop} {dC : Nat → ClassId} {dI : Nat → Nat → Nat} {ad en : Nat → Nat} {ca : Nat → ClassId} (hSK : mz_SK SX ad 80) (l : Launch) (n : Nat) (x1 : Int32) (t : mz_St) (res : (Int32 × mz_St)) (hf : f_RE_divisor n x1 t = some res) : mz_C SX mz_tC 80 mz_cl dC dI ad en ca l y_RE_divisor prog_11_method_11_code 2 (some (.int)) r_RE_divisor [.ref (ad 6), .int x1] t (some (.int res.1)) res.2 := by
  unfold f_RE_divisor at hf
  refine mz_met hSK (by decide) (Nat.le_of_ble_eq_true rfl) ?_
  intro p e s m args below meth c ls E w hl
  obtain ⟨hx, hb, hml, hown, hcx, -, -, hSX, -, -, -⟩ := id E
  have hl : lv_has ls 2 [(0, .ref (ad 6)), (1, .int x1)] := hl
  refine lv_iload_n hx hb d_RE_divisor_0 rfl (lv_at hl 1 rfl) ?_
  refine lv_if_ne (tgt := 9) hx hb d_RE_divisor_1 (by decide) (fun hc1 => ?_) (fun hc1 => ?_)
  · have hf := mz_f hc1 hf
    refine lv_iload_n hx hb d_RE_divisor_9 rfl (lv_at hl 1 rfl) ?_
    obtain rfl := Option.some.inj hf
    exact mz_iret E w rfl d_RE_divisor_10
  · have hf := mz_t hc1 hf
    refine lv_aload_n hx hb d_RE_divisor_4 rfl (lv_at hl 0 rfl) ?_
    refine lv_iconst (v := (4 : Int32)) hx hb d_RE_divisor_5 (by decide) ?_
    obtain ⟨q2, hq3, hf⟩ := mz_bd hf
    refine mz_callV E w (k := 6) (As := [.int (4 : Int32)]) (rest := []) (c_RE_meet hSK l n (4 : Int32) t q2 hq3) (by decide) rfl rfl k_842 k_11 k_839 k_841 ks_27 hm_RE_meet ⟨⟨rfl, rfl⟩, Nat.le_of_ble_eq_true rfl, Nat.le_of_ble_eq_true rfl⟩ rfl hl.1 rfl (Nat.le_of_ble_eq_true rfl) d_RE_divisor_6 ⟨Nat.zero_le _, Nat.zero_le _⟩ (st1 := []) rfl (fun H locs w => ?_)
    refine lv_iload_n hx hb d_RE_divisor_9 rfl (lv_at hl 1 rfl) ?_
    obtain rfl := Option.some.inj hf
    exact mz_iret E w rfl d_RE_divisor_10

/-! MacroHouse$Reader.takePair(II)Z -/
abbrev r_RE_takePair : Room := { frames := 2, cells := 0, slots := 0, locals := 43 }
def f_RE_takePair (n : Nat) (x1 : Int32) (x2 : Int32) (t : mz_St) : Option (Int32 × mz_St) := (f_RE_next n t).bind fun q1 => if q1.1 = x1 then (if (mz_gI q1.2 6 3) ≤ ((mz_gI q1.2 6 2) + (1 : Int32)) then (some ((0 : Int32), q1.2)) else ((f_SI_at n ((mz_gI q1.2 6 2) + (1 : Int32)) q1.2).bind fun q5 => if q5.1 = x2 then (mz_let (mz_pI q5.2 6 2 ((mz_gI q5.2 6 2) + (2 : Int32))) fun t8 => some ((1 : Int32), t8)) else (some ((0 : Int32), q5.2)))) else (some ((0 : Int32), q1.2))
set_option maxRecDepth 100000 in
set_option maxHeartbeats 4000000 in
theorem c_RE_takePair {SX : State → Heap → Prop} {dC : Nat → ClassId} {dI : Nat → Nat → Nat} {ad en : Nat → Nat} {ca : Nat → ClassId} (hSK : mz_SK SX ad 80) (l : Launch) (n : Nat) (x1 : Int32) (x2 : Int32) (t : mz_St) (res : (Int32 × mz_St)) (hf : f_RE_takePair n x1 x2 t = some res) : mz_C SX mz_tC 80 mz_cl dC dI ad en ca l y_RE_takePair prog_11_method_8_code 3 (some (.boolean)) r_RE_takePair [.ref (ad 6), .int x1, .int x2] t (some (.int res.1)) res.2 := by
  unfold f_RE_takePair at hf
  refine mz_met hSK (by decide) (Nat.le_of_ble_eq_true rfl) ?_
  intro p e s m args below meth c ls E w hl
  obtain ⟨hx, hb, hml, hown, hcx, -, -, hSX, -, -, -⟩ := id E
  have hl : lv_has ls 3 [(0, .ref (ad 6)), (1, .int x1), (2, .int x2)] := hl
  refine lv_aload_n hx hb d_RE_takePair_0 rfl (lv_at hl 0 rfl) ?_
  obtain ⟨q1, hq2, hf⟩ := mz_bd hf
  refine mz_callV E w (k := 6) (As := []) (rest := []) (c_RE_next hSK l n t q1 hq2) (by decide) rfl rfl k_820 k_11 k_817 k_818 k_819 hm_RE_next ⟨⟨rfl, rfl⟩, Nat.le_of_ble_eq_true rfl, Nat.le_of_ble_eq_true rfl⟩ rfl hl.1 rfl (Nat.le_of_ble_eq_true rfl) d_RE_takePair_1 ⟨Nat.zero_le _, Nat.zero_le _⟩ (st1 := [.int q1.1]) rfl (fun H locs w => ?_)
  refine lv_iload_n hx hb d_RE_takePair_4 rfl (lv_at hl 1 rfl) ?_
  refine lv_icmp_ne (tgt := 38) hx hb d_RE_takePair_5 (by decide) (fun hc3 => ?_) (fun hc3 => ?_)
  · have hf := mz_f hc3 hf
    refine lv_iconst (v := (0 : Int32)) hx hb d_RE_takePair_38 (by decide) ?_
    obtain rfl := Option.some.inj hf
    exact mz_zret E w (by decide) rfl d_RE_takePair_39
  · have hf := mz_t hc3 hf
    refine lv_aload_n hx hb d_RE_takePair_8 rfl (lv_at hl 0 rfl) ?_
    refine mz_get E w 6 2 (v := .int (mz_gI q1.2 6 2)) (by decide) rfl rfl ii_3 (by decide) (Nat.le_of_ble_eq_true rfl) k_179 rfl d_RE_takePair_9 ?_
    refine lv_iconst (v := (1 : Int32)) hx hb d_RE_takePair_12 (by decide) ?_
    refine lv_iadd hx hb d_RE_takePair_13 ?_
    refine lv_aload_n hx hb d_RE_takePair_14 rfl (lv_at hl 0 rfl) ?_
    refine mz_get E w 6 3 (v := .int (mz_gI q1.2 6 3)) (by decide) rfl rfl ii_3 (by decide) (Nat.le_of_ble_eq_true rfl) k_182 rfl d_RE_takePair_15 ?_
    refine lv_icmp_ge (tgt := 38) hx hb d_RE_takePair_18 (by decide) (fun hc4 => ?_) (fun hc4 => ?_)
    · have hf := mz_t hc4 hf
      refine lv_iconst (v := (0 : Int32)) hx hb d_RE_takePair_38 (by decide) ?_
      obtain rfl := Option.some.inj hf
      exact mz_zret E w (by decide) rfl d_RE_takePair_39
    · have hf := mz_f hc4 hf
      refine lv_aload_n hx hb d_RE_takePair_21 rfl (lv_at hl 0 rfl) ?_
      refine mz_get E w 6 0 (v := .ref (ad 1)) (by decide) rfl rfl ii_3 (by decide) (Nat.le_of_ble_eq_true rfl) k_177 rfl d_RE_takePair_22 ?_
      refine lv_aload_n hx hb d_RE_takePair_25 rfl (lv_at hl 0 rfl) ?_
      refine mz_get E w 6 2 (v := .int (mz_gI q1.2 6 2)) (by decide) rfl rfl ii_3 (by decide) (Nat.le_of_ble_eq_true rfl) k_179 rfl d_RE_takePair_26 ?_
      refine lv_iconst (v := (1 : Int32)) hx hb d_RE_takePair_29 (by decide) ?_
      refine lv_iadd hx hb d_RE_takePair_30 ?_
      obtain ⟨q5, hq6, hf⟩ := mz_bd hf
      refine mz_callV E w (k := 1) (As := [.int ((mz_gI q1.2 6 2) + (1 : Int32))]) (rest := []) (c_SI_at hSK l n ((mz_gI q1.2 6 2) + (1 : Int32)) q1.2 q5 hq6) (by decide) rfl rfl k_450 k_2 k_800 k_448 k_449 hm_SI_at ⟨⟨rfl, rfl⟩, Nat.le_of_ble_eq_true rfl, Nat.le_of_ble_eq_true rfl⟩ rfl hl.1 rfl (Nat.le_of_ble_eq_true rfl) d_RE_takePair_31 ⟨Nat.zero_le _, Nat.zero_le _⟩ (st1 := [.int q5.1]) rfl (fun H locs w => ?_)
      refine lv_iload_n hx hb d_RE_takePair_34 rfl (lv_at hl 2 rfl) ?_
      refine lv_icmp_eq (tgt := 40) hx hb d_RE_takePair_35 (by decide) (fun hc7 => ?_) (fun hc7 => ?_)
      · have hf := mz_t hc7 hf
        refine lv_aload_n hx hb d_RE_takePair_40 rfl (lv_at hl 0 rfl) ?_
        refine lv_dup hx hb d_RE_takePair_41 rfl ?_
        refine mz_get E w 6 2 (v := .int (mz_gI q5.2 6 2)) (by decide) rfl rfl ii_3 (by decide) (Nat.le_of_ble_eq_true rfl) k_179 rfl d_RE_takePair_42 ?_
        refine lv_iconst (v := (2 : Int32)) hx hb d_RE_takePair_45 (by decide) ?_
        refine lv_iadd hx hb d_RE_takePair_46 ?_
        refine mz_put E w 6 2 (v := ((mz_gI q5.2 6 2) + (2 : Int32))) (by decide) rfl rfl ii_3 tk_3 nm_3 (by decide) (Nat.le_of_ble_eq_true rfl) k_179 rfl (tk_3 2 (by decide)) rfl rfl rfl d_RE_takePair_47 (fun H locs w => ?_)
        obtain ⟨t8, e_t8, hf⟩ := mz_lt hf
        rw [← e_t8] at w
        refine lv_iconst (v := (1 : Int32)) hx hb d_RE_takePair_50 (by decide) ?_
        obtain rfl := Option.some.inj hf
        exact mz_zret E w (by decide) rfl d_RE_takePair_51
      · have hf := mz_f hc7 hf
        refine lv_iconst (v := (0 : Int32)) hx hb d_RE_takePair_38 (by decide) ?_
        obtain rfl := Option.some.inj hf
        exact mz_zret E w (by decide) rfl d_RE_takePair_39

/-! MacroHouse$Reader.isDone()Z -/
abbrev r_RE_isDone : Room := { frames := 2, cells := 0, slots := 0, locals := 43 }
def f_RE_isDone (n : Nat) (t : mz_St) : Option (Int32 × mz_St) := (f_RE_next n t).bind fun q1 => if q1.1 = (-1 : Int32) then (some ((1 : Int32), q1.2)) else (some ((0 : Int32), q1.2))
set_option maxRecDepth 100000 in
set_option maxHeartbeats 4000000 in
theorem c_RE_isDone {SX : State → Heap → Prop} {dC : Nat → ClassId} {dI : Nat → Nat → Nat} {ad en : Nat → Nat} {ca : Nat → ClassId} (hSK : mz_SK SX ad 80) (l : Launch) (n : Nat) (t : mz_St) (res : (Int32 × mz_St)) (hf : f_RE_isDone n t = some res) : mz_C SX mz_tC 80 mz_cl dC dI ad en ca l y_RE_isDone prog_11_method_4_code 1 (some (.boolean)) r_RE_isDone [.ref (ad 6)] t (some (.int res.1)) res.2 := by
  unfold f_RE_isDone at hf
  refine mz_met hSK (by decide) (Nat.le_of_ble_eq_true rfl) ?_
  intro p e s m args below meth c ls E w hl
  obtain ⟨hx, hb, hml, hown, hcx, -, -, hSX, -, -, -⟩ := id E
  have hl : lv_has ls 1 [(0, .ref (ad 6))] := hl
  refine lv_aload_n hx hb d_RE_isDone_0 rfl (lv_at hl 0 rfl) ?_
  obtain ⟨q1, hq2, hf⟩ := mz_bd hf
  refine mz_callV E w (k := 6) (As := []) (rest := []) (c_RE_next hSK l n t q1 hq2) (by decide) rfl rfl k_820 k_11 k_817 k_818 k_819 hm_RE_next ⟨⟨rfl, rfl⟩, Nat.le_of_ble_eq_true rfl, Nat.le_of_ble_eq_true rfl⟩ rfl hl.1 rfl (Nat.le_of_ble_eq_true rfl) d_RE_isDone_1 ⟨Nat.zero_le _, Nat.zero_le _⟩ (st1 := [.int q1.1]) rfl (fun H locs w => ?_)
  refine lv_iconst (v := (-1 : Int32)) hx hb d_RE_isDone_4 (by decide) ?_
  refine lv_icmp_ne (tgt := 12) hx hb d_RE_isDone_5 (by decide) (fun hc3 => ?_) (fun hc3 => ?_)
  · have hf := mz_f hc3 hf
    refine lv_iconst (v := (0 : Int32)) hx hb d_RE_isDone_12 (by decide) ?_
    obtain rfl := Option.some.inj hf
    exact mz_zret E w (by decide) rfl d_RE_isDone_13
  · have hf := mz_t hc3 hf
    refine lv_iconst (v := (1 : Int32)) hx hb d_RE_isDone_8 (by decide) ?_
    refine lv_goto (tgt := 13) hx hb d_RE_isDone_9 (by decide) ?_
    obtain rfl := Option.some.inj hf
    exact mz_zret E w (by decide) rfl d_RE_isDone_13
