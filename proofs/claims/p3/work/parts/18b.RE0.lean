/-! MacroHouse$Reader.begin(II)V -/
abbrev r_RE_begin : Room := { frames := 0, cells := 0, slots := 0, locals := 0 }
def f_RE_begin (n : Nat) (x1 : Int32) (x2 : Int32) (t : mz_St) : Option mz_St := mz_let (mz_pI t 6 2 x1) fun t1 => mz_let (mz_pI t1 6 3 x2) fun t2 => mz_let (mz_pI t2 6 6 (0 : Int32)) fun t3 => mz_let (mz_pI t3 6 7 (0 : Int32)) fun t4 => some t4
set_option maxRecDepth 100000 in
set_option maxHeartbeats 4000000 in
theorem c_RE_begin {SX : State → Heap → Prop} {dC : Nat → ClassId} {dI : Nat → Nat → Nat} {ad en : Nat → Nat} {ca : Nat → ClassId} (hSK : mz_SK SX ad 80) (l : Launch) (n : Nat) (x1 : Int32) (x2 : Int32) (t : mz_St) (res : mz_St) (hf : f_RE_begin n x1 x2 t = some res) : mz_C SX mz_tC 80 mz_cl dC dI ad en ca l y_RE_begin prog_11_method_2_code 3 none (r_RE_begin) [.ref (ad 6), .int x1, .int x2] t none res := by
  unfold f_RE_begin at hf
  refine mz_met hSK (by decide) (Nat.le_of_ble_eq_true rfl) ?_
  intro p e s m args below meth c ls E w hl
  obtain ⟨hx, hb, hml, hown, hcx, -, -, hSX, -, -, -⟩ := id E
  have hl : lv_has ls 3 [(0, .ref (ad 6)), (1, .int x1), (2, .int x2)] := hl
  refine lv_aload_n hx hb d_RE_begin_0 rfl (lv_at hl 0 rfl) ?_
  refine lv_iload_n hx hb d_RE_begin_1 rfl (lv_at hl 1 rfl) ?_
  refine mz_put E w 6 2 (v := x1) (by decide) rfl rfl ii_3 tk_3 nm_3 (by decide) (Nat.le_of_ble_eq_true rfl) k_179 rfl (tk_3 2 (by decide)) rfl rfl rfl d_RE_begin_2 (fun H locs w => ?_)
  obtain ⟨t1, e_t1, hf⟩ := mz_lt hf
  rw [← e_t1] at w
  refine lv_aload_n hx hb d_RE_begin_5 rfl (lv_at hl 0 rfl) ?_
  refine lv_iload_n hx hb d_RE_begin_6 rfl (lv_at hl 2 rfl) ?_
  refine mz_put E w 6 3 (v := x2) (by decide) rfl rfl ii_3 tk_3 nm_3 (by decide) (Nat.le_of_ble_eq_true rfl) k_182 rfl (tk_3 3 (by decide)) rfl rfl rfl d_RE_begin_7 (fun H locs w => ?_)
  obtain ⟨t2, e_t2, hf⟩ := mz_lt hf
  rw [← e_t2] at w
  refine lv_aload_n hx hb d_RE_begin_10 rfl (lv_at hl 0 rfl) ?_
  refine lv_iconst (v := (0 : Int32)) hx hb d_RE_begin_11 (by decide) ?_
  refine mz_put E w 6 6 (v := (0 : Int32)) (by decide) rfl rfl ii_3 tk_3 nm_3 (by decide) (Nat.le_of_ble_eq_true rfl) k_190 rfl (tk_3 6 (by decide)) rfl (by decide) rfl d_RE_begin_12 (fun H locs w => ?_)
  obtain ⟨t3, e_t3, hf⟩ := mz_lt hf
  rw [← e_t3] at w
  refine lv_aload_n hx hb d_RE_begin_15 rfl (lv_at hl 0 rfl) ?_
  refine lv_iconst (v := (0 : Int32)) hx hb d_RE_begin_16 (by decide) ?_
  refine mz_put E w 6 7 (v := (0 : Int32)) (by decide) rfl rfl ii_3 tk_3 nm_3 (by decide) (Nat.le_of_ble_eq_true rfl) k_192 rfl (tk_3 7 (by decide)) rfl rfl rfl d_RE_begin_17 (fun H locs w => ?_)
  obtain ⟨t4, e_t4, hf⟩ := mz_lt hf
  rw [← e_t4] at w
  obtain rfl := Option.some.inj hf
  exact mz_vret E w rfl d_RE_begin_20

/-! MacroHouse$Reader.takeWord()Z -/
abbrev r_RE_takeWord : Room := { frames := 2, cells := 0, slots := 0, locals := 44 }
def f_RE_takeWord (n : Nat) (t : mz_St) : Option (Int32 × mz_St) := (f_SI_behindBlanks n (mz_gI t 6 2) (mz_gI t 6 3) t).bind fun q1 => mz_let (mz_pI q1.2 6 2 q1.1) fun t3 => mz_let (mz_pI t3 6 4 (mz_gI t3 6 2)) fun t4 => (f_SI_wordEnd n (mz_gI t4 6 2) (mz_gI t4 6 3) t4).bind fun q5 => mz_let (mz_pI q5.2 6 5 q5.1) fun t7 => mz_let (mz_pI t7 6 2 (mz_gI t7 6 5)) fun t8 => if (mz_gI t8 6 5) ≤ (mz_gI t8 6 4) then (some ((0 : Int32), t8)) else (if (12 : Int32) < ((mz_gI t8 6 5) - (mz_gI t8 6 4)) then (some ((0 : Int32), t8)) else (some ((1 : Int32), t8)))
set_option maxRecDepth 100000 in
set_option maxHeartbeats 4000000 in
theorem c_RE_takeWord {SX : State → Heap → Prop} {dC : Nat → ClassId} {dI : Nat → Nat → Nat} {ad en : Nat → Nat} {ca : Nat → ClassId} (hSK : mz_SK SX ad 80) (l : Launch) (n : Nat) (t : mz_St) (res : (Int32 × mz_St)) (hf : f_RE_takeWord n t = some res) : mz_C SX mz_tC 80 mz_cl dC dI ad en ca l y_RE_takeWord prog_11_method_6_code 1 (some (.boolean)) (r_RE_takeWord) [.ref (ad 6)] t (some (.int res.1)) res.2 := by
  unfold f_RE_takeWord at hf
  refine mz_met hSK (by decide) (Nat.le_of_ble_eq_true rfl) ?_
  intro p e s m args below meth c ls E w hl
  obtain ⟨hx, hb, hml, hown, hcx, -, -, hSX, -, -, -⟩ := id E
  have hl : lv_has ls 1 [(0, .ref (ad 6))] := hl
  refine lv_aload_n hx hb d_RE_takeWord_0 rfl (lv_at hl 0 rfl) ?_
  refine lv_aload_n hx hb d_RE_takeWord_1 rfl (lv_at hl 0 rfl) ?_
  refine mz_get E w 6 0 (v := .ref (ad 1)) (by decide) rfl rfl ii_3 (by decide) (Nat.le_of_ble_eq_true rfl) k_177 rfl d_RE_takeWord_2 ?_
  refine lv_aload_n hx hb d_RE_takeWord_5 rfl (lv_at hl 0 rfl) ?_
  refine mz_get E w 6 2 (v := .int (mz_gI t 6 2)) (by decide) rfl rfl ii_3 (by decide) (Nat.le_of_ble_eq_true rfl) k_179 rfl d_RE_takeWord_6 ?_
  refine lv_aload_n hx hb d_RE_takeWord_9 rfl (lv_at hl 0 rfl) ?_
  refine mz_get E w 6 3 (v := .int (mz_gI t 6 3)) (by decide) rfl rfl ii_3 (by decide) (Nat.le_of_ble_eq_true rfl) k_182 rfl d_RE_takeWord_10 ?_
  obtain ⟨q1, hq2, hf⟩ := mz_bd hf
  refine mz_callV E w (k := 1) (As := [.int (mz_gI t 6 2), .int (mz_gI t 6 3)]) (rest := [.ref (ad 6)]) (c_SI_behindBlanks hSK l n (mz_gI t 6 2) (mz_gI t 6 3) t q1 hq2) (by decide) rfl rfl k_462 k_2 k_794 k_460 k_461 hm_SI_behindBlanks ⟨⟨rfl, rfl⟩, Nat.le_of_ble_eq_true rfl, Nat.le_of_ble_eq_true rfl⟩ rfl hl.1 rfl (Nat.le_of_ble_eq_true rfl) d_RE_takeWord_13 ⟨Nat.zero_le _, Nat.zero_le _⟩ (st1 := [.int q1.1, .ref (ad 6)]) rfl (fun H locs w => ?_)
  refine mz_put E w 6 2 (v := q1.1) (by decide) rfl rfl ii_3 tk_3 nm_3 (by decide) (Nat.le_of_ble_eq_true rfl) k_179 rfl (tk_3 2 (by decide)) rfl rfl rfl d_RE_takeWord_16 (fun H locs w => ?_)
  obtain ⟨t3, e_t3, hf⟩ := mz_lt hf
  rw [← e_t3] at w
  refine lv_aload_n hx hb d_RE_takeWord_19 rfl (lv_at hl 0 rfl) ?_
  refine lv_aload_n hx hb d_RE_takeWord_20 rfl (lv_at hl 0 rfl) ?_
  refine mz_get E w 6 2 (v := .int (mz_gI t3 6 2)) (by decide) rfl rfl ii_3 (by decide) (Nat.le_of_ble_eq_true rfl) k_179 rfl d_RE_takeWord_21 ?_
  refine mz_put E w 6 4 (v := (mz_gI t3 6 2)) (by decide) rfl rfl ii_3 tk_3 nm_3 (by decide) (Nat.le_of_ble_eq_true rfl) k_185 rfl (tk_3 4 (by decide)) rfl rfl rfl d_RE_takeWord_24 (fun H locs w => ?_)
  obtain ⟨t4, e_t4, hf⟩ := mz_lt hf
  rw [← e_t4] at w
  refine lv_aload_n hx hb d_RE_takeWord_27 rfl (lv_at hl 0 rfl) ?_
  refine lv_aload_n hx hb d_RE_takeWord_28 rfl (lv_at hl 0 rfl) ?_
  refine mz_get E w 6 0 (v := .ref (ad 1)) (by decide) rfl rfl ii_3 (by decide) (Nat.le_of_ble_eq_true rfl) k_177 rfl d_RE_takeWord_29 ?_
  refine lv_aload_n hx hb d_RE_takeWord_32 rfl (lv_at hl 0 rfl) ?_
  refine mz_get E w 6 2 (v := .int (mz_gI t4 6 2)) (by decide) rfl rfl ii_3 (by decide) (Nat.le_of_ble_eq_true rfl) k_179 rfl d_RE_takeWord_33 ?_
  refine lv_aload_n hx hb d_RE_takeWord_36 rfl (lv_at hl 0 rfl) ?_
  refine mz_get E w 6 3 (v := .int (mz_gI t4 6 3)) (by decide) rfl rfl ii_3 (by decide) (Nat.le_of_ble_eq_true rfl) k_182 rfl d_RE_takeWord_37 ?_
  obtain ⟨q5, hq6, hf⟩ := mz_bd hf
  refine mz_callV E w (k := 1) (As := [.int (mz_gI t4 6 2), .int (mz_gI t4 6 3)]) (rest := [.ref (ad 6)]) (c_SI_wordEnd hSK l n (mz_gI t4 6 2) (mz_gI t4 6 3) t4 q5 hq6) (by decide) rfl rfl k_566 k_2 k_795 k_564 k_565 hm_SI_wordEnd ⟨⟨rfl, rfl⟩, Nat.le_of_ble_eq_true rfl, Nat.le_of_ble_eq_true rfl⟩ rfl hl.1 rfl (Nat.le_of_ble_eq_true rfl) d_RE_takeWord_40 ⟨Nat.zero_le _, Nat.zero_le _⟩ (st1 := [.int q5.1, .ref (ad 6)]) rfl (fun H locs w => ?_)
  refine mz_put E w 6 5 (v := q5.1) (by decide) rfl rfl ii_3 tk_3 nm_3 (by decide) (Nat.le_of_ble_eq_true rfl) k_188 rfl (tk_3 5 (by decide)) rfl rfl rfl d_RE_takeWord_43 (fun H locs w => ?_)
  obtain ⟨t7, e_t7, hf⟩ := mz_lt hf
  rw [← e_t7] at w
  refine lv_aload_n hx hb d_RE_takeWord_46 rfl (lv_at hl 0 rfl) ?_
  refine lv_aload_n hx hb d_RE_takeWord_47 rfl (lv_at hl 0 rfl) ?_
  refine mz_get E w 6 5 (v := .int (mz_gI t7 6 5)) (by decide) rfl rfl ii_3 (by decide) (Nat.le_of_ble_eq_true rfl) k_188 rfl d_RE_takeWord_48 ?_
  refine mz_put E w 6 2 (v := (mz_gI t7 6 5)) (by decide) rfl rfl ii_3 tk_3 nm_3 (by decide) (Nat.le_of_ble_eq_true rfl) k_179 rfl (tk_3 2 (by decide)) rfl rfl rfl d_RE_takeWord_51 (fun H locs w => ?_)
  obtain ⟨t8, e_t8, hf⟩ := mz_lt hf
  rw [← e_t8] at w
  refine lv_aload_n hx hb d_RE_takeWord_54 rfl (lv_at hl 0 rfl) ?_
  refine mz_get E w 6 5 (v := .int (mz_gI t8 6 5)) (by decide) rfl rfl ii_3 (by decide) (Nat.le_of_ble_eq_true rfl) k_188 rfl d_RE_takeWord_55 ?_
  refine lv_aload_n hx hb d_RE_takeWord_58 rfl (lv_at hl 0 rfl) ?_
  refine mz_get E w 6 4 (v := .int (mz_gI t8 6 4)) (by decide) rfl rfl ii_3 (by decide) (Nat.le_of_ble_eq_true rfl) k_185 rfl d_RE_takeWord_59 ?_
  refine lv_icmp_le (tgt := 83) hx hb d_RE_takeWord_62 (by decide) (fun hc9 => ?_) (fun hc9 => ?_)
  · have hf := mz_t hc9 hf
    refine lv_iconst (v := (0 : Int32)) hx hb d_RE_takeWord_83 (by decide) ?_
    obtain rfl := Option.some.inj hf
    exact mz_zret E w (by decide) rfl d_RE_takeWord_84
  · have hf := mz_f hc9 hf
    refine lv_aload_n hx hb d_RE_takeWord_65 rfl (lv_at hl 0 rfl) ?_
    refine mz_get E w 6 5 (v := .int (mz_gI t8 6 5)) (by decide) rfl rfl ii_3 (by decide) (Nat.le_of_ble_eq_true rfl) k_188 rfl d_RE_takeWord_66 ?_
    refine lv_aload_n hx hb d_RE_takeWord_69 rfl (lv_at hl 0 rfl) ?_
    refine mz_get E w 6 4 (v := .int (mz_gI t8 6 4)) (by decide) rfl rfl ii_3 (by decide) (Nat.le_of_ble_eq_true rfl) k_185 rfl d_RE_takeWord_70 ?_
    refine lv_isub hx hb d_RE_takeWord_73 ?_
    refine lv_bipush (v := (12 : Int32)) hx hb d_RE_takeWord_74 (by decide) ?_
    refine lv_icmp_gt (tgt := 83) hx hb d_RE_takeWord_76 (by decide) (fun hc10 => ?_) (fun hc10 => ?_)
    · have hf := mz_t hc10 hf
      refine lv_iconst (v := (0 : Int32)) hx hb d_RE_takeWord_83 (by decide) ?_
      obtain rfl := Option.some.inj hf
      exact mz_zret E w (by decide) rfl d_RE_takeWord_84
    · have hf := mz_f hc10 hf
      refine lv_iconst (v := (1 : Int32)) hx hb d_RE_takeWord_79 (by decide) ?_
      refine lv_goto (tgt := 84) hx hb d_RE_takeWord_80 (by decide) ?_
      obtain rfl := Option.some.inj hf
      exact mz_zret E w (by decide) rfl d_RE_takeWord_84

/-! MacroHouse$Reader.take(I)Z -/
abbrev r_RE_take : Room := { frames := 1, cells := 0, slots := 0, locals := 23 }
def f_RE_take (n : Nat) (x1 : Int32) (t : mz_St) : Option (Int32 × mz_St) := (f_SI_behindBlanks n (mz_gI t 6 2) (mz_gI t 6 3) t).bind fun q1 => mz_let (mz_pI q1.2 6 2 q1.1) fun t3 => if (mz_gI t3 6 3) ≤ (mz_gI t3 6 2) then (some ((0 : Int32), t3)) else ((f_SI_at n (mz_gI t3 6 2) t3).bind fun q5 => if q5.1 = x1 then (mz_let (mz_pI q5.2 6 2 ((mz_gI q5.2 6 2) + (1 : Int32))) fun t8 => some ((1 : Int32), t8)) else (some ((0 : Int32), q5.2)))
set_option maxRecDepth 100000 in
set_option maxHeartbeats 4000000 in
theorem c_RE_take {SX : State → Heap → Prop} {dC : Nat → ClassId} {dI : Nat → Nat → Nat} {ad en : Nat → Nat} {ca : Nat → ClassId} (hSK : mz_SK SX ad 80) (l : Launch) (n : Nat) (x1 : Int32) (t : mz_St) (res : (Int32 × mz_St)) (hf : f_RE_take n x1 t = some res) : mz_C SX mz_tC 80 mz_cl dC dI ad en ca l y_RE_take prog_11_method_5_code 2 (some (.boolean)) (r_RE_take) [.ref (ad 6), .int x1] t (some (.int res.1)) res.2 := by
  unfold f_RE_take at hf
  refine mz_met hSK (by decide) (Nat.le_of_ble_eq_true rfl) ?_
  intro p e s m args below meth c ls E w hl
  obtain ⟨hx, hb, hml, hown, hcx, -, -, hSX, -, -, -⟩ := id E
  have hl : lv_has ls 2 [(0, .ref (ad 6)), (1, .int x1)] := hl
  refine lv_aload_n hx hb d_RE_take_0 rfl (lv_at hl 0 rfl) ?_
  refine lv_aload_n hx hb d_RE_take_1 rfl (lv_at hl 0 rfl) ?_
  refine mz_get E w 6 0 (v := .ref (ad 1)) (by decide) rfl rfl ii_3 (by decide) (Nat.le_of_ble_eq_true rfl) k_177 rfl d_RE_take_2 ?_
  refine lv_aload_n hx hb d_RE_take_5 rfl (lv_at hl 0 rfl) ?_
  refine mz_get E w 6 2 (v := .int (mz_gI t 6 2)) (by decide) rfl rfl ii_3 (by decide) (Nat.le_of_ble_eq_true rfl) k_179 rfl d_RE_take_6 ?_
  refine lv_aload_n hx hb d_RE_take_9 rfl (lv_at hl 0 rfl) ?_
  refine mz_get E w 6 3 (v := .int (mz_gI t 6 3)) (by decide) rfl rfl ii_3 (by decide) (Nat.le_of_ble_eq_true rfl) k_182 rfl d_RE_take_10 ?_
  obtain ⟨q1, hq2, hf⟩ := mz_bd hf
  refine mz_callV E w (k := 1) (As := [.int (mz_gI t 6 2), .int (mz_gI t 6 3)]) (rest := [.ref (ad 6)]) (c_SI_behindBlanks hSK l n (mz_gI t 6 2) (mz_gI t 6 3) t q1 hq2) (by decide) rfl rfl k_462 k_2 k_794 k_460 k_461 hm_SI_behindBlanks ⟨⟨rfl, rfl⟩, Nat.le_of_ble_eq_true rfl, Nat.le_of_ble_eq_true rfl⟩ rfl hl.1 rfl (Nat.le_of_ble_eq_true rfl) d_RE_take_13 ⟨Nat.zero_le _, Nat.zero_le _⟩ (st1 := [.int q1.1, .ref (ad 6)]) rfl (fun H locs w => ?_)
  refine mz_put E w 6 2 (v := q1.1) (by decide) rfl rfl ii_3 tk_3 nm_3 (by decide) (Nat.le_of_ble_eq_true rfl) k_179 rfl (tk_3 2 (by decide)) rfl rfl rfl d_RE_take_16 (fun H locs w => ?_)
  obtain ⟨t3, e_t3, hf⟩ := mz_lt hf
  rw [← e_t3] at w
  refine lv_aload_n hx hb d_RE_take_19 rfl (lv_at hl 0 rfl) ?_
  refine mz_get E w 6 2 (v := .int (mz_gI t3 6 2)) (by decide) rfl rfl ii_3 (by decide) (Nat.le_of_ble_eq_true rfl) k_179 rfl d_RE_take_20 ?_
  refine lv_aload_n hx hb d_RE_take_23 rfl (lv_at hl 0 rfl) ?_
  refine mz_get E w 6 3 (v := .int (mz_gI t3 6 3)) (by decide) rfl rfl ii_3 (by decide) (Nat.le_of_ble_eq_true rfl) k_182 rfl d_RE_take_24 ?_
  refine lv_icmp_ge (tgt := 45) hx hb d_RE_take_27 (by decide) (fun hc4 => ?_) (fun hc4 => ?_)
  · have hf := mz_t hc4 hf
    refine lv_iconst (v := (0 : Int32)) hx hb d_RE_take_45 (by decide) ?_
    obtain rfl := Option.some.inj hf
    exact mz_zret E w (by decide) rfl d_RE_take_46
  · have hf := mz_f hc4 hf
    refine lv_aload_n hx hb d_RE_take_30 rfl (lv_at hl 0 rfl) ?_
    refine mz_get E w 6 0 (v := .ref (ad 1)) (by decide) rfl rfl ii_3 (by decide) (Nat.le_of_ble_eq_true rfl) k_177 rfl d_RE_take_31 ?_
    refine lv_aload_n hx hb d_RE_take_34 rfl (lv_at hl 0 rfl) ?_
    refine mz_get E w 6 2 (v := .int (mz_gI t3 6 2)) (by decide) rfl rfl ii_3 (by decide) (Nat.le_of_ble_eq_true rfl) k_179 rfl d_RE_take_35 ?_
    obtain ⟨q5, hq6, hf⟩ := mz_bd hf
    refine mz_callV E w (k := 1) (As := [.int (mz_gI t3 6 2)]) (rest := []) (c_SI_at hSK l n (mz_gI t3 6 2) t3 q5 hq6) (by decide) rfl rfl k_450 k_2 k_800 k_448 k_449 hm_SI_at ⟨⟨rfl, rfl⟩, Nat.le_of_ble_eq_true rfl, Nat.le_of_ble_eq_true rfl⟩ rfl hl.1 rfl (Nat.le_of_ble_eq_true rfl) d_RE_take_38 ⟨Nat.zero_le _, Nat.zero_le _⟩ (st1 := [.int q5.1]) rfl (fun H locs w => ?_)
    refine lv_iload_n hx hb d_RE_take_41 rfl (lv_at hl 1 rfl) ?_
    refine lv_icmp_eq (tgt := 47) hx hb d_RE_take_42 (by decide) (fun hc7 => ?_) (fun hc7 => ?_)
    · have hf := mz_t hc7 hf
      refine lv_aload_n hx hb d_RE_take_47 rfl (lv_at hl 0 rfl) ?_
      refine lv_dup hx hb d_RE_take_48 rfl ?_
      refine mz_get E w 6 2 (v := .int (mz_gI q5.2 6 2)) (by decide) rfl rfl ii_3 (by decide) (Nat.le_of_ble_eq_true rfl) k_179 rfl d_RE_take_49 ?_
      refine lv_iconst (v := (1 : Int32)) hx hb d_RE_take_52 (by decide) ?_
      refine lv_iadd hx hb d_RE_take_53 ?_
      refine mz_put E w 6 2 (v := ((mz_gI q5.2 6 2) + (1 : Int32))) (by decide) rfl rfl ii_3 tk_3 nm_3 (by decide) (Nat.le_of_ble_eq_true rfl) k_179 rfl (tk_3 2 (by decide)) rfl rfl rfl d_RE_take_54 (fun H locs w => ?_)
      obtain ⟨t8, e_t8, hf⟩ := mz_lt hf
      rw [← e_t8] at w
      refine lv_iconst (v := (1 : Int32)) hx hb d_RE_take_57 (by decide) ?_
      obtain rfl := Option.some.inj hf
      exact mz_zret E w (by decide) rfl d_RE_take_58
    · have hf := mz_f hc7 hf
      refine lv_iconst (v := (0 : Int32)) hx hb d_RE_take_45 (by decide) ?_
      obtain rfl := Option.some.inj hf
      exact mz_zret E w (by decide) rfl d_RE_take_46

/-! MacroHouse$Reader.meet(I)V -/
abbrev r_RE_meet : Room := { frames := 0, cells := 0, slots := 0, locals := 0 }
def f_RE_meet (n : Nat) (x1 : Int32) (t : mz_St) : Option mz_St := if (mz_gI t 6 7) = 0 then (mz_let (mz_pI t 6 7 x1) fun t2 => some t2) else (some t)
set_option maxRecDepth 100000 in
set_option maxHeartbeats 4000000 in
theorem c_RE_meet {SX : State → Heap → Prop} {dC : Nat → ClassId} {dI : Nat → Nat → Nat} {ad en : Nat → Nat} {ca : Nat → ClassId} (hSK : mz_SK SX ad 80) (l : Launch) (n : Nat) (x1 : Int32) (t : mz_St) (res : mz_St) (hf : f_RE_meet n x1 t = some res) : mz_C SX mz_tC 80 mz_cl dC dI ad en ca l y_RE_meet prog_11_method_15_code 2 none (r_RE_meet) [.ref (ad 6), .int x1] t none res := by
  unfold f_RE_meet at hf
  refine mz_met hSK (by decide) (Nat.le_of_ble_eq_true rfl) ?_
  intro p e s m args below meth c ls E w hl
  obtain ⟨hx, hb, hml, hown, hcx, -, -, hSX, -, -, -⟩ := id E
  have hl : lv_has ls 2 [(0, .ref (ad 6)), (1, .int x1)] := hl
  refine lv_aload_n hx hb d_RE_meet_0 rfl (lv_at hl 0 rfl) ?_
  refine mz_get E w 6 7 (v := .int (mz_gI t 6 7)) (by decide) rfl rfl ii_3 (by decide) (Nat.le_of_ble_eq_true rfl) k_192 rfl d_RE_meet_1 ?_
  refine lv_if_ne (tgt := 12) hx hb d_RE_meet_4 (by decide) (fun hc1 => ?_) (fun hc1 => ?_)
  · have hf := mz_f hc1 hf
    obtain rfl := Option.some.inj hf
    exact mz_vret E w rfl d_RE_meet_12
  · have hf := mz_t hc1 hf
    refine lv_aload_n hx hb d_RE_meet_7 rfl (lv_at hl 0 rfl) ?_
    refine lv_iload_n hx hb d_RE_meet_8 rfl (lv_at hl 1 rfl) ?_
    refine mz_put E w 6 7 (v := x1) (by decide) rfl rfl ii_3 tk_3 nm_3 (by decide) (Nat.le_of_ble_eq_true rfl) k_192 rfl (tk_3 7 (by decide)) rfl rfl rfl d_RE_meet_9 (fun H locs w => ?_)
    obtain ⟨t2, e_t2, hf⟩ := mz_lt hf
    rw [← e_t2] at w
    obtain rfl := Option.some.inj hf
    exact mz_vret E w rfl d_RE_meet_12

/-! MacroHouse$Reader.divisor(I)I -/
abbrev r_RE_divisor : Room := { frames := 1, cells := 0, slots := 0, locals := 21 }
def f_RE_divisor (n : Nat) (x1 : Int32) (t : mz_St) : Option (Int32 × mz_St) := if x1 = 0 then ((f_RE_meet n (4 : Int32) t).bind fun q2 => some (x1, q2)) else (some (x1, t))
set_option maxRecDepth 100000 in
set_option maxHeartbeats 4000000 in
theorem c_RE_divisor {SX : State → Heap → Prop} {dC : Nat → ClassId} {dI : Nat → Nat → Nat} {ad en : Nat → Nat} {ca : Nat → ClassId} (hSK : mz_SK SX ad 80) (l : Launch) (n : Nat) (x1 : Int32) (t : mz_St) (res : (Int32 × mz_St)) (hf : f_RE_divisor n x1 t = some res) : mz_C SX mz_tC 80 mz_cl dC dI ad en ca l y_RE_divisor prog_11_method_11_code 2 (some (.int)) (r_RE_divisor) [.ref (ad 6), .int x1] t (some (.int res.1)) res.2 := by
  unfold f_RE_divisor at hf
  refine mz_met hSK (by decide) (Nat.le_of_ble_eq_true rfl) ?_
  intro p e s m args below meth c ls E w hl
  obtain ⟨hx, hb, hml, hown, hcx, -, -, hSX, -, -, -⟩ := id E
  have hl : lv_has ls 2 [(0, .ref (ad 6)), (1, .int x1)] := hl
  refine lv_iload_n hx hb d_RE_divisor_0 rfl (lv_at hl 1 rfl) ?_
  refine lv_if_ne (tgt := 9) hx hb d_RE_divisor_1 (by decide) (fun hc1 => ?_) (fun hc1 => ?_)
  · have hf := mz_f hc1 hf
    refine lv_iload_n hx hb d_RE_divisor_9 rfl (lv_at hl 1 rfl) ?_
    obtain rfl := Option.some.inj hf
    exact mz_iret E w rfl d_RE_divisor_10
  · have hf := mz_t hc1 hf
    refine lv_aload_n hx hb d_RE_divisor_4 rfl (lv_at hl 0 rfl) ?_
    refine lv_iconst (v := (4 : Int32)) hx hb d_RE_divisor_5 (by decide) ?_
    obtain ⟨q2, hq3, hf⟩ := mz_bd hf
    refine mz_callV E w (k := 6) (As := [.int (4 : Int32)]) (rest := []) (c_RE_meet hSK l n (4 : Int32) t q2 hq3) (by decide) rfl rfl k_842 k_11 k_839 k_841 ks_27 hm_RE_meet ⟨⟨rfl, rfl⟩, Nat.le_of_ble_eq_true rfl, Nat.le_of_ble_eq_true rfl⟩ rfl hl.1 rfl (Nat.le_of_ble_eq_true rfl) d_RE_divisor_6 ⟨Nat.zero_le _, Nat.zero_le _⟩ (st1 := []) rfl (fun H locs w => ?_)
    refine lv_iload_n hx hb d_RE_divisor_9 rfl (lv_at hl 1 rfl) ?_
    obtain rfl := Option.some.inj hf
    exact mz_iret E w rfl d_RE_divisor_10

/-! MacroHouse$Reader.product(I)I -/
abbrev r_RE_product (d : Nat) : Room := mz_rG 11 430 d
def f_RE_product_118 (n : Nat) (fa : Int32 → mz_St → Option (Int32 × mz_St)) (K8 : Int32 → Int32 → Int32 → mz_St → Option (Int32 × mz_St)) (x1 : Int32) (x2 : Int32) (x3 : Int32) (t : mz_St) : Option (Int32 × mz_St) := K8 x1 x2 (x3 + (1 : Int32)) t
def f_RE_product_112 (n : Nat) (fa : Int32 → mz_St → Option (Int32 × mz_St)) (K8 : Int32 → Int32 → Int32 → mz_St → Option (Int32 × mz_St)) (x1 : Int32) (x3 : Int32) (s0 : Int32) (t : mz_St) : Option (Int32 × mz_St) := f_RE_product_118 n fa K8 x1 s0 x3 t
def f_RE_product_75 (n : Nat) (fa : Int32 → mz_St → Option (Int32 × mz_St)) (K8 : Int32 → Int32 → Int32 → mz_St → Option (Int32 × mz_St)) (x1 : Int32) (x3 : Int32) (s0 : Int32) (t : mz_St) : Option (Int32 × mz_St) := f_RE_product_118 n fa K8 x1 s0 x3 t
def f_RE_product_8 (n : Nat) (fa : Int32 → mz_St → Option (Int32 × mz_St)) : Nat → Int32 → Int32 → Int32 → mz_St → Option (Int32 × mz_St)
  | 0, _, _, _, _ => none
  | k + 1, x1, x2, x3, t => if (3000 : Int32) ≤ x3 then (some (x2, t)) else (if (mz_gI t 6 6) = 0 then ((f_RE_take n (42 : Int32) t).bind fun q5 => if q5.1 = 0 then ((f_RE_take n (47 : Int32) q5.2).bind fun q8 => if q8.1 = 0 then ((f_RE_take n (37 : Int32) q8.2).bind fun q11 => if q11.1 = 0 then (some (x2, q11.2)) else ((fa x1 q11.2).bind fun q14 => (f_RE_divisor n q14.1 q14.2).bind fun q16 => if q16.1 = 0 then (f_RE_product_112 n fa (f_RE_product_8 n fa k) x1 x3 (0 : Int32) q16.2) else (if ¬ q16.1 = 0 then (f_RE_product_112 n fa (f_RE_product_8 n fa k) x1 x3 (x2 - x2 / q16.1 * q16.1) q16.2) else none))) else ((fa x1 q8.2).bind fun q20 => (f_RE_divisor n q20.1 q20.2).bind fun q22 => if q22.1 = 0 then (f_RE_product_75 n fa (f_RE_product_8 n fa k) x1 x3 (0 : Int32) q22.2) else (if ¬ q22.1 = 0 then (f_RE_product_75 n fa (f_RE_product_8 n fa k) x1 x3 (x2 / q22.1) q22.2) else none))) else ((fa x1 q5.2).bind fun q26 => f_RE_product_118 n fa (f_RE_product_8 n fa k) x1 (x2 * q26.1) x3 q26.2)) else (some (x2, t)))
def f_RE_product (n : Nat) (fa : Int32 → mz_St → Option (Int32 × mz_St)) (x1 : Int32) (t : mz_St) : Option (Int32 × mz_St) := (fa x1 t).bind fun q1 => f_RE_product_8 n fa n x1 q1.1 (0 : Int32) q1.2
set_option maxRecDepth 100000 in
set_option maxHeartbeats 4000000 in
theorem b_RE_product_118 {SX : State → Heap → Prop} {dC : Nat → ClassId} {dI : Nat → Nat → Nat} {ad en : Nat → Nat} {ca : Nat → ClassId} {p : Program} {l : Launch} {e : Env} {s : State} {m : MethodId} {args : Array Value} {below : List Frame} {meth : Method} {c : Code} {res : (Int32 × mz_St)} (E : mz_En SX 80 mz_cl dC dI ad ca p s m meth c prog_11_method_10_code 5 "MacroHouse$Reader" (some (.int))) (n : Nat) {d : Nat} (fa : Int32 → mz_St → Option (Int32 × mz_St)) (hfa : ∀ (x : Int32) (t : mz_St) (q : Int32 × mz_St), fa x t = some q → mz_C SX mz_tC 80 mz_cl dC dI ad en ca l y_RE_factor prog_11_method_12_code 5 (some (.int)) (mz_rG 10 400 d) [.ref (ad 6), .int x] t (some (.int q.1)) q.2) (K8 : Int32 → Int32 → Int32 → mz_St → Option (Int32 × mz_St)) (hK8 : ∀ (x1 : Int32) (x2 : Int32) (x3 : Int32) (t : mz_St), K8 x1 x2 x3 t = some res → ∀ (H : Heap) (locs : List Loc) (ls : Array Slot), mz_Wd mz_tC 80 mz_cl dC dI ad en ca s t H locs → lv_has ls 5 [(0, .ref (ad 6)), (1, .int x1), (2, .int x2), (3, .int x3)] → W p l e (r_RE_product d) s m args below meth c H locs 0 0 (MQ below (mz_Q SX mz_tC 80 mz_cl dC dI ad en ca (some (.int res.1)) res.2) args s 0 0 (mz_A ad 80)) (F0 m 8 ls [])) : ∀ (x1 : Int32) (x2 : Int32) (x3 : Int32) (t : mz_St), f_RE_product_118 n fa K8 x1 x2 x3 t = some res → ∀ (H : Heap) (locs : List Loc) (ls : Array Slot), mz_Wd mz_tC 80 mz_cl dC dI ad en ca s t H locs → lv_has ls 5 [(0, .ref (ad 6)), (1, .int x1), (2, .int x2), (3, .int x3)] → W p l e (r_RE_product d) s m args below meth c H locs 0 0 (MQ below (mz_Q SX mz_tC 80 mz_cl dC dI ad en ca (some (.int res.1)) res.2) args s 0 0 (mz_A ad 80)) (F0 m 118 ls []) := by
  obtain ⟨hx, hb, hml, hown, hcx, -, -, hSX, -, -, hSK⟩ := id E
  intro x1 x2 x3 t hf H locs ls w hl
  unfold f_RE_product_118 at hf
  refine lv_iinc (v := (x3 + (1 : Int32))) (lv' := [(3, .int (x3 + (1 : Int32))), (0, .ref (ad 6)), (1, .int x1), (2, .int x2)]) hx hb d_RE_product_118 hl (k := 3) rfl rfl (by decide) rfl (fun ls hl => ?_)
  refine lv_goto (tgt := 8) hx hb d_RE_product_121 (by decide) ?_
  exact hK8 x1 x2 (x3 + (1 : Int32)) t hf _ _ _ w (lv_sub hl [1, 2, 3, 0] rfl)
set_option maxRecDepth 100000 in
set_option maxHeartbeats 4000000 in
theorem b_RE_product_112 {SX : State → Heap → Prop} {dC : Nat → ClassId} {dI : Nat → Nat → Nat} {ad en : Nat → Nat} {ca : Nat → ClassId} {p : Program} {l : Launch} {e : Env} {s : State} {m : MethodId} {args : Array Value} {below : List Frame} {meth : Method} {c : Code} {res : (Int32 × mz_St)} (E : mz_En SX 80 mz_cl dC dI ad ca p s m meth c prog_11_method_10_code 5 "MacroHouse$Reader" (some (.int))) (n : Nat) {d : Nat} (fa : Int32 → mz_St → Option (Int32 × mz_St)) (hfa : ∀ (x : Int32) (t : mz_St) (q : Int32 × mz_St), fa x t = some q → mz_C SX mz_tC 80 mz_cl dC dI ad en ca l y_RE_factor prog_11_method_12_code 5 (some (.int)) (mz_rG 10 400 d) [.ref (ad 6), .int x] t (some (.int q.1)) q.2) (K8 : Int32 → Int32 → Int32 → mz_St → Option (Int32 × mz_St)) (hK8 : ∀ (x1 : Int32) (x2 : Int32) (x3 : Int32) (t : mz_St), K8 x1 x2 x3 t = some res → ∀ (H : Heap) (locs : List Loc) (ls : Array Slot), mz_Wd mz_tC 80 mz_cl dC dI ad en ca s t H locs → lv_has ls 5 [(0, .ref (ad 6)), (1, .int x1), (2, .int x2), (3, .int x3)] → W p l e (r_RE_product d) s m args below meth c H locs 0 0 (MQ below (mz_Q SX mz_tC 80 mz_cl dC dI ad en ca (some (.int res.1)) res.2) args s 0 0 (mz_A ad 80)) (F0 m 8 ls [])) : ∀ (x1 : Int32) (x3 : Int32) (s0 : Int32) (t : mz_St), f_RE_product_112 n fa K8 x1 x3 s0 t = some res → ∀ (H : Heap) (locs : List Loc) (ls : Array Slot), mz_Wd mz_tC 80 mz_cl dC dI ad en ca s t H locs → lv_has ls 5 [(0, .ref (ad 6)), (1, .int x1), (3, .int x3)] → W p l e (r_RE_product d) s m args below meth c H locs 0 0 (MQ below (mz_Q SX mz_tC 80 mz_cl dC dI ad en ca (some (.int res.1)) res.2) args s 0 0 (mz_A ad 80)) (F0 m 112 ls [.int s0]) := by
  obtain ⟨hx, hb, hml, hown, hcx, -, -, hSX, -, -, hSK⟩ := id E
  intro x1 x3 s0 t hf H locs ls w hl
  unfold f_RE_product_112 at hf
  refine lv_istore_n (lv' := [(2, .int s0), (0, .ref (ad 6)), (1, .int x1), (3, .int x3)]) hx hb d_RE_product_112 rfl hl (by decide) rfl (fun ls hl => ?_)
  refine lv_goto (tgt := 118) hx hb d_RE_product_113 (by decide) ?_
  exact b_RE_product_118 E n fa hfa K8 hK8 x1 s0 x3 t hf _ _ _ w (lv_sub hl [1, 2, 0, 3] rfl)
set_option maxRecDepth 100000 in
set_option maxHeartbeats 4000000 in
theorem b_RE_product_75 {SX : State → Heap → Prop} {dC : Nat → ClassId} {dI : Nat → Nat → Nat} {ad en : Nat → Nat} {ca : Nat → ClassId} {p : Program} {l : Launch} {e : Env} {s : State} {m : MethodId} {args : Array Value} {below : List Frame} {meth : Method} {c : Code} {res : (Int32 × mz_St)} (E : mz_En SX 80 mz_cl dC dI ad ca p s m meth c prog_11_method_10_code 5 "MacroHouse$Reader" (some (.int))) (n : Nat) {d : Nat} (fa : Int32 → mz_St → Option (Int32 × mz_St)) (hfa : ∀ (x : Int32) (t : mz_St) (q : Int32 × mz_St), fa x t = some q → mz_C SX mz_tC 80 mz_cl dC dI ad en ca l y_RE_factor prog_11_method_12_code 5 (some (.int)) (mz_rG 10 400 d) [.ref (ad 6), .int x] t (some (.int q.1)) q.2) (K8 : Int32 → Int32 → Int32 → mz_St → Option (Int32 × mz_St)) (hK8 : ∀ (x1 : Int32) (x2 : Int32) (x3 : Int32) (t : mz_St), K8 x1 x2 x3 t = some res → ∀ (H : Heap) (locs : List Loc) (ls : Array Slot), mz_Wd mz_tC 80 mz_cl dC dI ad en ca s t H locs → lv_has ls 5 [(0, .ref (ad 6)), (1, .int x1), (2, .int x2), (3, .int x3)] → W p l e (r_RE_product d) s m args below meth c H locs 0 0 (MQ below (mz_Q SX mz_tC 80 mz_cl dC dI ad en ca (some (.int res.1)) res.2) args s 0 0 (mz_A ad 80)) (F0 m 8 ls [])) : ∀ (x1 : Int32) (x3 : Int32) (s0 : Int32) (t : mz_St), f_RE_product_75 n fa K8 x1 x3 s0 t = some res → ∀ (H : Heap) (locs : List Loc) (ls : Array Slot), mz_Wd mz_tC 80 mz_cl dC dI ad en ca s t H locs → lv_has ls 5 [(0, .ref (ad 6)), (1, .int x1), (3, .int x3)] → W p l e (r_RE_product d) s m args below meth c H locs 0 0 (MQ below (mz_Q SX mz_tC 80 mz_cl dC dI ad en ca (some (.int res.1)) res.2) args s 0 0 (mz_A ad 80)) (F0 m 75 ls [.int s0]) := by
  obtain ⟨hx, hb, hml, hown, hcx, -, -, hSX, -, -, hSK⟩ := id E
  intro x1 x3 s0 t hf H locs ls w hl
  unfold f_RE_product_75 at hf
  refine lv_istore_n (lv' := [(2, .int s0), (0, .ref (ad 6)), (1, .int x1), (3, .int x3)]) hx hb d_RE_product_75 rfl hl (by decide) rfl (fun ls hl => ?_)
  refine lv_goto (tgt := 118) hx hb d_RE_product_76 (by decide) ?_
  exact b_RE_product_118 E n fa hfa K8 hK8 x1 s0 x3 t hf _ _ _ w (lv_sub hl [1, 2, 0, 3] rfl)
set_option maxRecDepth 100000 in
set_option maxHeartbeats 4000000 in
theorem b_RE_product_8 {SX : State → Heap → Prop} {dC : Nat → ClassId} {dI : Nat → Nat → Nat} {ad en : Nat → Nat} {ca : Nat → ClassId} {p : Program} {l : Launch} {e : Env} {s : State} {m : MethodId} {args : Array Value} {below : List Frame} {meth : Method} {c : Code} {res : (Int32 × mz_St)} (E : mz_En SX 80 mz_cl dC dI ad ca p s m meth c prog_11_method_10_code 5 "MacroHouse$Reader" (some (.int))) (n : Nat) {d : Nat} (fa : Int32 → mz_St → Option (Int32 × mz_St)) (hfa : ∀ (x : Int32) (t : mz_St) (q : Int32 × mz_St), fa x t = some q → mz_C SX mz_tC 80 mz_cl dC dI ad en ca l y_RE_factor prog_11_method_12_code 5 (some (.int)) (mz_rG 10 400 d) [.ref (ad 6), .int x] t (some (.int q.1)) q.2) (k : Nat) : ∀ (x1 : Int32) (x2 : Int32) (x3 : Int32) (t : mz_St), f_RE_product_8 n fa k x1 x2 x3 t = some res → ∀ (H : Heap) (locs : List Loc) (ls : Array Slot), mz_Wd mz_tC 80 mz_cl dC dI ad en ca s t H locs → lv_has ls 5 [(0, .ref (ad 6)), (1, .int x1), (2, .int x2), (3, .int x3)] → W p l e (r_RE_product d) s m args below meth c H locs 0 0 (MQ below (mz_Q SX mz_tC 80 mz_cl dC dI ad en ca (some (.int res.1)) res.2) args s 0 0 (mz_A ad 80)) (F0 m 8 ls []) := by
  obtain ⟨hx, hb, hml, hown, hcx, -, -, hSX, -, -, hSK⟩ := id E
  induction k with
  | zero => intro x1 x2 x3 t hf; exact absurd hf (by unfold f_RE_product_8; exact fun h => nomatch h)
  | succ k ih =>
    intro x1 x2 x3 t hf H locs ls w hl
    unfold f_RE_product_8 at hf
    refine lv_iload_n hx hb d_RE_product_8 rfl (lv_at hl 3 rfl) ?_
    refine lv_sipush (v := (3000 : Int32)) hx hb d_RE_product_9 (by decide) ?_
    refine lv_icmp_ge (tgt := 124) hx hb d_RE_product_12 (by decide) (fun hc3 => ?_) (fun hc3 => ?_)
    · have hf := mz_t hc3 hf
      refine lv_iload_n hx hb d_RE_product_124 rfl (lv_at hl 2 rfl) ?_
      obtain rfl := Option.some.inj hf
      exact mz_iret E w rfl d_RE_product_125
    · have hf := mz_f hc3 hf
      refine lv_aload_n hx hb d_RE_product_15 rfl (lv_at hl 0 rfl) ?_
      refine mz_get E w 6 6 (v := .int (mz_gI t 6 6)) (by decide) rfl rfl ii_3 (by decide) (Nat.le_of_ble_eq_true rfl) k_190 rfl d_RE_product_16 ?_
      refine lv_if_ne (tgt := 124) hx hb d_RE_product_19 (by decide) (fun hc4 => ?_) (fun hc4 => ?_)
      · have hf := mz_f hc4 hf
        refine lv_iload_n hx hb d_RE_product_124 rfl (lv_at hl 2 rfl) ?_
        obtain rfl := Option.some.inj hf
        exact mz_iret E w rfl d_RE_product_125
      · have hf := mz_t hc4 hf
        refine lv_aload_n hx hb d_RE_product_22 rfl (lv_at hl 0 rfl) ?_
        refine lv_bipush (v := (42 : Int32)) hx hb d_RE_product_23 (by decide) ?_
        obtain ⟨q5, hq6, hf⟩ := mz_bd hf
        refine mz_callV E w (k := 6) (As := [.int (42 : Int32)]) (rest := []) (c_RE_take hSK l n (42 : Int32) t q5 hq6) (by decide) rfl rfl k_799 k_11 k_830 k_797 k_798 hm_RE_take ⟨⟨rfl, rfl⟩, by show 1 + 1 ≤ 5 * d + 11; omega, by show 8 + (2 + 11) + (23) ≤ 150 * d + 430; omega⟩ rfl hl.1 rfl (Nat.le_of_ble_eq_true rfl) d_RE_product_25 ⟨Nat.zero_le _, Nat.zero_le _⟩ (st1 := [.int q5.1]) rfl (fun H locs w => ?_)
        refine lv_if_eq (tgt := 42) hx hb d_RE_product_28 (by decide) (fun hc7 => ?_) (fun hc7 => ?_)
        · have hf := mz_t hc7 hf
          refine lv_aload_n hx hb d_RE_product_42 rfl (lv_at hl 0 rfl) ?_
          refine lv_bipush (v := (47 : Int32)) hx hb d_RE_product_43 (by decide) ?_
          obtain ⟨q8, hq9, hf⟩ := mz_bd hf
          refine mz_callV E w (k := 6) (As := [.int (47 : Int32)]) (rest := []) (c_RE_take hSK l n (47 : Int32) q5.2 q8 hq9) (by decide) rfl rfl k_799 k_11 k_830 k_797 k_798 hm_RE_take ⟨⟨rfl, rfl⟩, by show 1 + 1 ≤ 5 * d + 11; omega, by show 8 + (2 + 11) + (23) ≤ 150 * d + 430; omega⟩ rfl hl.1 rfl (Nat.le_of_ble_eq_true rfl) d_RE_product_45 ⟨Nat.zero_le _, Nat.zero_le _⟩ (st1 := [.int q8.1]) rfl (fun H locs w => ?_)
          refine lv_if_eq (tgt := 79) hx hb d_RE_product_48 (by decide) (fun hc10 => ?_) (fun hc10 => ?_)
          · have hf := mz_t hc10 hf
            refine lv_aload_n hx hb d_RE_product_79 rfl (lv_at hl 0 rfl) ?_
            refine lv_bipush (v := (37 : Int32)) hx hb d_RE_product_80 (by decide) ?_
            obtain ⟨q11, hq12, hf⟩ := mz_bd hf
            refine mz_callV E w (k := 6) (As := [.int (37 : Int32)]) (rest := []) (c_RE_take hSK l n (37 : Int32) q8.2 q11 hq12) (by decide) rfl rfl k_799 k_11 k_830 k_797 k_798 hm_RE_take ⟨⟨rfl, rfl⟩, by show 1 + 1 ≤ 5 * d + 11; omega, by show 8 + (2 + 11) + (23) ≤ 150 * d + 430; omega⟩ rfl hl.1 rfl (Nat.le_of_ble_eq_true rfl) d_RE_product_82 ⟨Nat.zero_le _, Nat.zero_le _⟩ (st1 := [.int q11.1]) rfl (fun H locs w => ?_)
            refine lv_if_eq (tgt := 116) hx hb d_RE_product_85 (by decide) (fun hc13 => ?_) (fun hc13 => ?_)
            · have hf := mz_t hc13 hf
              refine lv_iload_n hx hb d_RE_product_116 rfl (lv_at hl 2 rfl) ?_
              obtain rfl := Option.some.inj hf
              exact mz_iret E w rfl d_RE_product_117
            · have hf := mz_f hc13 hf
              refine lv_aload_n hx hb d_RE_product_88 rfl (lv_at hl 0 rfl) ?_
              refine lv_aload_n hx hb d_RE_product_89 rfl (lv_at hl 0 rfl) ?_
              refine lv_iload_n hx hb d_RE_product_90 rfl (lv_at hl 1 rfl) ?_
              obtain ⟨q14, hq15, hf⟩ := mz_bd hf
              refine mz_callV E w (k := 6) (As := [.int x1]) (rest := [.ref (ad 6)]) (hfa x1 q11.2 q14 hq15) (by decide) rfl rfl k_816 k_11 k_813 k_815 ks_23 hm_RE_factor ⟨⟨rfl, rfl⟩, by show 5 * d + 10 + 1 ≤ 5 * d + 11; omega, by show 8 + (5 + 11) + (150 * d + 400) ≤ 150 * d + 430; omega⟩ rfl hl.1 rfl (Nat.le_of_ble_eq_true rfl) d_RE_product_91 ⟨Nat.zero_le _, Nat.zero_le _⟩ (st1 := [.int q14.1, .ref (ad 6)]) rfl (fun H locs w => ?_)
              obtain ⟨q16, hq17, hf⟩ := mz_bd hf
              refine mz_callV E w (k := 6) (As := [.int q14.1]) (rest := []) (c_RE_divisor hSK l n q14.1 q14.2 q16 hq17) (by decide) rfl rfl k_850 k_11 k_847 k_849 ks_28 hm_RE_divisor ⟨⟨rfl, rfl⟩, by show 1 + 1 ≤ 5 * d + 11; omega, by show 8 + (2 + 11) + (21) ≤ 150 * d + 430; omega⟩ rfl hl.1 rfl (Nat.le_of_ble_eq_true rfl) d_RE_product_94 ⟨Nat.zero_le _, Nat.zero_le _⟩ (st1 := [.int q16.1]) rfl (fun H locs w => ?_)
              refine lv_istore (lv' := [(4, .int q16.1), (0, .ref (ad 6)), (1, .int x1), (2, .int x2), (3, .int x3)]) hx hb d_RE_product_97 hl (by decide) rfl (fun ls hl => ?_)
              refine lv_iload hx hb d_RE_product_99 (lv_at hl 0 rfl) ?_
              refine lv_if_ne (tgt := 108) hx hb d_RE_product_101 (by decide) (fun hc18 => ?_) (fun hc18 => ?_)
              · have hf := mz_f hc18 hf
                refine lv_iload_n hx hb d_RE_product_108 rfl (lv_at hl 3 rfl) ?_
                refine lv_iload hx hb d_RE_product_109 (lv_at hl 0 rfl) ?_
                obtain ⟨hz19, hf⟩ := mz_gd hf
                refine lv_irem hx hb d_RE_product_111 hz19 ?_
                exact b_RE_product_112 E n fa hfa (f_RE_product_8 n fa k) ih x1 x3 (x2 - x2 / q16.1 * q16.1) q16.2 hf _ _ _ w (lv_sub hl [1, 2, 4] rfl)
              · have hf := mz_t hc18 hf
                refine lv_iconst (v := (0 : Int32)) hx hb d_RE_product_104 (by decide) ?_
                refine lv_goto (tgt := 112) hx hb d_RE_product_105 (by decide) ?_
                exact b_RE_product_112 E n fa hfa (f_RE_product_8 n fa k) ih x1 x3 (0 : Int32) q16.2 hf _ _ _ w (lv_sub hl [1, 2, 4] rfl)
          · have hf := mz_f hc10 hf
            refine lv_aload_n hx hb d_RE_product_51 rfl (lv_at hl 0 rfl) ?_
            refine lv_aload_n hx hb d_RE_product_52 rfl (lv_at hl 0 rfl) ?_
            refine lv_iload_n hx hb d_RE_product_53 rfl (lv_at hl 1 rfl) ?_
            obtain ⟨q20, hq21, hf⟩ := mz_bd hf
            refine mz_callV E w (k := 6) (As := [.int x1]) (rest := [.ref (ad 6)]) (hfa x1 q8.2 q20 hq21) (by decide) rfl rfl k_816 k_11 k_813 k_815 ks_23 hm_RE_factor ⟨⟨rfl, rfl⟩, by show 5 * d + 10 + 1 ≤ 5 * d + 11; omega, by show 8 + (5 + 11) + (150 * d + 400) ≤ 150 * d + 430; omega⟩ rfl hl.1 rfl (Nat.le_of_ble_eq_true rfl) d_RE_product_54 ⟨Nat.zero_le _, Nat.zero_le _⟩ (st1 := [.int q20.1, .ref (ad 6)]) rfl (fun H locs w => ?_)
            obtain ⟨q22, hq23, hf⟩ := mz_bd hf
            refine mz_callV E w (k := 6) (As := [.int q20.1]) (rest := []) (c_RE_divisor hSK l n q20.1 q20.2 q22 hq23) (by decide) rfl rfl k_850 k_11 k_847 k_849 ks_28 hm_RE_divisor ⟨⟨rfl, rfl⟩, by show 1 + 1 ≤ 5 * d + 11; omega, by show 8 + (2 + 11) + (21) ≤ 150 * d + 430; omega⟩ rfl hl.1 rfl (Nat.le_of_ble_eq_true rfl) d_RE_product_57 ⟨Nat.zero_le _, Nat.zero_le _⟩ (st1 := [.int q22.1]) rfl (fun H locs w => ?_)
            refine lv_istore (lv' := [(4, .int q22.1), (0, .ref (ad 6)), (1, .int x1), (2, .int x2), (3, .int x3)]) hx hb d_RE_product_60 hl (by decide) rfl (fun ls hl => ?_)
            refine lv_iload hx hb d_RE_product_62 (lv_at hl 0 rfl) ?_
            refine lv_if_ne (tgt := 71) hx hb d_RE_product_64 (by decide) (fun hc24 => ?_) (fun hc24 => ?_)
            · have hf := mz_f hc24 hf
              refine lv_iload_n hx hb d_RE_product_71 rfl (lv_at hl 3 rfl) ?_
              refine lv_iload hx hb d_RE_product_72 (lv_at hl 0 rfl) ?_
              obtain ⟨hz25, hf⟩ := mz_gd hf
              refine lv_idiv hx hb d_RE_product_74 hz25 ?_
              exact b_RE_product_75 E n fa hfa (f_RE_product_8 n fa k) ih x1 x3 (x2 / q22.1) q22.2 hf _ _ _ w (lv_sub hl [1, 2, 4] rfl)
            · have hf := mz_t hc24 hf
              refine lv_iconst (v := (0 : Int32)) hx hb d_RE_product_67 (by decide) ?_
              refine lv_goto (tgt := 75) hx hb d_RE_product_68 (by decide) ?_
              exact b_RE_product_75 E n fa hfa (f_RE_product_8 n fa k) ih x1 x3 (0 : Int32) q22.2 hf _ _ _ w (lv_sub hl [1, 2, 4] rfl)
        · have hf := mz_f hc7 hf
          refine lv_iload_n hx hb d_RE_product_31 rfl (lv_at hl 2 rfl) ?_
          refine lv_aload_n hx hb d_RE_product_32 rfl (lv_at hl 0 rfl) ?_
          refine lv_iload_n hx hb d_RE_product_33 rfl (lv_at hl 1 rfl) ?_
          obtain ⟨q26, hq27, hf⟩ := mz_bd hf
          refine mz_callV E w (k := 6) (As := [.int x1]) (rest := [.int x2]) (hfa x1 q5.2 q26 hq27) (by decide) rfl rfl k_816 k_11 k_813 k_815 ks_23 hm_RE_factor ⟨⟨rfl, rfl⟩, by show 5 * d + 10 + 1 ≤ 5 * d + 11; omega, by show 8 + (5 + 11) + (150 * d + 400) ≤ 150 * d + 430; omega⟩ rfl hl.1 rfl (Nat.le_of_ble_eq_true rfl) d_RE_product_34 ⟨Nat.zero_le _, Nat.zero_le _⟩ (st1 := [.int q26.1, .int x2]) rfl (fun H locs w => ?_)
          refine lv_imul hx hb d_RE_product_37 ?_
          refine lv_istore_n (lv' := [(2, .int (x2 * q26.1)), (0, .ref (ad 6)), (1, .int x1), (3, .int x3)]) hx hb d_RE_product_38 rfl hl (by decide) rfl (fun ls hl => ?_)
          refine lv_goto (tgt := 118) hx hb d_RE_product_39 (by decide) ?_
          exact b_RE_product_118 E n fa hfa (f_RE_product_8 n fa k) ih x1 (x2 * q26.1) x3 q26.2 hf _ _ _ w (lv_sub hl [1, 2, 0, 3] rfl)
set_option maxRecDepth 100000 in
set_option maxHeartbeats 4000000 in
theorem c_RE_product {SX : State → Heap → Prop} {dC : Nat → ClassId} {dI : Nat → Nat → Nat} {ad en : Nat → Nat} {ca : Nat → ClassId} (hSK : mz_SK SX ad 80) (l : Launch) (n : Nat) {d : Nat} (fa : Int32 → mz_St → Option (Int32 × mz_St)) (hfa : ∀ (x : Int32) (t : mz_St) (q : Int32 × mz_St), fa x t = some q → mz_C SX mz_tC 80 mz_cl dC dI ad en ca l y_RE_factor prog_11_method_12_code 5 (some (.int)) (mz_rG 10 400 d) [.ref (ad 6), .int x] t (some (.int q.1)) q.2) (x1 : Int32) (t : mz_St) (res : (Int32 × mz_St)) (hf : f_RE_product n fa x1 t = some res) : mz_C SX mz_tC 80 mz_cl dC dI ad en ca l y_RE_product prog_11_method_10_code 5 (some (.int)) (r_RE_product d) [.ref (ad 6), .int x1] t (some (.int res.1)) res.2 := by
  unfold f_RE_product at hf
  refine mz_met hSK (by decide) (Nat.le_of_ble_eq_true rfl) ?_
  intro p e s m args below meth c ls E w hl
  obtain ⟨hx, hb, hml, hown, hcx, -, -, hSX, -, -, -⟩ := id E
  have hl : lv_has ls 5 [(0, .ref (ad 6)), (1, .int x1)] := hl
  refine lv_aload_n hx hb d_RE_product_0 rfl (lv_at hl 0 rfl) ?_
  refine lv_iload_n hx hb d_RE_product_1 rfl (lv_at hl 1 rfl) ?_
  obtain ⟨q1, hq2, hf⟩ := mz_bd hf
  refine mz_callV E w (k := 6) (As := [.int x1]) (rest := []) (hfa x1 t q1 hq2) (by decide) rfl rfl k_816 k_11 k_813 k_815 ks_23 hm_RE_factor ⟨⟨rfl, rfl⟩, by show 5 * d + 10 + 1 ≤ 5 * d + 11; omega, by show 8 + (5 + 11) + (150 * d + 400) ≤ 150 * d + 430; omega⟩ rfl hl.1 rfl (Nat.le_of_ble_eq_true rfl) d_RE_product_2 ⟨Nat.zero_le _, Nat.zero_le _⟩ (st1 := [.int q1.1]) rfl (fun H locs w => ?_)
  refine lv_istore_n (lv' := [(2, .int q1.1), (0, .ref (ad 6)), (1, .int x1)]) hx hb d_RE_product_5 rfl hl (by decide) rfl (fun ls hl => ?_)
  refine lv_iconst (v := (0 : Int32)) hx hb d_RE_product_6 (by decide) ?_
  refine lv_istore_n (lv' := [(3, .int (0 : Int32)), (2, .int q1.1), (0, .ref (ad 6)), (1, .int x1)]) hx hb d_RE_product_7 rfl hl (by decide) rfl (fun ls hl => ?_)
  exact b_RE_product_8 E n fa hfa n x1 q1.1 (0 : Int32) q1.2 hf _ _ _ w (lv_sub hl [2, 3, 1, 0] rfl)

/-! MacroHouse$Reader.sum(I)I -/
abbrev r_RE_sum (d : Nat) : Room := mz_rG 12 460 d
def f_RE_sum_64 (n : Nat) (fa : Int32 → mz_St → Option (Int32 × mz_St)) (K8 : Int32 → Int32 → Int32 → mz_St → Option (Int32 × mz_St)) (x1 : Int32) (x2 : Int32) (x3 : Int32) (t : mz_St) : Option (Int32 × mz_St) := K8 x1 x2 (x3 + (1 : Int32)) t
def f_RE_sum_8 (n : Nat) (fa : Int32 → mz_St → Option (Int32 × mz_St)) : Nat → Int32 → Int32 → Int32 → mz_St → Option (Int32 × mz_St)
  | 0, _, _, _, _ => none
  | k + 1, x1, x2, x3, t => if (3000 : Int32) ≤ x3 then (some (x2, t)) else (if (mz_gI t 6 6) = 0 then ((f_RE_take n (43 : Int32) t).bind fun q5 => if q5.1 = 0 then ((f_RE_take n (45 : Int32) q5.2).bind fun q8 => if q8.1 = 0 then (some (x2, q8.2)) else ((f_RE_product n fa x1 q8.2).bind fun q11 => f_RE_sum_64 n fa (f_RE_sum_8 n fa k) x1 (x2 - q11.1) x3 q11.2)) else ((f_RE_product n fa x1 q5.2).bind fun q13 => f_RE_sum_64 n fa (f_RE_sum_8 n fa k) x1 (x2 + q13.1) x3 q13.2)) else (some (x2, t)))
def f_RE_sum (n : Nat) (fa : Int32 → mz_St → Option (Int32 × mz_St)) (x1 : Int32) (t : mz_St) : Option (Int32 × mz_St) := (f_RE_product n fa x1 t).bind fun q1 => f_RE_sum_8 n fa n x1 q1.1 (0 : Int32) q1.2
set_option maxRecDepth 100000 in
set_option maxHeartbeats 4000000 in
theorem b_RE_sum_64 {SX : State → Heap → Prop} {dC : Nat → ClassId} {dI : Nat → Nat → Nat} {ad en : Nat → Nat} {ca : Nat → ClassId} {p : Program} {l : Launch} {e : Env} {s : State} {m : MethodId} {args : Array Value} {below : List Frame} {meth : Method} {c : Code} {res : (Int32 × mz_St)} (E : mz_En SX 80 mz_cl dC dI ad ca p s m meth c prog_11_method_9_code 4 "MacroHouse$Reader" (some (.int))) (n : Nat) {d : Nat} (fa : Int32 → mz_St → Option (Int32 × mz_St)) (hfa : ∀ (x : Int32) (t : mz_St) (q : Int32 × mz_St), fa x t = some q → mz_C SX mz_tC 80 mz_cl dC dI ad en ca l y_RE_factor prog_11_method_12_code 5 (some (.int)) (mz_rG 10 400 d) [.ref (ad 6), .int x] t (some (.int q.1)) q.2) (K8 : Int32 → Int32 → Int32 → mz_St → Option (Int32 × mz_St)) (hK8 : ∀ (x1 : Int32) (x2 : Int32) (x3 : Int32) (t : mz_St), K8 x1 x2 x3 t = some res → ∀ (H : Heap) (locs : List Loc) (ls : Array Slot), mz_Wd mz_tC 80 mz_cl dC dI ad en ca s t H locs → lv_has ls 4 [(0, .ref (ad 6)), (1, .int x1), (2, .int x2), (3, .int x3)] → W p l e (r_RE_sum d) s m args below meth c H locs 0 0 (MQ below (mz_Q SX mz_tC 80 mz_cl dC dI ad en ca (some (.int res.1)) res.2) args s 0 0 (mz_A ad 80)) (F0 m 8 ls [])) : ∀ (x1 : Int32) (x2 : Int32) (x3 : Int32) (t : mz_St), f_RE_sum_64 n fa K8 x1 x2 x3 t = some res → ∀ (H : Heap) (locs : List Loc) (ls : Array Slot), mz_Wd mz_tC 80 mz_cl dC dI ad en ca s t H locs → lv_has ls 4 [(0, .ref (ad 6)), (1, .int x1), (2, .int x2), (3, .int x3)] → W p l e (r_RE_sum d) s m args below meth c H locs 0 0 (MQ below (mz_Q SX mz_tC 80 mz_cl dC dI ad en ca (some (.int res.1)) res.2) args s 0 0 (mz_A ad 80)) (F0 m 64 ls []) := by
  obtain ⟨hx, hb, hml, hown, hcx, -, -, hSX, -, -, hSK⟩ := id E
  intro x1 x2 x3 t hf H locs ls w hl
  unfold f_RE_sum_64 at hf
  refine lv_iinc (v := (x3 + (1 : Int32))) (lv' := [(3, .int (x3 + (1 : Int32))), (0, .ref (ad 6)), (1, .int x1), (2, .int x2)]) hx hb d_RE_sum_64 hl (k := 3) rfl rfl (by decide) rfl (fun ls hl => ?_)
  refine lv_goto (tgt := 8) hx hb d_RE_sum_67 (by decide) ?_
  exact hK8 x1 x2 (x3 + (1 : Int32)) t hf _ _ _ w (lv_sub hl [1, 2, 3, 0] rfl)
set_option maxRecDepth 100000 in
set_option maxHeartbeats 4000000 in
theorem b_RE_sum_8 {SX : State → Heap → Prop} {dC : Nat → ClassId} {dI : Nat → Nat → Nat} {ad en : Nat → Nat} {ca : Nat → ClassId} {p : Program} {l : Launch} {e : Env} {s : State} {m : MethodId} {args : Array Value} {below : List Frame} {meth : Method} {c : Code} {res : (Int32 × mz_St)} (E : mz_En SX 80 mz_cl dC dI ad ca p s m meth c prog_11_method_9_code 4 "MacroHouse$Reader" (some (.int))) (n : Nat) {d : Nat} (fa : Int32 → mz_St → Option (Int32 × mz_St)) (hfa : ∀ (x : Int32) (t : mz_St) (q : Int32 × mz_St), fa x t = some q → mz_C SX mz_tC 80 mz_cl dC dI ad en ca l y_RE_factor prog_11_method_12_code 5 (some (.int)) (mz_rG 10 400 d) [.ref (ad 6), .int x] t (some (.int q.1)) q.2) (k : Nat) : ∀ (x1 : Int32) (x2 : Int32) (x3 : Int32) (t : mz_St), f_RE_sum_8 n fa k x1 x2 x3 t = some res → ∀ (H : Heap) (locs : List Loc) (ls : Array Slot), mz_Wd mz_tC 80 mz_cl dC dI ad en ca s t H locs → lv_has ls 4 [(0, .ref (ad 6)), (1, .int x1), (2, .int x2), (3, .int x3)] → W p l e (r_RE_sum d) s m args below meth c H locs 0 0 (MQ below (mz_Q SX mz_tC 80 mz_cl dC dI ad en ca (some (.int res.1)) res.2) args s 0 0 (mz_A ad 80)) (F0 m 8 ls []) := by
  obtain ⟨hx, hb, hml, hown, hcx, -, -, hSX, -, -, hSK⟩ := id E
  induction k with
  | zero => intro x1 x2 x3 t hf; exact absurd hf (by unfold f_RE_sum_8; exact fun h => nomatch h)
  | succ k ih =>
    intro x1 x2 x3 t hf H locs ls w hl
    unfold f_RE_sum_8 at hf
    refine lv_iload_n hx hb d_RE_sum_8 rfl (lv_at hl 3 rfl) ?_
    refine lv_sipush (v := (3000 : Int32)) hx hb d_RE_sum_9 (by decide) ?_
    refine lv_icmp_ge (tgt := 70) hx hb d_RE_sum_12 (by decide) (fun hc3 => ?_) (fun hc3 => ?_)
    · have hf := mz_t hc3 hf
      refine lv_iload_n hx hb d_RE_sum_70 rfl (lv_at hl 2 rfl) ?_
      obtain rfl := Option.some.inj hf
      exact mz_iret E w rfl d_RE_sum_71
    · have hf := mz_f hc3 hf
      refine lv_aload_n hx hb d_RE_sum_15 rfl (lv_at hl 0 rfl) ?_
      refine mz_get E w 6 6 (v := .int (mz_gI t 6 6)) (by decide) rfl rfl ii_3 (by decide) (Nat.le_of_ble_eq_true rfl) k_190 rfl d_RE_sum_16 ?_
      refine lv_if_ne (tgt := 70) hx hb d_RE_sum_19 (by decide) (fun hc4 => ?_) (fun hc4 => ?_)
      · have hf := mz_f hc4 hf
        refine lv_iload_n hx hb d_RE_sum_70 rfl (lv_at hl 2 rfl) ?_
        obtain rfl := Option.some.inj hf
        exact mz_iret E w rfl d_RE_sum_71
      · have hf := mz_t hc4 hf
        refine lv_aload_n hx hb d_RE_sum_22 rfl (lv_at hl 0 rfl) ?_
        refine lv_bipush (v := (43 : Int32)) hx hb d_RE_sum_23 (by decide) ?_
        obtain ⟨q5, hq6, hf⟩ := mz_bd hf
        refine mz_callV E w (k := 6) (As := [.int (43 : Int32)]) (rest := []) (c_RE_take hSK l n (43 : Int32) t q5 hq6) (by decide) rfl rfl k_799 k_11 k_830 k_797 k_798 hm_RE_take ⟨⟨rfl, rfl⟩, by show 1 + 1 ≤ 5 * d + 12; omega, by show 8 + (2 + 11) + (23) ≤ 150 * d + 460; omega⟩ rfl hl.1 rfl (Nat.le_of_ble_eq_true rfl) d_RE_sum_25 ⟨Nat.zero_le _, Nat.zero_le _⟩ (st1 := [.int q5.1]) rfl (fun H locs w => ?_)
        refine lv_if_eq (tgt := 42) hx hb d_RE_sum_28 (by decide) (fun hc7 => ?_) (fun hc7 => ?_)
        · have hf := mz_t hc7 hf
          refine lv_aload_n hx hb d_RE_sum_42 rfl (lv_at hl 0 rfl) ?_
          refine lv_bipush (v := (45 : Int32)) hx hb d_RE_sum_43 (by decide) ?_
          obtain ⟨q8, hq9, hf⟩ := mz_bd hf
          refine mz_callV E w (k := 6) (As := [.int (45 : Int32)]) (rest := []) (c_RE_take hSK l n (45 : Int32) q5.2 q8 hq9) (by decide) rfl rfl k_799 k_11 k_830 k_797 k_798 hm_RE_take ⟨⟨rfl, rfl⟩, by show 1 + 1 ≤ 5 * d + 12; omega, by show 8 + (2 + 11) + (23) ≤ 150 * d + 460; omega⟩ rfl hl.1 rfl (Nat.le_of_ble_eq_true rfl) d_RE_sum_45 ⟨Nat.zero_le _, Nat.zero_le _⟩ (st1 := [.int q8.1]) rfl (fun H locs w => ?_)
          refine lv_if_eq (tgt := 62) hx hb d_RE_sum_48 (by decide) (fun hc10 => ?_) (fun hc10 => ?_)
          · have hf := mz_t hc10 hf
            refine lv_iload_n hx hb d_RE_sum_62 rfl (lv_at hl 2 rfl) ?_
            obtain rfl := Option.some.inj hf
            exact mz_iret E w rfl d_RE_sum_63
          · have hf := mz_f hc10 hf
            refine lv_iload_n hx hb d_RE_sum_51 rfl (lv_at hl 2 rfl) ?_
            refine lv_aload_n hx hb d_RE_sum_52 rfl (lv_at hl 0 rfl) ?_
            refine lv_iload_n hx hb d_RE_sum_53 rfl (lv_at hl 1 rfl) ?_
            obtain ⟨q11, hq12, hf⟩ := mz_bd hf
            refine mz_callV E w (k := 6) (As := [.int x1]) (rest := [.int x2]) (c_RE_product hSK l n fa hfa x1 q8.2 q11 hq12) (by decide) rfl rfl k_812 k_11 k_809 k_811 ks_22 hm_RE_product ⟨⟨rfl, rfl⟩, by show 5 * d + 11 + 1 ≤ 5 * d + 12; omega, by show 8 + (5 + 11) + (150 * d + 430) ≤ 150 * d + 460; omega⟩ rfl hl.1 rfl (Nat.le_of_ble_eq_true rfl) d_RE_sum_54 ⟨Nat.zero_le _, Nat.zero_le _⟩ (st1 := [.int q11.1, .int x2]) rfl (fun H locs w => ?_)
            refine lv_isub hx hb d_RE_sum_57 ?_
            refine lv_istore_n (lv' := [(2, .int (x2 - q11.1)), (0, .ref (ad 6)), (1, .int x1), (3, .int x3)]) hx hb d_RE_sum_58 rfl hl (by decide) rfl (fun ls hl => ?_)
            refine lv_goto (tgt := 64) hx hb d_RE_sum_59 (by decide) ?_
            exact b_RE_sum_64 E n fa hfa (f_RE_sum_8 n fa k) ih x1 (x2 - q11.1) x3 q11.2 hf _ _ _ w (lv_sub hl [1, 2, 0, 3] rfl)
        · have hf := mz_f hc7 hf
          refine lv_iload_n hx hb d_RE_sum_31 rfl (lv_at hl 2 rfl) ?_
          refine lv_aload_n hx hb d_RE_sum_32 rfl (lv_at hl 0 rfl) ?_
          refine lv_iload_n hx hb d_RE_sum_33 rfl (lv_at hl 1 rfl) ?_
          obtain ⟨q13, hq14, hf⟩ := mz_bd hf
          refine mz_callV E w (k := 6) (As := [.int x1]) (rest := [.int x2]) (c_RE_product hSK l n fa hfa x1 q5.2 q13 hq14) (by decide) rfl rfl k_812 k_11 k_809 k_811 ks_22 hm_RE_product ⟨⟨rfl, rfl⟩, by show 5 * d + 11 + 1 ≤ 5 * d + 12; omega, by show 8 + (5 + 11) + (150 * d + 430) ≤ 150 * d + 460; omega⟩ rfl hl.1 rfl (Nat.le_of_ble_eq_true rfl) d_RE_sum_34 ⟨Nat.zero_le _, Nat.zero_le _⟩ (st1 := [.int q13.1, .int x2]) rfl (fun H locs w => ?_)
          refine lv_iadd hx hb d_RE_sum_37 ?_
          refine lv_istore_n (lv' := [(2, .int (x2 + q13.1)), (0, .ref (ad 6)), (1, .int x1), (3, .int x3)]) hx hb d_RE_sum_38 rfl hl (by decide) rfl (fun ls hl => ?_)
          refine lv_goto (tgt := 64) hx hb d_RE_sum_39 (by decide) ?_
          exact b_RE_sum_64 E n fa hfa (f_RE_sum_8 n fa k) ih x1 (x2 + q13.1) x3 q13.2 hf _ _ _ w (lv_sub hl [1, 2, 0, 3] rfl)
set_option maxRecDepth 100000 in
set_option maxHeartbeats 4000000 in
theorem c_RE_sum {SX : State → Heap → Prop} {dC : Nat → ClassId} {dI : Nat → Nat → Nat} {ad en : Nat → Nat} {ca : Nat → ClassId} (hSK : mz_SK SX ad 80) (l : Launch) (n : Nat) {d : Nat} (fa : Int32 → mz_St → Option (Int32 × mz_St)) (hfa : ∀ (x : Int32) (t : mz_St) (q : Int32 × mz_St), fa x t = some q → mz_C SX mz_tC 80 mz_cl dC dI ad en ca l y_RE_factor prog_11_method_12_code 5 (some (.int)) (mz_rG 10 400 d) [.ref (ad 6), .int x] t (some (.int q.1)) q.2) (x1 : Int32) (t : mz_St) (res : (Int32 × mz_St)) (hf : f_RE_sum n fa x1 t = some res) : mz_C SX mz_tC 80 mz_cl dC dI ad en ca l y_RE_sum prog_11_method_9_code 4 (some (.int)) (r_RE_sum d) [.ref (ad 6), .int x1] t (some (.int res.1)) res.2 := by
  unfold f_RE_sum at hf
  refine mz_met hSK (by decide) (Nat.le_of_ble_eq_true rfl) ?_
  intro p e s m args below meth c ls E w hl
  obtain ⟨hx, hb, hml, hown, hcx, -, -, hSX, -, -, -⟩ := id E
  have hl : lv_has ls 4 [(0, .ref (ad 6)), (1, .int x1)] := hl
  refine lv_aload_n hx hb d_RE_sum_0 rfl (lv_at hl 0 rfl) ?_
  refine lv_iload_n hx hb d_RE_sum_1 rfl (lv_at hl 1 rfl) ?_
  obtain ⟨q1, hq2, hf⟩ := mz_bd hf
  refine mz_callV E w (k := 6) (As := [.int x1]) (rest := []) (c_RE_product hSK l n fa hfa x1 t q1 hq2) (by decide) rfl rfl k_812 k_11 k_809 k_811 ks_22 hm_RE_product ⟨⟨rfl, rfl⟩, by show 5 * d + 11 + 1 ≤ 5 * d + 12; omega, by show 8 + (5 + 11) + (150 * d + 430) ≤ 150 * d + 460; omega⟩ rfl hl.1 rfl (Nat.le_of_ble_eq_true rfl) d_RE_sum_2 ⟨Nat.zero_le _, Nat.zero_le _⟩ (st1 := [.int q1.1]) rfl (fun H locs w => ?_)
  refine lv_istore_n (lv' := [(2, .int q1.1), (0, .ref (ad 6)), (1, .int x1)]) hx hb d_RE_sum_5 rfl hl (by decide) rfl (fun ls hl => ?_)
  refine lv_iconst (v := (0 : Int32)) hx hb d_RE_sum_6 (by decide) ?_
  refine lv_istore_n (lv' := [(3, .int (0 : Int32)), (2, .int q1.1), (0, .ref (ad 6)), (1, .int x1)]) hx hb d_RE_sum_7 rfl hl (by decide) rfl (fun ls hl => ?_)
  exact b_RE_sum_8 E n fa hfa n x1 q1.1 (0 : Int32) q1.2 hf _ _ _ w (lv_sub hl [2, 3, 1, 0] rfl)

/-! MacroHouse$Reader.next()I -/
abbrev r_RE_next : Room := { frames := 1, cells := 0, slots := 0, locals := 23 }
def f_RE_next (n : Nat) (t : mz_St) : Option (Int32 × mz_St) := (f_SI_behindBlanks n (mz_gI t 6 2) (mz_gI t 6 3) t).bind fun q1 => mz_let (mz_pI q1.2 6 2 q1.1) fun t3 => if (mz_gI t3 6 3) ≤ (mz_gI t3 6 2) then (some ((-1 : Int32), t3)) else ((f_SI_at n (mz_gI t3 6 2) t3).bind fun q5 => some (q5.1, q5.2))
set_option maxRecDepth 100000 in
set_option maxHeartbeats 4000000 in
theorem c_RE_next {SX : State → Heap → Prop} {dC : Nat → ClassId} {dI : Nat → Nat → Nat} {ad en : Nat → Nat} {ca : Nat → ClassId} (hSK : mz_SK SX ad 80) (l : Launch) (n : Nat) (t : mz_St) (res : (Int32 × mz_St)) (hf : f_RE_next n t = some res) : mz_C SX mz_tC 80 mz_cl dC dI ad en ca l y_RE_next prog_11_method_3_code 1 (some (.int)) (r_RE_next) [.ref (ad 6)] t (some (.int res.1)) res.2 := by
  unfold f_RE_next at hf
  refine mz_met hSK (by decide) (Nat.le_of_ble_eq_true rfl) ?_
  intro p e s m args below meth c ls E w hl
  obtain ⟨hx, hb, hml, hown, hcx, -, -, hSX, -, -, -⟩ := id E
  have hl : lv_has ls 1 [(0, .ref (ad 6))] := hl
  refine lv_aload_n hx hb d_RE_next_0 rfl (lv_at hl 0 rfl) ?_
  refine lv_aload_n hx hb d_RE_next_1 rfl (lv_at hl 0 rfl) ?_
  refine mz_get E w 6 0 (v := .ref (ad 1)) (by decide) rfl rfl ii_3 (by decide) (Nat.le_of_ble_eq_true rfl) k_177 rfl d_RE_next_2 ?_
  refine lv_aload_n hx hb d_RE_next_5 rfl (lv_at hl 0 rfl) ?_
  refine mz_get E w 6 2 (v := .int (mz_gI t 6 2)) (by decide) rfl rfl ii_3 (by decide) (Nat.le_of_ble_eq_true rfl) k_179 rfl d_RE_next_6 ?_
  refine lv_aload_n hx hb d_RE_next_9 rfl (lv_at hl 0 rfl) ?_
  refine mz_get E w 6 3 (v := .int (mz_gI t 6 3)) (by decide) rfl rfl ii_3 (by decide) (Nat.le_of_ble_eq_true rfl) k_182 rfl d_RE_next_10 ?_
  obtain ⟨q1, hq2, hf⟩ := mz_bd hf
  refine mz_callV E w (k := 1) (As := [.int (mz_gI t 6 2), .int (mz_gI t 6 3)]) (rest := [.ref (ad 6)]) (c_SI_behindBlanks hSK l n (mz_gI t 6 2) (mz_gI t 6 3) t q1 hq2) (by decide) rfl rfl k_462 k_2 k_794 k_460 k_461 hm_SI_behindBlanks ⟨⟨rfl, rfl⟩, Nat.le_of_ble_eq_true rfl, Nat.le_of_ble_eq_true rfl⟩ rfl hl.1 rfl (Nat.le_of_ble_eq_true rfl) d_RE_next_13 ⟨Nat.zero_le _, Nat.zero_le _⟩ (st1 := [.int q1.1, .ref (ad 6)]) rfl (fun H locs w => ?_)
  refine mz_put E w 6 2 (v := q1.1) (by decide) rfl rfl ii_3 tk_3 nm_3 (by decide) (Nat.le_of_ble_eq_true rfl) k_179 rfl (tk_3 2 (by decide)) rfl rfl rfl d_RE_next_16 (fun H locs w => ?_)
  obtain ⟨t3, e_t3, hf⟩ := mz_lt hf
  rw [← e_t3] at w
  refine lv_aload_n hx hb d_RE_next_19 rfl (lv_at hl 0 rfl) ?_
  refine mz_get E w 6 2 (v := .int (mz_gI t3 6 2)) (by decide) rfl rfl ii_3 (by decide) (Nat.le_of_ble_eq_true rfl) k_179 rfl d_RE_next_20 ?_
  refine lv_aload_n hx hb d_RE_next_23 rfl (lv_at hl 0 rfl) ?_
  refine mz_get E w 6 3 (v := .int (mz_gI t3 6 3)) (by decide) rfl rfl ii_3 (by decide) (Nat.le_of_ble_eq_true rfl) k_182 rfl d_RE_next_24 ?_
  refine lv_icmp_ge (tgt := 44) hx hb d_RE_next_27 (by decide) (fun hc4 => ?_) (fun hc4 => ?_)
  · have hf := mz_t hc4 hf
    refine lv_iconst (v := (-1 : Int32)) hx hb d_RE_next_44 (by decide) ?_
    obtain rfl := Option.some.inj hf
    exact mz_iret E w rfl d_RE_next_45
  · have hf := mz_f hc4 hf
    refine lv_aload_n hx hb d_RE_next_30 rfl (lv_at hl 0 rfl) ?_
    refine mz_get E w 6 0 (v := .ref (ad 1)) (by decide) rfl rfl ii_3 (by decide) (Nat.le_of_ble_eq_true rfl) k_177 rfl d_RE_next_31 ?_
    refine lv_aload_n hx hb d_RE_next_34 rfl (lv_at hl 0 rfl) ?_
    refine mz_get E w 6 2 (v := .int (mz_gI t3 6 2)) (by decide) rfl rfl ii_3 (by decide) (Nat.le_of_ble_eq_true rfl) k_179 rfl d_RE_next_35 ?_
    obtain ⟨q5, hq6, hf⟩ := mz_bd hf
    refine mz_callV E w (k := 1) (As := [.int (mz_gI t3 6 2)]) (rest := []) (c_SI_at hSK l n (mz_gI t3 6 2) t3 q5 hq6) (by decide) rfl rfl k_450 k_2 k_800 k_448 k_449 hm_SI_at ⟨⟨rfl, rfl⟩, Nat.le_of_ble_eq_true rfl, Nat.le_of_ble_eq_true rfl⟩ rfl hl.1 rfl (Nat.le_of_ble_eq_true rfl) d_RE_next_38 ⟨Nat.zero_le _, Nat.zero_le _⟩ (st1 := [.int q5.1]) rfl (fun H locs w => ?_)
    refine lv_goto (tgt := 45) hx hb d_RE_next_41 (by decide) ?_
    obtain rfl := Option.some.inj hf
    exact mz_iret E w rfl d_RE_next_45

/-! MacroHouse$Reader.takePair(II)Z -/
abbrev r_RE_takePair : Room := { frames := 2, cells := 0, slots := 0, locals := 43 }
def f_RE_takePair (n : Nat) (x1 : Int32) (x2 : Int32) (t : mz_St) : Option (Int32 × mz_St) := (f_RE_next n t).bind fun q1 => if q1.1 = x1 then (if (mz_gI q1.2 6 3) ≤ ((mz_gI q1.2 6 2) + (1 : Int32)) then (some ((0 : Int32), q1.2)) else ((f_SI_at n ((mz_gI q1.2 6 2) + (1 : Int32)) q1.2).bind fun q5 => if q5.1 = x2 then (mz_let (mz_pI q5.2 6 2 ((mz_gI q5.2 6 2) + (2 : Int32))) fun t8 => some ((1 : Int32), t8)) else (some ((0 : Int32), q5.2)))) else (some ((0 : Int32), q1.2))
set_option maxRecDepth 100000 in
set_option maxHeartbeats 4000000 in
theorem c_RE_takePair {SX : State → Heap → Prop} {dC : Nat → ClassId} {dI : Nat → Nat → Nat} {ad en : Nat → Nat} {ca : Nat → ClassId} (hSK : mz_SK SX ad 80) (l : Launch) (n : Nat) (x1 : Int32) (x2 : Int32) (t : mz_St) (res : (Int32 × mz_St)) (hf : f_RE_takePair n x1 x2 t = some res) : mz_C SX mz_tC 80 mz_cl dC dI ad en ca l y_RE_takePair prog_11_method_8_code 3 (some (.boolean)) (r_RE_takePair) [.ref (ad 6), .int x1, .int x2] t (some (.int res.1)) res.2 := by
  unfold f_RE_takePair at hf
  refine mz_met hSK (by decide) (Nat.le_of_ble_eq_true rfl) ?_
  intro p e s m args below meth c ls E w hl
  obtain ⟨hx, hb, hml, hown, hcx, -, -, hSX, -, -, -⟩ := id E
  have hl : lv_has ls 3 [(0, .ref (ad 6)), (1, .int x1), (2, .int x2)] := hl
  refine lv_aload_n hx hb d_RE_takePair_0 rfl (lv_at hl 0 rfl) ?_
  obtain ⟨q1, hq2, hf⟩ := mz_bd hf
  refine mz_callV E w (k := 6) (As := []) (rest := []) (c_RE_next hSK l n t q1 hq2) (by decide) rfl rfl k_820 k_11 k_817 k_818 k_819 hm_RE_next ⟨⟨rfl, rfl⟩, Nat.le_of_ble_eq_true rfl, Nat.le_of_ble_eq_true rfl⟩ rfl hl.1 rfl (Nat.le_of_ble_eq_true rfl) d_RE_takePair_1 ⟨Nat.zero_le _, Nat.zero_le _⟩ (st1 := [.int q1.1]) rfl (fun H locs w => ?_)
  refine lv_iload_n hx hb d_RE_takePair_4 rfl (lv_at hl 1 rfl) ?_
  refine lv_icmp_ne (tgt := 38) hx hb d_RE_takePair_5 (by decide) (fun hc3 => ?_) (fun hc3 => ?_)
  · have hf := mz_f hc3 hf
    refine lv_iconst (v := (0 : Int32)) hx hb d_RE_takePair_38 (by decide) ?_
    obtain rfl := Option.some.inj hf
    exact mz_zret E w (by decide) rfl d_RE_takePair_39
  · have hf := mz_t hc3 hf
    refine lv_aload_n hx hb d_RE_takePair_8 rfl (lv_at hl 0 rfl) ?_
    refine mz_get E w 6 2 (v := .int (mz_gI q1.2 6 2)) (by decide) rfl rfl ii_3 (by decide) (Nat.le_of_ble_eq_true rfl) k_179 rfl d_RE_takePair_9 ?_
    refine lv_iconst (v := (1 : Int32)) hx hb d_RE_takePair_12 (by decide) ?_
    refine lv_iadd hx hb d_RE_takePair_13 ?_
    refine lv_aload_n hx hb d_RE_takePair_14 rfl (lv_at hl 0 rfl) ?_
    refine mz_get E w 6 3 (v := .int (mz_gI q1.2 6 3)) (by decide) rfl rfl ii_3 (by decide) (Nat.le_of_ble_eq_true rfl) k_182 rfl d_RE_takePair_15 ?_
    refine lv_icmp_ge (tgt := 38) hx hb d_RE_takePair_18 (by decide) (fun hc4 => ?_) (fun hc4 => ?_)
    · have hf := mz_t hc4 hf
      refine lv_iconst (v := (0 : Int32)) hx hb d_RE_takePair_38 (by decide) ?_
      obtain rfl := Option.some.inj hf
      exact mz_zret E w (by decide) rfl d_RE_takePair_39
    · have hf := mz_f hc4 hf
      refine lv_aload_n hx hb d_RE_takePair_21 rfl (lv_at hl 0 rfl) ?_
      refine mz_get E w 6 0 (v := .ref (ad 1)) (by decide) rfl rfl ii_3 (by decide) (Nat.le_of_ble_eq_true rfl) k_177 rfl d_RE_takePair_22 ?_
      refine lv_aload_n hx hb d_RE_takePair_25 rfl (lv_at hl 0 rfl) ?_
      refine mz_get E w 6 2 (v := .int (mz_gI q1.2 6 2)) (by decide) rfl rfl ii_3 (by decide) (Nat.le_of_ble_eq_true rfl) k_179 rfl d_RE_takePair_26 ?_
      refine lv_iconst (v := (1 : Int32)) hx hb d_RE_takePair_29 (by decide) ?_
      refine lv_iadd hx hb d_RE_takePair_30 ?_
      obtain ⟨q5, hq6, hf⟩ := mz_bd hf
      refine mz_callV E w (k := 1) (As := [.int ((mz_gI q1.2 6 2) + (1 : Int32))]) (rest := []) (c_SI_at hSK l n ((mz_gI q1.2 6 2) + (1 : Int32)) q1.2 q5 hq6) (by decide) rfl rfl k_450 k_2 k_800 k_448 k_449 hm_SI_at ⟨⟨rfl, rfl⟩, Nat.le_of_ble_eq_true rfl, Nat.le_of_ble_eq_true rfl⟩ rfl hl.1 rfl (Nat.le_of_ble_eq_true rfl) d_RE_takePair_31 ⟨Nat.zero_le _, Nat.zero_le _⟩ (st1 := [.int q5.1]) rfl (fun H locs w => ?_)
      refine lv_iload_n hx hb d_RE_takePair_34 rfl (lv_at hl 2 rfl) ?_
      refine lv_icmp_eq (tgt := 40) hx hb d_RE_takePair_35 (by decide) (fun hc7 => ?_) (fun hc7 => ?_)
      · have hf := mz_t hc7 hf
        refine lv_aload_n hx hb d_RE_takePair_40 rfl (lv_at hl 0 rfl) ?_
        refine lv_dup hx hb d_RE_takePair_41 rfl ?_
        refine mz_get E w 6 2 (v := .int (mz_gI q5.2 6 2)) (by decide) rfl rfl ii_3 (by decide) (Nat.le_of_ble_eq_true rfl) k_179 rfl d_RE_takePair_42 ?_
        refine lv_iconst (v := (2 : Int32)) hx hb d_RE_takePair_45 (by decide) ?_
        refine lv_iadd hx hb d_RE_takePair_46 ?_
        refine mz_put E w 6 2 (v := ((mz_gI q5.2 6 2) + (2 : Int32))) (by decide) rfl rfl ii_3 tk_3 nm_3 (by decide) (Nat.le_of_ble_eq_true rfl) k_179 rfl (tk_3 2 (by decide)) rfl rfl rfl d_RE_takePair_47 (fun H locs w => ?_)
        obtain ⟨t8, e_t8, hf⟩ := mz_lt hf
        rw [← e_t8] at w
        refine lv_iconst (v := (1 : Int32)) hx hb d_RE_takePair_50 (by decide) ?_
        obtain rfl := Option.some.inj hf
        exact mz_zret E w (by decide) rfl d_RE_takePair_51
      · have hf := mz_f hc7 hf
        refine lv_iconst (v := (0 : Int32)) hx hb d_RE_takePair_38 (by decide) ?_
        obtain rfl := Option.some.inj hf
        exact mz_zret E w (by decide) rfl d_RE_takePair_39

/-! MacroHouse$Reader.readValue(I)I -/
abbrev r_RE_readValue (d : Nat) : Room := mz_rG 13 490 d
def f_RE_readValue (n : Nat) (fa : Int32 → mz_St → Option (Int32 × mz_St)) (x1 : Int32) (t : mz_St) : Option (Int32 × mz_St) := (f_RE_sum n fa x1 t).bind fun q1 => (f_RE_takePair n (61 : Int32) (61 : Int32) q1.2).bind fun q3 => if q3.1 = 0 then ((f_RE_takePair n (33 : Int32) (61 : Int32) q3.2).bind fun q6 => if q6.1 = 0 then ((f_RE_takePair n (60 : Int32) (61 : Int32) q6.2).bind fun q9 => if q9.1 = 0 then ((f_RE_take n (60 : Int32) q9.2).bind fun q12 => if q12.1 = 0 then (some (q1.1, q12.2)) else ((f_RE_sum n fa x1 q12.2).bind fun q15 => if q15.1 ≤ q1.1 then (some ((0 : Int32), q15.2)) else (some ((1 : Int32), q15.2)))) else ((f_RE_sum n fa x1 q9.2).bind fun q18 => if q18.1 < q1.1 then (some ((0 : Int32), q18.2)) else (some ((1 : Int32), q18.2)))) else ((f_RE_sum n fa x1 q6.2).bind fun q21 => if q1.1 = q21.1 then (some ((0 : Int32), q21.2)) else (some ((1 : Int32), q21.2)))) else ((f_RE_sum n fa x1 q3.2).bind fun q24 => if q1.1 = q24.1 then (some ((1 : Int32), q24.2)) else (some ((0 : Int32), q24.2)))
set_option maxRecDepth 100000 in
set_option maxHeartbeats 4000000 in
theorem c_RE_readValue {SX : State → Heap → Prop} {dC : Nat → ClassId} {dI : Nat → Nat → Nat} {ad en : Nat → Nat} {ca : Nat → ClassId} (hSK : mz_SK SX ad 80) (l : Launch) (n : Nat) {d : Nat} (fa : Int32 → mz_St → Option (Int32 × mz_St)) (hfa : ∀ (x : Int32) (t : mz_St) (q : Int32 × mz_St), fa x t = some q → mz_C SX mz_tC 80 mz_cl dC dI ad en ca l y_RE_factor prog_11_method_12_code 5 (some (.int)) (mz_rG 10 400 d) [.ref (ad 6), .int x] t (some (.int q.1)) q.2) (x1 : Int32) (t : mz_St) (res : (Int32 × mz_St)) (hf : f_RE_readValue n fa x1 t = some res) : mz_C SX mz_tC 80 mz_cl dC dI ad en ca l y_RE_readValue prog_11_method_7_code 3 (some (.int)) (r_RE_readValue d) [.ref (ad 6), .int x1] t (some (.int res.1)) res.2 := by
  unfold f_RE_readValue at hf
  refine mz_met hSK (by decide) (Nat.le_of_ble_eq_true rfl) ?_
  intro p e s m args below meth c ls E w hl
  obtain ⟨hx, hb, hml, hown, hcx, -, -, hSX, -, -, -⟩ := id E
  have hl : lv_has ls 3 [(0, .ref (ad 6)), (1, .int x1)] := hl
  refine lv_aload_n hx hb d_RE_readValue_0 rfl (lv_at hl 0 rfl) ?_
  refine lv_iload_n hx hb d_RE_readValue_1 rfl (lv_at hl 1 rfl) ?_
  obtain ⟨q1, hq2, hf⟩ := mz_bd hf
  refine mz_callV E w (k := 6) (As := [.int x1]) (rest := []) (c_RE_sum hSK l n fa hfa x1 t q1 hq2) (by decide) rfl rfl k_808 k_11 k_805 k_807 ks_21 hm_RE_sum ⟨⟨rfl, rfl⟩, by show 5 * d + 12 + 1 ≤ 5 * d + 13; omega, by show 8 + (4 + 11) + (150 * d + 460) ≤ 150 * d + 490; omega⟩ rfl hl.1 rfl (Nat.le_of_ble_eq_true rfl) d_RE_readValue_2 ⟨Nat.zero_le _, Nat.zero_le _⟩ (st1 := [.int q1.1]) rfl (fun H locs w => ?_)
  refine lv_istore_n (lv' := [(2, .int q1.1), (0, .ref (ad 6)), (1, .int x1)]) hx hb d_RE_readValue_5 rfl hl (by decide) rfl (fun ls hl => ?_)
  refine lv_aload_n hx hb d_RE_readValue_6 rfl (lv_at hl 1 rfl) ?_
  refine lv_bipush (v := (61 : Int32)) hx hb d_RE_readValue_7 (by decide) ?_
  refine lv_bipush (v := (61 : Int32)) hx hb d_RE_readValue_9 (by decide) ?_
  obtain ⟨q3, hq4, hf⟩ := mz_bd hf
  refine mz_callV E w (k := 6) (As := [.int (61 : Int32), .int (61 : Int32)]) (rest := []) (c_RE_takePair hSK l n (61 : Int32) (61 : Int32) q1.2 q3 hq4) (by decide) rfl rfl k_854 k_11 k_851 k_853 ks_29 hm_RE_takePair ⟨⟨rfl, rfl⟩, by show 2 + 1 ≤ 5 * d + 13; omega, by show 8 + (3 + 11) + (43) ≤ 150 * d + 490; omega⟩ rfl hl.1 rfl (Nat.le_of_ble_eq_true rfl) d_RE_readValue_11 ⟨Nat.zero_le _, Nat.zero_le _⟩ (st1 := [.int q3.1]) rfl (fun H locs w => ?_)
  refine lv_if_eq (tgt := 32) hx hb d_RE_readValue_14 (by decide) (fun hc5 => ?_) (fun hc5 => ?_)
  · have hf := mz_t hc5 hf
    refine lv_aload_n hx hb d_RE_readValue_32 rfl (lv_at hl 1 rfl) ?_
    refine lv_bipush (v := (33 : Int32)) hx hb d_RE_readValue_33 (by decide) ?_
    refine lv_bipush (v := (61 : Int32)) hx hb d_RE_readValue_35 (by decide) ?_
    obtain ⟨q6, hq7, hf⟩ := mz_bd hf
    refine mz_callV E w (k := 6) (As := [.int (33 : Int32), .int (61 : Int32)]) (rest := []) (c_RE_takePair hSK l n (33 : Int32) (61 : Int32) q3.2 q6 hq7) (by decide) rfl rfl k_854 k_11 k_851 k_853 ks_29 hm_RE_takePair ⟨⟨rfl, rfl⟩, by show 2 + 1 ≤ 5 * d + 13; omega, by show 8 + (3 + 11) + (43) ≤ 150 * d + 490; omega⟩ rfl hl.1 rfl (Nat.le_of_ble_eq_true rfl) d_RE_readValue_37 ⟨Nat.zero_le _, Nat.zero_le _⟩ (st1 := [.int q6.1]) rfl (fun H locs w => ?_)
    refine lv_if_eq (tgt := 58) hx hb d_RE_readValue_40 (by decide) (fun hc8 => ?_) (fun hc8 => ?_)
    · have hf := mz_t hc8 hf
      refine lv_aload_n hx hb d_RE_readValue_58 rfl (lv_at hl 1 rfl) ?_
      refine lv_bipush (v := (60 : Int32)) hx hb d_RE_readValue_59 (by decide) ?_
      refine lv_bipush (v := (61 : Int32)) hx hb d_RE_readValue_61 (by decide) ?_
      obtain ⟨q9, hq10, hf⟩ := mz_bd hf
      refine mz_callV E w (k := 6) (As := [.int (60 : Int32), .int (61 : Int32)]) (rest := []) (c_RE_takePair hSK l n (60 : Int32) (61 : Int32) q6.2 q9 hq10) (by decide) rfl rfl k_854 k_11 k_851 k_853 ks_29 hm_RE_takePair ⟨⟨rfl, rfl⟩, by show 2 + 1 ≤ 5 * d + 13; omega, by show 8 + (3 + 11) + (43) ≤ 150 * d + 490; omega⟩ rfl hl.1 rfl (Nat.le_of_ble_eq_true rfl) d_RE_readValue_63 ⟨Nat.zero_le _, Nat.zero_le _⟩ (st1 := [.int q9.1]) rfl (fun H locs w => ?_)
      refine lv_if_eq (tgt := 84) hx hb d_RE_readValue_66 (by decide) (fun hc11 => ?_) (fun hc11 => ?_)
      · have hf := mz_t hc11 hf
        refine lv_aload_n hx hb d_RE_readValue_84 rfl (lv_at hl 1 rfl) ?_
        refine lv_bipush (v := (60 : Int32)) hx hb d_RE_readValue_85 (by decide) ?_
        obtain ⟨q12, hq13, hf⟩ := mz_bd hf
        refine mz_callV E w (k := 6) (As := [.int (60 : Int32)]) (rest := []) (c_RE_take hSK l n (60 : Int32) q9.2 q12 hq13) (by decide) rfl rfl k_799 k_11 k_830 k_797 k_798 hm_RE_take ⟨⟨rfl, rfl⟩, by show 1 + 1 ≤ 5 * d + 13; omega, by show 8 + (2 + 11) + (23) ≤ 150 * d + 490; omega⟩ rfl hl.1 rfl (Nat.le_of_ble_eq_true rfl) d_RE_readValue_87 ⟨Nat.zero_le _, Nat.zero_le _⟩ (st1 := [.int q12.1]) rfl (fun H locs w => ?_)
        refine lv_if_eq (tgt := 108) hx hb d_RE_readValue_90 (by decide) (fun hc14 => ?_) (fun hc14 => ?_)
        · have hf := mz_t hc14 hf
          refine lv_iload_n hx hb d_RE_readValue_108 rfl (lv_at hl 0 rfl) ?_
          obtain rfl := Option.some.inj hf
          exact mz_iret E w rfl d_RE_readValue_109
        · have hf := mz_f hc14 hf
          refine lv_iload_n hx hb d_RE_readValue_93 rfl (lv_at hl 0 rfl) ?_
          refine lv_aload_n hx hb d_RE_readValue_94 rfl (lv_at hl 1 rfl) ?_
          refine lv_iload_n hx hb d_RE_readValue_95 rfl (lv_at hl 2 rfl) ?_
          obtain ⟨q15, hq16, hf⟩ := mz_bd hf
          refine mz_callV E w (k := 6) (As := [.int x1]) (rest := [.int q1.1]) (c_RE_sum hSK l n fa hfa x1 q12.2 q15 hq16) (by decide) rfl rfl k_808 k_11 k_805 k_807 ks_21 hm_RE_sum ⟨⟨rfl, rfl⟩, by show 5 * d + 12 + 1 ≤ 5 * d + 13; omega, by show 8 + (4 + 11) + (150 * d + 460) ≤ 150 * d + 490; omega⟩ rfl hl.1 rfl (Nat.le_of_ble_eq_true rfl) d_RE_readValue_96 ⟨Nat.zero_le _, Nat.zero_le _⟩ (st1 := [.int q15.1, .int q1.1]) rfl (fun H locs w => ?_)
          refine lv_icmp_ge (tgt := 106) hx hb d_RE_readValue_99 (by decide) (fun hc17 => ?_) (fun hc17 => ?_)
          · have hf := mz_t hc17 hf
            refine lv_iconst (v := (0 : Int32)) hx hb d_RE_readValue_106 (by decide) ?_
            obtain rfl := Option.some.inj hf
            exact mz_iret E w rfl d_RE_readValue_107
          · have hf := mz_f hc17 hf
            refine lv_iconst (v := (1 : Int32)) hx hb d_RE_readValue_102 (by decide) ?_
            refine lv_goto (tgt := 107) hx hb d_RE_readValue_103 (by decide) ?_
            obtain rfl := Option.some.inj hf
            exact mz_iret E w rfl d_RE_readValue_107
      · have hf := mz_f hc11 hf
        refine lv_iload_n hx hb d_RE_readValue_69 rfl (lv_at hl 0 rfl) ?_
        refine lv_aload_n hx hb d_RE_readValue_70 rfl (lv_at hl 1 rfl) ?_
        refine lv_iload_n hx hb d_RE_readValue_71 rfl (lv_at hl 2 rfl) ?_
        obtain ⟨q18, hq19, hf⟩ := mz_bd hf
        refine mz_callV E w (k := 6) (As := [.int x1]) (rest := [.int q1.1]) (c_RE_sum hSK l n fa hfa x1 q9.2 q18 hq19) (by decide) rfl rfl k_808 k_11 k_805 k_807 ks_21 hm_RE_sum ⟨⟨rfl, rfl⟩, by show 5 * d + 12 + 1 ≤ 5 * d + 13; omega, by show 8 + (4 + 11) + (150 * d + 460) ≤ 150 * d + 490; omega⟩ rfl hl.1 rfl (Nat.le_of_ble_eq_true rfl) d_RE_readValue_72 ⟨Nat.zero_le _, Nat.zero_le _⟩ (st1 := [.int q18.1, .int q1.1]) rfl (fun H locs w => ?_)
        refine lv_icmp_gt (tgt := 82) hx hb d_RE_readValue_75 (by decide) (fun hc20 => ?_) (fun hc20 => ?_)
        · have hf := mz_t hc20 hf
          refine lv_iconst (v := (0 : Int32)) hx hb d_RE_readValue_82 (by decide) ?_
          obtain rfl := Option.some.inj hf
          exact mz_iret E w rfl d_RE_readValue_83
        · have hf := mz_f hc20 hf
          refine lv_iconst (v := (1 : Int32)) hx hb d_RE_readValue_78 (by decide) ?_
          refine lv_goto (tgt := 83) hx hb d_RE_readValue_79 (by decide) ?_
          obtain rfl := Option.some.inj hf
          exact mz_iret E w rfl d_RE_readValue_83
    · have hf := mz_f hc8 hf
      refine lv_iload_n hx hb d_RE_readValue_43 rfl (lv_at hl 0 rfl) ?_
      refine lv_aload_n hx hb d_RE_readValue_44 rfl (lv_at hl 1 rfl) ?_
      refine lv_iload_n hx hb d_RE_readValue_45 rfl (lv_at hl 2 rfl) ?_
      obtain ⟨q21, hq22, hf⟩ := mz_bd hf
      refine mz_callV E w (k := 6) (As := [.int x1]) (rest := [.int q1.1]) (c_RE_sum hSK l n fa hfa x1 q6.2 q21 hq22) (by decide) rfl rfl k_808 k_11 k_805 k_807 ks_21 hm_RE_sum ⟨⟨rfl, rfl⟩, by show 5 * d + 12 + 1 ≤ 5 * d + 13; omega, by show 8 + (4 + 11) + (150 * d + 460) ≤ 150 * d + 490; omega⟩ rfl hl.1 rfl (Nat.le_of_ble_eq_true rfl) d_RE_readValue_46 ⟨Nat.zero_le _, Nat.zero_le _⟩ (st1 := [.int q21.1, .int q1.1]) rfl (fun H locs w => ?_)
      refine lv_icmp_eq (tgt := 56) hx hb d_RE_readValue_49 (by decide) (fun hc23 => ?_) (fun hc23 => ?_)
      · have hf := mz_t hc23 hf
        refine lv_iconst (v := (0 : Int32)) hx hb d_RE_readValue_56 (by decide) ?_
        obtain rfl := Option.some.inj hf
        exact mz_iret E w rfl d_RE_readValue_57
      · have hf := mz_f hc23 hf
        refine lv_iconst (v := (1 : Int32)) hx hb d_RE_readValue_52 (by decide) ?_
        refine lv_goto (tgt := 57) hx hb d_RE_readValue_53 (by decide) ?_
        obtain rfl := Option.some.inj hf
        exact mz_iret E w rfl d_RE_readValue_57
  · have hf := mz_f hc5 hf
    refine lv_iload_n hx hb d_RE_readValue_17 rfl (lv_at hl 0 rfl) ?_
    refine lv_aload_n hx hb d_RE_readValue_18 rfl (lv_at hl 1 rfl) ?_
    refine lv_iload_n hx hb d_RE_readValue_19 rfl (lv_at hl 2 rfl) ?_
    obtain ⟨q24, hq25, hf⟩ := mz_bd hf
    refine mz_callV E w (k := 6) (As := [.int x1]) (rest := [.int q1.1]) (c_RE_sum hSK l n fa hfa x1 q3.2 q24 hq25) (by decide) rfl rfl k_808 k_11 k_805 k_807 ks_21 hm_RE_sum ⟨⟨rfl, rfl⟩, by show 5 * d + 12 + 1 ≤ 5 * d + 13; omega, by show 8 + (4 + 11) + (150 * d + 460) ≤ 150 * d + 490; omega⟩ rfl hl.1 rfl (Nat.le_of_ble_eq_true rfl) d_RE_readValue_20 ⟨Nat.zero_le _, Nat.zero_le _⟩ (st1 := [.int q24.1, .int q1.1]) rfl (fun H locs w => ?_)
    refine lv_icmp_ne (tgt := 30) hx hb d_RE_readValue_23 (by decide) (fun hc26 => ?_) (fun hc26 => ?_)
    · have hf := mz_f hc26 hf
      refine lv_iconst (v := (0 : Int32)) hx hb d_RE_readValue_30 (by decide) ?_
      obtain rfl := Option.some.inj hf
      exact mz_iret E w rfl d_RE_readValue_31
    · have hf := mz_t hc26 hf
      refine lv_iconst (v := (1 : Int32)) hx hb d_RE_readValue_26 (by decide) ?_
      refine lv_goto (tgt := 31) hx hb d_RE_readValue_27 (by decide) ?_
      obtain rfl := Option.some.inj hf
      exact mz_iret E w rfl d_RE_readValue_31

/-! MacroHouse$Reader.isDone()Z -/
abbrev r_RE_isDone : Room := { frames := 2, cells := 0, slots := 0, locals := 43 }
def f_RE_isDone (n : Nat) (t : mz_St) : Option (Int32 × mz_St) := (f_RE_next n t).bind fun q1 => if q1.1 = (-1 : Int32) then (some ((1 : Int32), q1.2)) else (some ((0 : Int32), q1.2))
set_option maxRecDepth 100000 in
set_option maxHeartbeats 4000000 in
theorem c_RE_isDone {SX : State → Heap → Prop} {dC : Nat → ClassId} {dI : Nat → Nat → Nat} {ad en : Nat → Nat} {ca : Nat → ClassId} (hSK : mz_SK SX ad 80) (l : Launch) (n : Nat) (t : mz_St) (res : (Int32 × mz_St)) (hf : f_RE_isDone n t = some res) : mz_C SX mz_tC 80 mz_cl dC dI ad en ca l y_RE_isDone prog_11_method_4_code 1 (some (.boolean)) (r_RE_isDone) [.ref (ad 6)] t (some (.int res.1)) res.2 := by
  unfold f_RE_isDone at hf
  refine mz_met hSK (by decide) (Nat.le_of_ble_eq_true rfl) ?_
  intro p e s m args below meth c ls E w hl
  obtain ⟨hx, hb, hml, hown, hcx, -, -, hSX, -, -, -⟩ := id E
  have hl : lv_has ls 1 [(0, .ref (ad 6))] := hl
  refine lv_aload_n hx hb d_RE_isDone_0 rfl (lv_at hl 0 rfl) ?_
  obtain ⟨q1, hq2, hf⟩ := mz_bd hf
  refine mz_callV E w (k := 6) (As := []) (rest := []) (c_RE_next hSK l n t q1 hq2) (by decide) rfl rfl k_820 k_11 k_817 k_818 k_819 hm_RE_next ⟨⟨rfl, rfl⟩, Nat.le_of_ble_eq_true rfl, Nat.le_of_ble_eq_true rfl⟩ rfl hl.1 rfl (Nat.le_of_ble_eq_true rfl) d_RE_isDone_1 ⟨Nat.zero_le _, Nat.zero_le _⟩ (st1 := [.int q1.1]) rfl (fun H locs w => ?_)
  refine lv_iconst (v := (-1 : Int32)) hx hb d_RE_isDone_4 (by decide) ?_
  refine lv_icmp_ne (tgt := 12) hx hb d_RE_isDone_5 (by decide) (fun hc3 => ?_) (fun hc3 => ?_)
  · have hf := mz_f hc3 hf
    refine lv_iconst (v := (0 : Int32)) hx hb d_RE_isDone_12 (by decide) ?_
    obtain rfl := Option.some.inj hf
    exact mz_zret E w (by decide) rfl d_RE_isDone_13
  · have hf := mz_t hc3 hf
    refine lv_iconst (v := (1 : Int32)) hx hb d_RE_isDone_8 (by decide) ?_
    refine lv_goto (tgt := 13) hx hb d_RE_isDone_9 (by decide) ?_
    obtain rfl := Option.some.inj hf
    exact mz_zret E w (by decide) rfl d_RE_isDone_13

/-! MacroHouse$Reader.refuse()I -/
abbrev r_RE_refuse : Room := { frames := 0, cells := 0, slots := 0, locals := 0 }
def f_RE_refuse (n : Nat) (t : mz_St) : Option (Int32 × mz_St) := mz_let (mz_pI t 6 6 (1 : Int32)) fun t1 => some ((0 : Int32), t1)
set_option maxRecDepth 100000 in
set_option maxHeartbeats 4000000 in
theorem c_RE_refuse {SX : State → Heap → Prop} {dC : Nat → ClassId} {dI : Nat → Nat → Nat} {ad en : Nat → Nat} {ca : Nat → ClassId} (hSK : mz_SK SX ad 80) (l : Launch) (n : Nat) (t : mz_St) (res : (Int32 × mz_St)) (hf : f_RE_refuse n t = some res) : mz_C SX mz_tC 80 mz_cl dC dI ad en ca l y_RE_refuse prog_11_method_16_code 1 (some (.int)) (r_RE_refuse) [.ref (ad 6)] t (some (.int res.1)) res.2 := by
  unfold f_RE_refuse at hf
  refine mz_met hSK (by decide) (Nat.le_of_ble_eq_true rfl) ?_
  intro p e s m args below meth c ls E w hl
  obtain ⟨hx, hb, hml, hown, hcx, -, -, hSX, -, -, -⟩ := id E
  have hl : lv_has ls 1 [(0, .ref (ad 6))] := hl
  refine lv_aload_n hx hb d_RE_refuse_0 rfl (lv_at hl 0 rfl) ?_
  refine lv_iconst (v := (1 : Int32)) hx hb d_RE_refuse_1 (by decide) ?_
  refine mz_put E w 6 6 (v := (1 : Int32)) (by decide) rfl rfl ii_3 tk_3 nm_3 (by decide) (Nat.le_of_ble_eq_true rfl) k_190 rfl (tk_3 6 (by decide)) rfl (by decide) rfl d_RE_refuse_2 (fun H locs w => ?_)
  obtain ⟨t1, e_t1, hf⟩ := mz_lt hf
  rw [← e_t1] at w
  refine lv_iconst (v := (0 : Int32)) hx hb d_RE_refuse_5 (by decide) ?_
  obtain rfl := Option.some.inj hf
  exact mz_iret E w rfl d_RE_refuse_6

/-! MacroHouse$Reader.bracketed(I)I -/
abbrev r_RE_bracketed (d : Nat) : Room := mz_rG 14 520 d
def f_RE_bracketed (n : Nat) (fa : Int32 → mz_St → Option (Int32 × mz_St)) (x1 : Int32) (t : mz_St) : Option (Int32 × mz_St) := (f_RE_readValue n fa x1 t).bind fun q1 => (f_RE_take n (41 : Int32) q1.2).bind fun q3 => if q3.1 = 0 then ((f_RE_refuse n q3.2).bind fun q6 => some (q6.1, q6.2)) else (some (q1.1, q3.2))
set_option maxRecDepth 100000 in
set_option maxHeartbeats 4000000 in
theorem c_RE_bracketed {SX : State → Heap → Prop} {dC : Nat → ClassId} {dI : Nat → Nat → Nat} {ad en : Nat → Nat} {ca : Nat → ClassId} (hSK : mz_SK SX ad 80) (l : Launch) (n : Nat) {d : Nat} (fa : Int32 → mz_St → Option (Int32 × mz_St)) (hfa : ∀ (x : Int32) (t : mz_St) (q : Int32 × mz_St), fa x t = some q → mz_C SX mz_tC 80 mz_cl dC dI ad en ca l y_RE_factor prog_11_method_12_code 5 (some (.int)) (mz_rG 10 400 d) [.ref (ad 6), .int x] t (some (.int q.1)) q.2) (x1 : Int32) (t : mz_St) (res : (Int32 × mz_St)) (hf : f_RE_bracketed n fa x1 t = some res) : mz_C SX mz_tC 80 mz_cl dC dI ad en ca l y_RE_bracketed prog_11_method_13_code 3 (some (.int)) (r_RE_bracketed d) [.ref (ad 6), .int x1] t (some (.int res.1)) res.2 := by
  unfold f_RE_bracketed at hf
  refine mz_met hSK (by decide) (Nat.le_of_ble_eq_true rfl) ?_
  intro p e s m args below meth c ls E w hl
  obtain ⟨hx, hb, hml, hown, hcx, -, -, hSX, -, -, -⟩ := id E
  have hl : lv_has ls 3 [(0, .ref (ad 6)), (1, .int x1)] := hl
  refine lv_aload_n hx hb d_RE_bracketed_0 rfl (lv_at hl 0 rfl) ?_
  refine lv_iload_n hx hb d_RE_bracketed_1 rfl (lv_at hl 1 rfl) ?_
  obtain ⟨q1, hq2, hf⟩ := mz_bd hf
  refine mz_callV E w (k := 6) (As := [.int x1]) (rest := []) (c_RE_readValue hSK l n fa hfa x1 t q1 hq2) (by decide) rfl rfl k_804 k_11 k_829 k_802 k_803 hm_RE_readValue ⟨⟨rfl, rfl⟩, by show 5 * d + 13 + 1 ≤ 5 * d + 14; omega, by show 8 + (3 + 11) + (150 * d + 490) ≤ 150 * d + 520; omega⟩ rfl hl.1 rfl (Nat.le_of_ble_eq_true rfl) d_RE_bracketed_2 ⟨Nat.zero_le _, Nat.zero_le _⟩ (st1 := [.int q1.1]) rfl (fun H locs w => ?_)
  refine lv_istore_n (lv' := [(2, .int q1.1), (0, .ref (ad 6)), (1, .int x1)]) hx hb d_RE_bracketed_5 rfl hl (by decide) rfl (fun ls hl => ?_)
  refine lv_aload_n hx hb d_RE_bracketed_6 rfl (lv_at hl 1 rfl) ?_
  refine lv_bipush (v := (41 : Int32)) hx hb d_RE_bracketed_7 (by decide) ?_
  obtain ⟨q3, hq4, hf⟩ := mz_bd hf
  refine mz_callV E w (k := 6) (As := [.int (41 : Int32)]) (rest := []) (c_RE_take hSK l n (41 : Int32) q1.2 q3 hq4) (by decide) rfl rfl k_799 k_11 k_830 k_797 k_798 hm_RE_take ⟨⟨rfl, rfl⟩, by show 1 + 1 ≤ 5 * d + 14; omega, by show 8 + (2 + 11) + (23) ≤ 150 * d + 520; omega⟩ rfl hl.1 rfl (Nat.le_of_ble_eq_true rfl) d_RE_bracketed_9 ⟨Nat.zero_le _, Nat.zero_le _⟩ (st1 := [.int q3.1]) rfl (fun H locs w => ?_)
  refine lv_if_eq (tgt := 19) hx hb d_RE_bracketed_12 (by decide) (fun hc5 => ?_) (fun hc5 => ?_)
  · have hf := mz_t hc5 hf
    refine lv_aload_n hx hb d_RE_bracketed_19 rfl (lv_at hl 1 rfl) ?_
    obtain ⟨q6, hq7, hf⟩ := mz_bd hf
    refine mz_callV E w (k := 6) (As := []) (rest := []) (c_RE_refuse hSK l n q3.2 q6 hq7) (by decide) rfl rfl k_824 k_11 k_821 k_823 ks_24 hm_RE_refuse ⟨⟨rfl, rfl⟩, by show 0 + 1 ≤ 5 * d + 14; omega, by show 8 + (1 + 11) + (0) ≤ 150 * d + 520; omega⟩ rfl hl.1 rfl (Nat.le_of_ble_eq_true rfl) d_RE_bracketed_20 ⟨Nat.zero_le _, Nat.zero_le _⟩ (st1 := [.int q6.1]) rfl (fun H locs w => ?_)
    obtain rfl := Option.some.inj hf
    exact mz_iret E w rfl d_RE_bracketed_23
  · have hf := mz_f hc5 hf
    refine lv_iload_n hx hb d_RE_bracketed_15 rfl (lv_at hl 0 rfl) ?_
    refine lv_goto (tgt := 23) hx hb d_RE_bracketed_16 (by decide) ?_
    obtain rfl := Option.some.inj hf
    exact mz_iret E w rfl d_RE_bracketed_23

/-! MacroHouse$Reader.number()I -/
abbrev r_RE_number : Room := { frames := 1, cells := 0, slots := 0, locals := 21 }
def f_RE_number_112 (n : Nat) (t : mz_St) : Option (Int32 × mz_St) := (f_RE_refuse n t).bind fun q4 => some (q4.1, q4.2)
def f_RE_number_101 (n : Nat) (x1 : Int32) (x2 : Int32) (s0 : Int32) (t : mz_St) : Option (Int32 × mz_St) := if s0 = 0 then (if x2 ≤ (9 : Int32) then (some (x1, t)) else (f_RE_number_112 n  t)) else (f_RE_number_112 n  t)
def f_RE_number_100 (n : Nat) (x1 : Int32) (x2 : Int32) (t : mz_St) : Option (Int32 × mz_St) := f_RE_number_101 n x1 x2 (0 : Int32) t
def f_RE_number_68 (n : Nat) (x1 : Int32) (x2 : Int32) (t : mz_St) : Option (Int32 × mz_St) := if (mz_gI t 6 3) ≤ (mz_gI t 6 2) then (f_RE_number_100 n x1 x2 t) else ((f_SI_at n (mz_gI t 6 2) t).bind fun q7 => (f_SI_beginsWord n q7.1 q7.2).bind fun q9 => if q9.1 = 0 then (f_RE_number_100 n x1 x2 q9.2) else (f_RE_number_101 n x1 x2 (1 : Int32) q9.2))
def f_RE_number_4 (n : Nat) : Nat → Int32 → Int32 → mz_St → Option (Int32 × mz_St)
  | 0, _, _, _ => none
  | k + 1, x1, x2, t => if (mz_gI t 6 3) ≤ (mz_gI t 6 2) then (f_RE_number_68 n x1 x2 t) else ((f_SI_at n (mz_gI t 6 2) t).bind fun q12 => (f_SI_isDigit n q12.1 q12.2).bind fun q14 => if q14.1 = 0 then (f_RE_number_68 n x1 x2 q14.2) else ((f_SI_at n (mz_gI q14.2 6 2) q14.2).bind fun q17 => mz_let (mz_pI q17.2 6 2 ((mz_gI q17.2 6 2) + (1 : Int32))) fun t19 => (f_RE_number_4 n k) ((x1 * (10 : Int32)) + (q17.1 - (48 : Int32))) (x2 + (1 : Int32)) t19))
def f_RE_number (n : Nat) (t : mz_St) : Option (Int32 × mz_St) := f_RE_number_4 n n (0 : Int32) (0 : Int32) t
set_option maxRecDepth 100000 in
set_option maxHeartbeats 4000000 in
theorem b_RE_number_112 {SX : State → Heap → Prop} {dC : Nat → ClassId} {dI : Nat → Nat → Nat} {ad en : Nat → Nat} {ca : Nat → ClassId} {p : Program} {l : Launch} {e : Env} {s : State} {m : MethodId} {args : Array Value} {below : List Frame} {meth : Method} {c : Code} {res : (Int32 × mz_St)} (E : mz_En SX 80 mz_cl dC dI ad ca p s m meth c prog_11_method_14_code 4 "MacroHouse$Reader" (some (.int))) (n : Nat) : ∀ (t : mz_St), f_RE_number_112 n t = some res → ∀ (H : Heap) (locs : List Loc) (ls : Array Slot), mz_Wd mz_tC 80 mz_cl dC dI ad en ca s t H locs → lv_has ls 4 [(0, .ref (ad 6))] → W p l e (r_RE_number) s m args below meth c H locs 0 0 (MQ below (mz_Q SX mz_tC 80 mz_cl dC dI ad en ca (some (.int res.1)) res.2) args s 0 0 (mz_A ad 80)) (F0 m 112 ls []) := by
  obtain ⟨hx, hb, hml, hown, hcx, -, -, hSX, -, -, hSK⟩ := id E
  intro t hf H locs ls w hl
  unfold f_RE_number_112 at hf
  refine lv_aload_n hx hb d_RE_number_112 rfl (lv_at hl 0 rfl) ?_
  obtain ⟨q4, hq5, hf⟩ := mz_bd hf
  refine mz_callV E w (k := 6) (As := []) (rest := []) (c_RE_refuse hSK l n t q4 hq5) (by decide) rfl rfl k_824 k_11 k_821 k_823 ks_24 hm_RE_refuse ⟨⟨rfl, rfl⟩, Nat.le_of_ble_eq_true rfl, Nat.le_of_ble_eq_true rfl⟩ rfl hl.1 rfl (Nat.le_of_ble_eq_true rfl) d_RE_number_113 ⟨Nat.zero_le _, Nat.zero_le _⟩ (st1 := [.int q4.1]) rfl (fun H locs w => ?_)
  refine lv_goto (tgt := 120) hx hb d_RE_number_116 (by decide) ?_
  obtain rfl := Option.some.inj hf
  exact mz_iret E w rfl d_RE_number_120
set_option maxRecDepth 100000 in
set_option maxHeartbeats 4000000 in
theorem b_RE_number_101 {SX : State → Heap → Prop} {dC : Nat → ClassId} {dI : Nat → Nat → Nat} {ad en : Nat → Nat} {ca : Nat → ClassId} {p : Program} {l : Launch} {e : Env} {s : State} {m : MethodId} {args : Array Value} {below : List Frame} {meth : Method} {c : Code} {res : (Int32 × mz_St)} (E : mz_En SX 80 mz_cl dC dI ad ca p s m meth c prog_11_method_14_code 4 "MacroHouse$Reader" (some (.int))) (n : Nat) : ∀ (x1 : Int32) (x2 : Int32) (s0 : Int32) (t : mz_St), f_RE_number_101 n x1 x2 s0 t = some res → ∀ (H : Heap) (locs : List Loc) (ls : Array Slot), mz_Wd mz_tC 80 mz_cl dC dI ad en ca s t H locs → lv_has ls 4 [(0, .ref (ad 6)), (1, .int x1), (2, .int x2)] → W p l e (r_RE_number) s m args below meth c H locs 0 0 (MQ below (mz_Q SX mz_tC 80 mz_cl dC dI ad en ca (some (.int res.1)) res.2) args s 0 0 (mz_A ad 80)) (F0 m 101 ls [.int s0]) := by
  obtain ⟨hx, hb, hml, hown, hcx, -, -, hSX, -, -, hSK⟩ := id E
  intro x1 x2 s0 t hf H locs ls w hl
  unfold f_RE_number_101 at hf
  refine lv_istore_n (lv' := [(3, .int s0), (0, .ref (ad 6)), (1, .int x1), (2, .int x2)]) hx hb d_RE_number_101 rfl hl (by decide) rfl (fun ls hl => ?_)
  refine lv_iload_n hx hb d_RE_number_102 rfl (lv_at hl 0 rfl) ?_
  refine lv_if_ne (tgt := 112) hx hb d_RE_number_103 (by decide) (fun hc3 => ?_) (fun hc3 => ?_)
  · have hf := mz_f hc3 hf
    exact b_RE_number_112 E n  t hf _ _ _ w (lv_sub hl [1] rfl)
  · have hf := mz_t hc3 hf
    refine lv_iload_n hx hb d_RE_number_106 rfl (lv_at hl 3 rfl) ?_
    refine lv_bipush (v := (9 : Int32)) hx hb d_RE_number_107 (by decide) ?_
    refine lv_icmp_le (tgt := 119) hx hb d_RE_number_109 (by decide) (fun hc6 => ?_) (fun hc6 => ?_)
    · have hf := mz_t hc6 hf
      refine lv_iload_n hx hb d_RE_number_119 rfl (lv_at hl 2 rfl) ?_
      obtain rfl := Option.some.inj hf
      exact mz_iret E w rfl d_RE_number_120
    · have hf := mz_f hc6 hf
      exact b_RE_number_112 E n  t hf _ _ _ w (lv_sub hl [1] rfl)
set_option maxRecDepth 100000 in
set_option maxHeartbeats 4000000 in
theorem b_RE_number_100 {SX : State → Heap → Prop} {dC : Nat → ClassId} {dI : Nat → Nat → Nat} {ad en : Nat → Nat} {ca : Nat → ClassId} {p : Program} {l : Launch} {e : Env} {s : State} {m : MethodId} {args : Array Value} {below : List Frame} {meth : Method} {c : Code} {res : (Int32 × mz_St)} (E : mz_En SX 80 mz_cl dC dI ad ca p s m meth c prog_11_method_14_code 4 "MacroHouse$Reader" (some (.int))) (n : Nat) : ∀ (x1 : Int32) (x2 : Int32) (t : mz_St), f_RE_number_100 n x1 x2 t = some res → ∀ (H : Heap) (locs : List Loc) (ls : Array Slot), mz_Wd mz_tC 80 mz_cl dC dI ad en ca s t H locs → lv_has ls 4 [(0, .ref (ad 6)), (1, .int x1), (2, .int x2)] → W p l e (r_RE_number) s m args below meth c H locs 0 0 (MQ below (mz_Q SX mz_tC 80 mz_cl dC dI ad en ca (some (.int res.1)) res.2) args s 0 0 (mz_A ad 80)) (F0 m 100 ls []) := by
  obtain ⟨hx, hb, hml, hown, hcx, -, -, hSX, -, -, hSK⟩ := id E
  intro x1 x2 t hf H locs ls w hl
  unfold f_RE_number_100 at hf
  refine lv_iconst (v := (0 : Int32)) hx hb d_RE_number_100 (by decide) ?_
  exact b_RE_number_101 E n x1 x2 (0 : Int32) t hf _ _ _ w (lv_sub hl [0, 1, 2] rfl)
set_option maxRecDepth 100000 in
set_option maxHeartbeats 4000000 in
theorem b_RE_number_68 {SX : State → Heap → Prop} {dC : Nat → ClassId} {dI : Nat → Nat → Nat} {ad en : Nat → Nat} {ca : Nat → ClassId} {p : Program} {l : Launch} {e : Env} {s : State} {m : MethodId} {args : Array Value} {below : List Frame} {meth : Method} {c : Code} {res : (Int32 × mz_St)} (E : mz_En SX 80 mz_cl dC dI ad ca p s m meth c prog_11_method_14_code 4 "MacroHouse$Reader" (some (.int))) (n : Nat) : ∀ (x1 : Int32) (x2 : Int32) (t : mz_St), f_RE_number_68 n x1 x2 t = some res → ∀ (H : Heap) (locs : List Loc) (ls : Array Slot), mz_Wd mz_tC 80 mz_cl dC dI ad en ca s t H locs → lv_has ls 4 [(0, .ref (ad 6)), (1, .int x1), (2, .int x2)] → W p l e (r_RE_number) s m args below meth c H locs 0 0 (MQ below (mz_Q SX mz_tC 80 mz_cl dC dI ad en ca (some (.int res.1)) res.2) args s 0 0 (mz_A ad 80)) (F0 m 68 ls []) := by
  obtain ⟨hx, hb, hml, hown, hcx, -, -, hSX, -, -, hSK⟩ := id E
  intro x1 x2 t hf H locs ls w hl
  unfold f_RE_number_68 at hf
  refine lv_aload_n hx hb d_RE_number_68 rfl (lv_at hl 0 rfl) ?_
  refine mz_get E w 6 2 (v := .int (mz_gI t 6 2)) (by decide) rfl rfl ii_3 (by decide) (Nat.le_of_ble_eq_true rfl) k_179 rfl d_RE_number_69 ?_
  refine lv_aload_n hx hb d_RE_number_72 rfl (lv_at hl 0 rfl) ?_
  refine mz_get E w 6 3 (v := .int (mz_gI t 6 3)) (by decide) rfl rfl ii_3 (by decide) (Nat.le_of_ble_eq_true rfl) k_182 rfl d_RE_number_73 ?_
  refine lv_icmp_ge (tgt := 100) hx hb d_RE_number_76 (by decide) (fun hc2 => ?_) (fun hc2 => ?_)
  · have hf := mz_t hc2 hf
    exact b_RE_number_100 E n x1 x2 t hf _ _ _ w (lv_sub hl [0, 1, 2] rfl)
  · have hf := mz_f hc2 hf
    refine lv_aload_n hx hb d_RE_number_79 rfl (lv_at hl 0 rfl) ?_
    refine mz_get E w 6 0 (v := .ref (ad 1)) (by decide) rfl rfl ii_3 (by decide) (Nat.le_of_ble_eq_true rfl) k_177 rfl d_RE_number_80 ?_
    refine lv_aload_n hx hb d_RE_number_83 rfl (lv_at hl 0 rfl) ?_
    refine mz_get E w 6 2 (v := .int (mz_gI t 6 2)) (by decide) rfl rfl ii_3 (by decide) (Nat.le_of_ble_eq_true rfl) k_179 rfl d_RE_number_84 ?_
    obtain ⟨q7, hq8, hf⟩ := mz_bd hf
    refine mz_callV E w (k := 1) (As := [.int (mz_gI t 6 2)]) (rest := []) (c_SI_at hSK l n (mz_gI t 6 2) t q7 hq8) (by decide) rfl rfl k_450 k_2 k_800 k_448 k_449 hm_SI_at ⟨⟨rfl, rfl⟩, Nat.le_of_ble_eq_true rfl, Nat.le_of_ble_eq_true rfl⟩ rfl hl.1 rfl (Nat.le_of_ble_eq_true rfl) d_RE_number_87 ⟨Nat.zero_le _, Nat.zero_le _⟩ (st1 := [.int q7.1]) rfl (fun H locs w => ?_)
    obtain ⟨q9, hq10, hf⟩ := mz_bd hf
    refine mz_callS E w (As := [.int q7.1]) (rest := []) (c_SI_beginsWord hSK l n q7.1 q7.2 q9 hq10) k_569 k_2 k_836 k_568 hm_SI_beginsWord ⟨⟨rfl, rfl⟩, Nat.le_of_ble_eq_true rfl, Nat.le_of_ble_eq_true rfl⟩ rfl hl.1 rfl (Nat.le_of_ble_eq_true rfl) d_RE_number_90 ⟨Nat.zero_le _, Nat.zero_le _⟩ (st1 := [.int q9.1]) rfl (fun H locs w => ?_)
    refine lv_if_eq (tgt := 100) hx hb d_RE_number_93 (by decide) (fun hc11 => ?_) (fun hc11 => ?_)
    · have hf := mz_t hc11 hf
      exact b_RE_number_100 E n x1 x2 q9.2 hf _ _ _ w (lv_sub hl [0, 1, 2] rfl)
    · have hf := mz_f hc11 hf
      refine lv_iconst (v := (1 : Int32)) hx hb d_RE_number_96 (by decide) ?_
      refine lv_goto (tgt := 101) hx hb d_RE_number_97 (by decide) ?_
      exact b_RE_number_101 E n x1 x2 (1 : Int32) q9.2 hf _ _ _ w (lv_sub hl [0, 1, 2] rfl)
set_option maxRecDepth 100000 in
set_option maxHeartbeats 4000000 in
theorem b_RE_number_4 {SX : State → Heap → Prop} {dC : Nat → ClassId} {dI : Nat → Nat → Nat} {ad en : Nat → Nat} {ca : Nat → ClassId} {p : Program} {l : Launch} {e : Env} {s : State} {m : MethodId} {args : Array Value} {below : List Frame} {meth : Method} {c : Code} {res : (Int32 × mz_St)} (E : mz_En SX 80 mz_cl dC dI ad ca p s m meth c prog_11_method_14_code 4 "MacroHouse$Reader" (some (.int))) (n : Nat) (k : Nat) : ∀ (x1 : Int32) (x2 : Int32) (t : mz_St), f_RE_number_4 n k x1 x2 t = some res → ∀ (H : Heap) (locs : List Loc) (ls : Array Slot), mz_Wd mz_tC 80 mz_cl dC dI ad en ca s t H locs → lv_has ls 4 [(0, .ref (ad 6)), (1, .int x1), (2, .int x2)] → W p l e (r_RE_number) s m args below meth c H locs 0 0 (MQ below (mz_Q SX mz_tC 80 mz_cl dC dI ad en ca (some (.int res.1)) res.2) args s 0 0 (mz_A ad 80)) (F0 m 4 ls []) := by
  obtain ⟨hx, hb, hml, hown, hcx, -, -, hSX, -, -, hSK⟩ := id E
  induction k with
  | zero => intro x1 x2 t hf; exact absurd hf (by unfold f_RE_number_4; exact fun h => nomatch h)
  | succ k ih =>
    intro x1 x2 t hf H locs ls w hl
    unfold f_RE_number_4 at hf
    refine lv_aload_n hx hb d_RE_number_4 rfl (lv_at hl 0 rfl) ?_
    refine mz_get E w 6 2 (v := .int (mz_gI t 6 2)) (by decide) rfl rfl ii_3 (by decide) (Nat.le_of_ble_eq_true rfl) k_179 rfl d_RE_number_5 ?_
    refine lv_aload_n hx hb d_RE_number_8 rfl (lv_at hl 0 rfl) ?_
    refine mz_get E w 6 3 (v := .int (mz_gI t 6 3)) (by decide) rfl rfl ii_3 (by decide) (Nat.le_of_ble_eq_true rfl) k_182 rfl d_RE_number_9 ?_
    refine lv_icmp_ge (tgt := 68) hx hb d_RE_number_12 (by decide) (fun hc1 => ?_) (fun hc1 => ?_)
    · have hf := mz_t hc1 hf
      exact b_RE_number_68 E n x1 x2 t hf _ _ _ w (lv_sub hl [0, 1, 2] rfl)
    · have hf := mz_f hc1 hf
      refine lv_aload_n hx hb d_RE_number_15 rfl (lv_at hl 0 rfl) ?_
      refine mz_get E w 6 0 (v := .ref (ad 1)) (by decide) rfl rfl ii_3 (by decide) (Nat.le_of_ble_eq_true rfl) k_177 rfl d_RE_number_16 ?_
      refine lv_aload_n hx hb d_RE_number_19 rfl (lv_at hl 0 rfl) ?_
      refine mz_get E w 6 2 (v := .int (mz_gI t 6 2)) (by decide) rfl rfl ii_3 (by decide) (Nat.le_of_ble_eq_true rfl) k_179 rfl d_RE_number_20 ?_
      obtain ⟨q12, hq13, hf⟩ := mz_bd hf
      refine mz_callV E w (k := 1) (As := [.int (mz_gI t 6 2)]) (rest := []) (c_SI_at hSK l n (mz_gI t 6 2) t q12 hq13) (by decide) rfl rfl k_450 k_2 k_800 k_448 k_449 hm_SI_at ⟨⟨rfl, rfl⟩, Nat.le_of_ble_eq_true rfl, Nat.le_of_ble_eq_true rfl⟩ rfl hl.1 rfl (Nat.le_of_ble_eq_true rfl) d_RE_number_23 ⟨Nat.zero_le _, Nat.zero_le _⟩ (st1 := [.int q12.1]) rfl (fun H locs w => ?_)
      obtain ⟨q14, hq15, hf⟩ := mz_bd hf
      refine mz_callS E w (As := [.int q12.1]) (rest := []) (c_SI_isDigit hSK l n q12.1 q12.2 q14 hq15) k_572 k_2 k_831 k_571 hm_SI_isDigit ⟨⟨rfl, rfl⟩, Nat.le_of_ble_eq_true rfl, Nat.le_of_ble_eq_true rfl⟩ rfl hl.1 rfl (Nat.le_of_ble_eq_true rfl) d_RE_number_26 ⟨Nat.zero_le _, Nat.zero_le _⟩ (st1 := [.int q14.1]) rfl (fun H locs w => ?_)
      refine lv_if_eq (tgt := 68) hx hb d_RE_number_29 (by decide) (fun hc16 => ?_) (fun hc16 => ?_)
      · have hf := mz_t hc16 hf
        exact b_RE_number_68 E n x1 x2 q14.2 hf _ _ _ w (lv_sub hl [0, 1, 2] rfl)
      · have hf := mz_f hc16 hf
        refine lv_iload_n hx hb d_RE_number_32 rfl (lv_at hl 1 rfl) ?_
        refine lv_bipush (v := (10 : Int32)) hx hb d_RE_number_33 (by decide) ?_
        refine lv_imul hx hb d_RE_number_35 ?_
        refine lv_aload_n hx hb d_RE_number_36 rfl (lv_at hl 0 rfl) ?_
        refine mz_get E w 6 0 (v := .ref (ad 1)) (by decide) rfl rfl ii_3 (by decide) (Nat.le_of_ble_eq_true rfl) k_177 rfl d_RE_number_37 ?_
        refine lv_aload_n hx hb d_RE_number_40 rfl (lv_at hl 0 rfl) ?_
        refine mz_get E w 6 2 (v := .int (mz_gI q14.2 6 2)) (by decide) rfl rfl ii_3 (by decide) (Nat.le_of_ble_eq_true rfl) k_179 rfl d_RE_number_41 ?_
        obtain ⟨q17, hq18, hf⟩ := mz_bd hf
        refine mz_callV E w (k := 1) (As := [.int (mz_gI q14.2 6 2)]) (rest := [.int (x1 * (10 : Int32))]) (c_SI_at hSK l n (mz_gI q14.2 6 2) q14.2 q17 hq18) (by decide) rfl rfl k_450 k_2 k_800 k_448 k_449 hm_SI_at ⟨⟨rfl, rfl⟩, Nat.le_of_ble_eq_true rfl, Nat.le_of_ble_eq_true rfl⟩ rfl hl.1 rfl (Nat.le_of_ble_eq_true rfl) d_RE_number_44 ⟨Nat.zero_le _, Nat.zero_le _⟩ (st1 := [.int q17.1, .int (x1 * (10 : Int32))]) rfl (fun H locs w => ?_)
        refine lv_bipush (v := (48 : Int32)) hx hb d_RE_number_47 (by decide) ?_
        refine lv_isub hx hb d_RE_number_49 ?_
        refine lv_iadd hx hb d_RE_number_50 ?_
        refine lv_istore_n (lv' := [(1, .int ((x1 * (10 : Int32)) + (q17.1 - (48 : Int32)))), (0, .ref (ad 6)), (2, .int x2)]) hx hb d_RE_number_51 rfl hl (by decide) rfl (fun ls hl => ?_)
        refine lv_iinc (v := (x2 + (1 : Int32))) (lv' := [(2, .int (x2 + (1 : Int32))), (1, .int ((x1 * (10 : Int32)) + (q17.1 - (48 : Int32)))), (0, .ref (ad 6))]) hx hb d_RE_number_52 hl (k := 2) rfl rfl (by decide) rfl (fun ls hl => ?_)
        refine lv_aload_n hx hb d_RE_number_55 rfl (lv_at hl 2 rfl) ?_
        refine lv_dup hx hb d_RE_number_56 rfl ?_
        refine mz_get E w 6 2 (v := .int (mz_gI q17.2 6 2)) (by decide) rfl rfl ii_3 (by decide) (Nat.le_of_ble_eq_true rfl) k_179 rfl d_RE_number_57 ?_
        refine lv_iconst (v := (1 : Int32)) hx hb d_RE_number_60 (by decide) ?_
        refine lv_iadd hx hb d_RE_number_61 ?_
        refine mz_put E w 6 2 (v := ((mz_gI q17.2 6 2) + (1 : Int32))) (by decide) rfl rfl ii_3 tk_3 nm_3 (by decide) (Nat.le_of_ble_eq_true rfl) k_179 rfl (tk_3 2 (by decide)) rfl rfl rfl d_RE_number_62 (fun H locs w => ?_)
        obtain ⟨t19, e_t19, hf⟩ := mz_lt hf
        rw [← e_t19] at w
        refine lv_goto (tgt := 4) hx hb d_RE_number_65 (by decide) ?_
        exact ih ((x1 * (10 : Int32)) + (q17.1 - (48 : Int32))) (x2 + (1 : Int32)) t19 hf _ _ _ w (lv_sub hl [2, 1, 0] rfl)
set_option maxRecDepth 100000 in
set_option maxHeartbeats 4000000 in
theorem c_RE_number {SX : State → Heap → Prop} {dC : Nat → ClassId} {dI : Nat → Nat → Nat} {ad en : Nat → Nat} {ca : Nat → ClassId} (hSK : mz_SK SX ad 80) (l : Launch) (n : Nat) (t : mz_St) (res : (Int32 × mz_St)) (hf : f_RE_number n t = some res) : mz_C SX mz_tC 80 mz_cl dC dI ad en ca l y_RE_number prog_11_method_14_code 4 (some (.int)) (r_RE_number) [.ref (ad 6)] t (some (.int res.1)) res.2 := by
  unfold f_RE_number at hf
  refine mz_met hSK (by decide) (Nat.le_of_ble_eq_true rfl) ?_
  intro p e s m args below meth c ls E w hl
  obtain ⟨hx, hb, hml, hown, hcx, -, -, hSX, -, -, -⟩ := id E
  have hl : lv_has ls 4 [(0, .ref (ad 6))] := hl
  refine lv_iconst (v := (0 : Int32)) hx hb d_RE_number_0 (by decide) ?_
  refine lv_istore_n (lv' := [(1, .int (0 : Int32)), (0, .ref (ad 6))]) hx hb d_RE_number_1 rfl hl (by decide) rfl (fun ls hl => ?_)
  refine lv_iconst (v := (0 : Int32)) hx hb d_RE_number_2 (by decide) ?_
  refine lv_istore_n (lv' := [(2, .int (0 : Int32)), (1, .int (0 : Int32)), (0, .ref (ad 6))]) hx hb d_RE_number_3 rfl hl (by decide) rfl (fun ls hl => ?_)
  exact b_RE_number_4 E n n (0 : Int32) (0 : Int32) t hf _ _ _ w (lv_sub hl [2, 1, 0] rfl)

/-! MacroHouse$Reader.factor(I)I -/
abbrev r_RE_factorB (d : Nat) : Room := mz_rG 15 550 d
def f_RE_factorB_17 (n : Nat) (fa : Int32 → mz_St → Option (Int32 × mz_St)) (x1 : Int32) (x2 : Int32) (t : mz_St) : Option (Int32 × mz_St) := if x1 < (10 : Int32) then (mz_let (mz_pI t 6 2 ((mz_gI t 6 2) + (1 : Int32))) fun t5 => if x2 = (45 : Int32) then ((fa (x1 + (1 : Int32)) t5).bind fun q9 => some ((-q9.1), q9.2)) else ((f_RE_bracketed n fa (x1 + (1 : Int32)) t5).bind fun q7 => some (q7.1, q7.2))) else ((f_RE_refuse n t).bind fun q11 => some (q11.1, q11.2))
def f_RE_factorB_141 (n : Nat) (fa : Int32 → mz_St → Option (Int32 × mz_St)) (x4 : Int32) (t : mz_St) : Option (Int32 × mz_St) := (f_CN_numberOf n x4 t).bind fun q26 => some (q26.1, q26.2)
def f_RE_factorB (n : Nat) (fa : Int32 → mz_St → Option (Int32 × mz_St)) (x1 : Int32) (t : mz_St) : Option (Int32 × mz_St) := (f_RE_next n t).bind fun q1 => if q1.1 = (45 : Int32) then (f_RE_factorB_17 n fa x1 q1.1 q1.2) else (if q1.1 = (40 : Int32) then (f_RE_factorB_17 n fa x1 q1.1 q1.2) else ((f_SI_isDigit n q1.1 q1.2).bind fun q14 => if q14.1 = 0 then ((f_RE_take n (63 : Int32) q14.2).bind fun q17 => (f_RE_takeWord n q17.2).bind fun q19 => if q19.1 = 0 then ((f_RE_refuse n q19.2).bind fun q31 => some (q31.1, q31.2)) else ((f_NA_find_c n (mz_gI q19.2 6 4) (mz_gI q19.2 6 5) q19.2).bind fun q22 => if q17.1 = 0 then (if q22.1 = (-1 : Int32) then ((f_RE_meet n (3 : Int32) q22.2).bind fun q28 => f_RE_factorB_141 n fa q22.1 q28) else (f_RE_factorB_141 n fa q22.1 q22.2)) else (if q22.1 = (-1 : Int32) then (some ((0 : Int32), q22.2)) else (some ((1 : Int32), q22.2))))) else ((f_RE_number n q14.2).bind fun q33 => some (q33.1, q33.2))))
set_option maxRecDepth 100000 in
set_option maxHeartbeats 4000000 in
theorem b_RE_factorB_17 {SX : State → Heap → Prop} {dC : Nat → ClassId} {dI : Nat → Nat → Nat} {ad en : Nat → Nat} {ca : Nat → ClassId} {p : Program} {l : Launch} {e : Env} {s : State} {m : MethodId} {args : Array Value} {below : List Frame} {meth : Method} {c : Code} {res : (Int32 × mz_St)} (E : mz_En SX 80 mz_cl dC dI ad ca p s m meth c prog_11_method_12_code 5 "MacroHouse$Reader" (some (.int))) (n : Nat) {d : Nat} (fa : Int32 → mz_St → Option (Int32 × mz_St)) (hfa : ∀ (x : Int32) (t : mz_St) (q : Int32 × mz_St), fa x t = some q → mz_C SX mz_tC 80 mz_cl dC dI ad en ca l y_RE_factor prog_11_method_12_code 5 (some (.int)) (mz_rG 10 400 d) [.ref (ad 6), .int x] t (some (.int q.1)) q.2) : ∀ (x1 : Int32) (x2 : Int32) (t : mz_St), f_RE_factorB_17 n fa x1 x2 t = some res → ∀ (H : Heap) (locs : List Loc) (ls : Array Slot), mz_Wd mz_tC 80 mz_cl dC dI ad en ca s t H locs → lv_has ls 5 [(0, .ref (ad 6)), (1, .int x1), (2, .int x2)] → W p l e (r_RE_factorB d) s m args below meth c H locs 0 0 (MQ below (mz_Q SX mz_tC 80 mz_cl dC dI ad en ca (some (.int res.1)) res.2) args s 0 0 (mz_A ad 80)) (F0 m 17 ls []) := by
  obtain ⟨hx, hb, hml, hown, hcx, -, -, hSX, -, -, hSK⟩ := id E
  intro x1 x2 t hf H locs ls w hl
  unfold f_RE_factorB_17 at hf
  refine lv_iload_n hx hb d_RE_factor_17 rfl (lv_at hl 1 rfl) ?_
  refine lv_bipush (v := (10 : Int32)) hx hb d_RE_factor_18 (by decide) ?_
  refine lv_icmp_lt (tgt := 28) hx hb d_RE_factor_20 (by decide) (fun hc4 => ?_) (fun hc4 => ?_)
  · have hf := mz_t hc4 hf
    refine lv_aload_n hx hb d_RE_factor_28 rfl (lv_at hl 0 rfl) ?_
    refine lv_dup hx hb d_RE_factor_29 rfl ?_
    refine mz_get E w 6 2 (v := .int (mz_gI t 6 2)) (by decide) rfl rfl ii_3 (by decide) (Nat.le_of_ble_eq_true rfl) k_179 rfl d_RE_factor_30 ?_
    refine lv_iconst (v := (1 : Int32)) hx hb d_RE_factor_33 (by decide) ?_
    refine lv_iadd hx hb d_RE_factor_34 ?_
    refine mz_put E w 6 2 (v := ((mz_gI t 6 2) + (1 : Int32))) (by decide) rfl rfl ii_3 tk_3 nm_3 (by decide) (Nat.le_of_ble_eq_true rfl) k_179 rfl (tk_3 2 (by decide)) rfl rfl rfl d_RE_factor_35 (fun H locs w => ?_)
    obtain ⟨t5, e_t5, hf⟩ := mz_lt hf
    rw [← e_t5] at w
    refine lv_iload_n hx hb d_RE_factor_38 rfl (lv_at hl 2 rfl) ?_
    refine lv_bipush (v := (45 : Int32)) hx hb d_RE_factor_39 (by decide) ?_
    refine lv_icmp_ne (tgt := 55) hx hb d_RE_factor_41 (by decide) (fun hc6 => ?_) (fun hc6 => ?_)
    · have hf := mz_f hc6 hf
      refine lv_aload_n hx hb d_RE_factor_55 rfl (lv_at hl 0 rfl) ?_
      refine lv_iload_n hx hb d_RE_factor_56 rfl (lv_at hl 1 rfl) ?_
      refine lv_iconst (v := (1 : Int32)) hx hb d_RE_factor_57 (by decide) ?_
      refine lv_iadd hx hb d_RE_factor_58 ?_
      obtain ⟨q7, hq8, hf⟩ := mz_bd hf
      refine mz_callV E w (k := 6) (As := [.int (x1 + (1 : Int32))]) (rest := []) (c_RE_bracketed hSK l n fa hfa (x1 + (1 : Int32)) t5 q7 hq8) (by decide) rfl rfl k_828 k_11 k_825 k_827 ks_25 hm_RE_bracketed ⟨⟨rfl, rfl⟩, by show 5 * d + 14 + 1 ≤ 5 * d + 15; omega, by show 8 + (3 + 11) + (150 * d + 520) ≤ 150 * d + 550; omega⟩ rfl hl.1 rfl (Nat.le_of_ble_eq_true rfl) d_RE_factor_59 ⟨Nat.zero_le _, Nat.zero_le _⟩ (st1 := [.int q7.1]) rfl (fun H locs w => ?_)
      obtain rfl := Option.some.inj hf
      exact mz_iret E w rfl d_RE_factor_62
    · have hf := mz_t hc6 hf
      refine lv_aload_n hx hb d_RE_factor_44 rfl (lv_at hl 0 rfl) ?_
      refine lv_iload_n hx hb d_RE_factor_45 rfl (lv_at hl 1 rfl) ?_
      refine lv_iconst (v := (1 : Int32)) hx hb d_RE_factor_46 (by decide) ?_
      refine lv_iadd hx hb d_RE_factor_47 ?_
      obtain ⟨q9, hq10, hf⟩ := mz_bd hf
      refine mz_callV E w (k := 6) (As := [.int (x1 + (1 : Int32))]) (rest := []) (hfa (x1 + (1 : Int32)) t5 q9 hq10) (by decide) rfl rfl k_816 k_11 k_813 k_815 ks_23 hm_RE_factor ⟨⟨rfl, rfl⟩, by show 5 * d + 10 + 1 ≤ 5 * d + 15; omega, by show 8 + (5 + 11) + (150 * d + 400) ≤ 150 * d + 550; omega⟩ rfl hl.1 rfl (Nat.le_of_ble_eq_true rfl) d_RE_factor_48 ⟨Nat.zero_le _, Nat.zero_le _⟩ (st1 := [.int q9.1]) rfl (fun H locs w => ?_)
      refine lv_ineg hx hb d_RE_factor_51 ?_
      refine lv_goto (tgt := 62) hx hb d_RE_factor_52 (by decide) ?_
      obtain rfl := Option.some.inj hf
      exact mz_iret E w rfl d_RE_factor_62
  · have hf := mz_f hc4 hf
    refine lv_aload_n hx hb d_RE_factor_23 rfl (lv_at hl 0 rfl) ?_
    obtain ⟨q11, hq12, hf⟩ := mz_bd hf
    refine mz_callV E w (k := 6) (As := []) (rest := []) (c_RE_refuse hSK l n t q11 hq12) (by decide) rfl rfl k_824 k_11 k_821 k_823 ks_24 hm_RE_refuse ⟨⟨rfl, rfl⟩, by show 0 + 1 ≤ 5 * d + 15; omega, by show 8 + (1 + 11) + (0) ≤ 150 * d + 550; omega⟩ rfl hl.1 rfl (Nat.le_of_ble_eq_true rfl) d_RE_factor_24 ⟨Nat.zero_le _, Nat.zero_le _⟩ (st1 := [.int q11.1]) rfl (fun H locs w => ?_)
    obtain rfl := Option.some.inj hf
    exact mz_iret E w rfl d_RE_factor_27
set_option maxRecDepth 100000 in
set_option maxHeartbeats 4000000 in
theorem b_RE_factorB_141 {SX : State → Heap → Prop} {dC : Nat → ClassId} {dI : Nat → Nat → Nat} {ad en : Nat → Nat} {ca : Nat → ClassId} {p : Program} {l : Launch} {e : Env} {s : State} {m : MethodId} {args : Array Value} {below : List Frame} {meth : Method} {c : Code} {res : (Int32 × mz_St)} (E : mz_En SX 80 mz_cl dC dI ad ca p s m meth c prog_11_method_12_code 5 "MacroHouse$Reader" (some (.int))) (n : Nat) {d : Nat} (fa : Int32 → mz_St → Option (Int32 × mz_St)) (hfa : ∀ (x : Int32) (t : mz_St) (q : Int32 × mz_St), fa x t = some q → mz_C SX mz_tC 80 mz_cl dC dI ad en ca l y_RE_factor prog_11_method_12_code 5 (some (.int)) (mz_rG 10 400 d) [.ref (ad 6), .int x] t (some (.int q.1)) q.2) : ∀ (x4 : Int32) (t : mz_St), f_RE_factorB_141 n fa x4 t = some res → ∀ (H : Heap) (locs : List Loc) (ls : Array Slot), mz_Wd mz_tC 80 mz_cl dC dI ad en ca s t H locs → lv_has ls 5 [(0, .ref (ad 6)), (4, .int x4)] → W p l e (r_RE_factorB d) s m args below meth c H locs 0 0 (MQ below (mz_Q SX mz_tC 80 mz_cl dC dI ad en ca (some (.int res.1)) res.2) args s 0 0 (mz_A ad 80)) (F0 m 141 ls []) := by
  obtain ⟨hx, hb, hml, hown, hcx, -, -, hSX, -, -, hSK⟩ := id E
  intro x4 t hf H locs ls w hl
  unfold f_RE_factorB_141 at hf
  refine lv_aload_n hx hb d_RE_factor_141 rfl (lv_at hl 0 rfl) ?_
  refine mz_get E w 6 1 (v := .ref (ad 13)) (by decide) rfl rfl ii_3 (by decide) (Nat.le_of_ble_eq_true rfl) k_178 rfl d_RE_factor_142 ?_
  refine lv_iload hx hb d_RE_factor_145 (lv_at hl 1 rfl) ?_
  obtain ⟨q26, hq27, hf⟩ := mz_bd hf
  refine mz_callV E w (k := 13) (As := [.int x4]) (rest := []) (c_CN_numberOf hSK l n x4 t q26 hq27) (by decide) rfl rfl k_846 k_8 k_843 k_844 k_845 hm_CN_numberOf ⟨⟨rfl, rfl⟩, by show 0 + 1 ≤ 5 * d + 15; omega, by show 8 + (2 + 11) + (0) ≤ 150 * d + 550; omega⟩ rfl hl.1 rfl (Nat.le_of_ble_eq_true rfl) d_RE_factor_147 ⟨Nat.zero_le _, Nat.zero_le _⟩ (st1 := [.int q26.1]) rfl (fun H locs w => ?_)
  obtain rfl := Option.some.inj hf
  exact mz_iret E w rfl d_RE_factor_150
set_option maxRecDepth 100000 in
set_option maxHeartbeats 4000000 in
theorem c_RE_factorB {SX : State → Heap → Prop} {dC : Nat → ClassId} {dI : Nat → Nat → Nat} {ad en : Nat → Nat} {ca : Nat → ClassId} (hSK : mz_SK SX ad 80) (l : Launch) (n : Nat) {d : Nat} (fa : Int32 → mz_St → Option (Int32 × mz_St)) (hfa : ∀ (x : Int32) (t : mz_St) (q : Int32 × mz_St), fa x t = some q → mz_C SX mz_tC 80 mz_cl dC dI ad en ca l y_RE_factor prog_11_method_12_code 5 (some (.int)) (mz_rG 10 400 d) [.ref (ad 6), .int x] t (some (.int q.1)) q.2) (x1 : Int32) (t : mz_St) (res : (Int32 × mz_St)) (hf : f_RE_factorB n fa x1 t = some res) : mz_C SX mz_tC 80 mz_cl dC dI ad en ca l y_RE_factor prog_11_method_12_code 5 (some (.int)) (r_RE_factorB d) [.ref (ad 6), .int x1] t (some (.int res.1)) res.2 := by
  unfold f_RE_factorB at hf
  refine mz_met hSK (by decide) (Nat.le_of_ble_eq_true rfl) ?_
  intro p e s m args below meth c ls E w hl
  obtain ⟨hx, hb, hml, hown, hcx, -, -, hSX, -, -, -⟩ := id E
  have hl : lv_has ls 5 [(0, .ref (ad 6)), (1, .int x1)] := hl
  refine lv_aload_n hx hb d_RE_factor_0 rfl (lv_at hl 0 rfl) ?_
  obtain ⟨q1, hq2, hf⟩ := mz_bd hf
  refine mz_callV E w (k := 6) (As := []) (rest := []) (c_RE_next hSK l n t q1 hq2) (by decide) rfl rfl k_820 k_11 k_817 k_818 k_819 hm_RE_next ⟨⟨rfl, rfl⟩, by show 1 + 1 ≤ 5 * d + 15; omega, by show 8 + (1 + 11) + (23) ≤ 150 * d + 550; omega⟩ rfl hl.1 rfl (Nat.le_of_ble_eq_true rfl) d_RE_factor_1 ⟨Nat.zero_le _, Nat.zero_le _⟩ (st1 := [.int q1.1]) rfl (fun H locs w => ?_)
  refine lv_istore_n (lv' := [(2, .int q1.1), (0, .ref (ad 6)), (1, .int x1)]) hx hb d_RE_factor_4 rfl hl (by decide) rfl (fun ls hl => ?_)
  refine lv_iload_n hx hb d_RE_factor_5 rfl (lv_at hl 0 rfl) ?_
  refine lv_bipush (v := (45 : Int32)) hx hb d_RE_factor_6 (by decide) ?_
  refine lv_icmp_eq (tgt := 17) hx hb d_RE_factor_8 (by decide) (fun hc3 => ?_) (fun hc3 => ?_)
  · have hf := mz_t hc3 hf
    exact b_RE_factorB_17 E n fa hfa x1 q1.1 q1.2 hf _ _ _ w (lv_sub hl [1, 2, 0] rfl)
  · have hf := mz_f hc3 hf
    refine lv_iload_n hx hb d_RE_factor_11 rfl (lv_at hl 0 rfl) ?_
    refine lv_bipush (v := (40 : Int32)) hx hb d_RE_factor_12 (by decide) ?_
    refine lv_icmp_ne (tgt := 63) hx hb d_RE_factor_14 (by decide) (fun hc13 => ?_) (fun hc13 => ?_)
    · have hf := mz_f hc13 hf
      refine lv_iload_n hx hb d_RE_factor_63 rfl (lv_at hl 0 rfl) ?_
      obtain ⟨q14, hq15, hf⟩ := mz_bd hf
      refine mz_callS E w (As := [.int q1.1]) (rest := []) (c_SI_isDigit hSK l n q1.1 q1.2 q14 hq15) k_572 k_2 k_831 k_571 hm_SI_isDigit ⟨⟨rfl, rfl⟩, by show 0 + 1 ≤ 5 * d + 15; omega, by show 8 + (1 + 11) + (0) ≤ 150 * d + 550; omega⟩ rfl hl.1 rfl (Nat.le_of_ble_eq_true rfl) d_RE_factor_64 ⟨Nat.zero_le _, Nat.zero_le _⟩ (st1 := [.int q14.1]) rfl (fun H locs w => ?_)
      refine lv_if_eq (tgt := 75) hx hb d_RE_factor_67 (by decide) (fun hc16 => ?_) (fun hc16 => ?_)
      · have hf := mz_t hc16 hf
        refine lv_aload_n hx hb d_RE_factor_75 rfl (lv_at hl 1 rfl) ?_
        refine lv_bipush (v := (63 : Int32)) hx hb d_RE_factor_76 (by decide) ?_
        obtain ⟨q17, hq18, hf⟩ := mz_bd hf
        refine mz_callV E w (k := 6) (As := [.int (63 : Int32)]) (rest := []) (c_RE_take hSK l n (63 : Int32) q14.2 q17 hq18) (by decide) rfl rfl k_799 k_11 k_830 k_797 k_798 hm_RE_take ⟨⟨rfl, rfl⟩, by show 1 + 1 ≤ 5 * d + 15; omega, by show 8 + (2 + 11) + (23) ≤ 150 * d + 550; omega⟩ rfl hl.1 rfl (Nat.le_of_ble_eq_true rfl) d_RE_factor_78 ⟨Nat.zero_le _, Nat.zero_le _⟩ (st1 := [.int q17.1]) rfl (fun H locs w => ?_)
        refine lv_istore_n (lv' := [(3, .int q17.1), (2, .int q1.1), (0, .ref (ad 6)), (1, .int x1)]) hx hb d_RE_factor_81 rfl hl (by decide) rfl (fun ls hl => ?_)
        refine lv_aload_n hx hb d_RE_factor_82 rfl (lv_at hl 2 rfl) ?_
        obtain ⟨q19, hq20, hf⟩ := mz_bd hf
        refine mz_callV E w (k := 6) (As := []) (rest := []) (c_RE_takeWord hSK l n q17.2 q19 hq20) (by decide) rfl rfl k_793 k_11 k_837 k_791 k_792 hm_RE_takeWord ⟨⟨rfl, rfl⟩, by show 2 + 1 ≤ 5 * d + 15; omega, by show 8 + (1 + 11) + (44) ≤ 150 * d + 550; omega⟩ rfl hl.1 rfl (Nat.le_of_ble_eq_true rfl) d_RE_factor_83 ⟨Nat.zero_le _, Nat.zero_le _⟩ (st1 := [.int q19.1]) rfl (fun H locs w => ?_)
        refine lv_if_ne (tgt := 94) hx hb d_RE_factor_86 (by decide) (fun hc21 => ?_) (fun hc21 => ?_)
        · have hf := mz_f hc21 hf
          refine lv_aload_n hx hb d_RE_factor_94 rfl (lv_at hl 2 rfl) ?_
          refine mz_get E w 6 1 (v := .ref (ad 13)) (by decide) rfl rfl ii_3 (by decide) (Nat.le_of_ble_eq_true rfl) k_178 rfl d_RE_factor_95 ?_
          refine mz_get E w 13 0 (v := .ref (ad 15)) (by decide) rfl rfl ii_5 (by decide) (Nat.le_of_ble_eq_true rfl) k_164 rfl d_RE_factor_98 ?_
          refine lv_aload_n hx hb d_RE_factor_101 rfl (lv_at hl 2 rfl) ?_
          refine mz_get E w 6 4 (v := .int (mz_gI q19.2 6 4)) (by decide) rfl rfl ii_3 (by decide) (Nat.le_of_ble_eq_true rfl) k_185 rfl d_RE_factor_102 ?_
          refine lv_aload_n hx hb d_RE_factor_105 rfl (lv_at hl 2 rfl) ?_
          refine mz_get E w 6 5 (v := .int (mz_gI q19.2 6 5)) (by decide) rfl rfl ii_3 (by decide) (Nat.le_of_ble_eq_true rfl) k_188 rfl d_RE_factor_106 ?_
          obtain ⟨q22, hq23, hf⟩ := mz_bd hf
          refine mz_callV E w (k := 15) (As := [.int (mz_gI q19.2 6 4), .int (mz_gI q19.2 6 5)]) (rest := []) (c_NA_find_c hSK l n (mz_gI q19.2 6 4) (mz_gI q19.2 6 5) q19.2 q22 hq23) (by decide) rfl rfl k_731 k_9 k_838 k_729 k_730 hm_NA_find ⟨⟨rfl, rfl⟩, by show 2 + 1 ≤ 5 * d + 15; omega, by show 8 + (4 + 11) + (47) ≤ 150 * d + 550; omega⟩ rfl hl.1 rfl (Nat.le_of_ble_eq_true rfl) d_RE_factor_109 ⟨Nat.zero_le _, Nat.zero_le _⟩ (st1 := [.int q22.1]) rfl (fun H locs w => ?_)
          refine lv_istore (lv' := [(4, .int q22.1), (3, .int q17.1), (2, .int q1.1), (0, .ref (ad 6)), (1, .int x1)]) hx hb d_RE_factor_112 hl (by decide) rfl (fun ls hl => ?_)
          refine lv_iload_n hx hb d_RE_factor_114 rfl (lv_at hl 1 rfl) ?_
          refine lv_if_eq (tgt := 130) hx hb d_RE_factor_115 (by decide) (fun hc24 => ?_) (fun hc24 => ?_)
          · have hf := mz_t hc24 hf
            refine lv_iload hx hb d_RE_factor_130 (lv_at hl 0 rfl) ?_
            refine lv_iconst (v := (-1 : Int32)) hx hb d_RE_factor_132 (by decide) ?_
            refine lv_icmp_ne (tgt := 141) hx hb d_RE_factor_133 (by decide) (fun hc25 => ?_) (fun hc25 => ?_)
            · have hf := mz_f hc25 hf
              exact b_RE_factorB_141 E n fa hfa q22.1 q22.2 hf _ _ _ w (lv_sub hl [3, 0] rfl)
            · have hf := mz_t hc25 hf
              refine lv_aload_n hx hb d_RE_factor_136 rfl (lv_at hl 3 rfl) ?_
              refine lv_iconst (v := (3 : Int32)) hx hb d_RE_factor_137 (by decide) ?_
              obtain ⟨q28, hq29, hf⟩ := mz_bd hf
              refine mz_callV E w (k := 6) (As := [.int (3 : Int32)]) (rest := []) (c_RE_meet hSK l n (3 : Int32) q22.2 q28 hq29) (by decide) rfl rfl k_842 k_11 k_839 k_841 ks_27 hm_RE_meet ⟨⟨rfl, rfl⟩, by show 0 + 1 ≤ 5 * d + 15; omega, by show 8 + (2 + 11) + (0) ≤ 150 * d + 550; omega⟩ rfl hl.1 rfl (Nat.le_of_ble_eq_true rfl) d_RE_factor_138 ⟨Nat.zero_le _, Nat.zero_le _⟩ (st1 := []) rfl (fun H locs w => ?_)
              exact b_RE_factorB_141 E n fa hfa q22.1 q28 hf _ _ _ w (lv_sub hl [3, 0] rfl)
          · have hf := mz_f hc24 hf
            refine lv_iload hx hb d_RE_factor_118 (lv_at hl 0 rfl) ?_
            refine lv_iconst (v := (-1 : Int32)) hx hb d_RE_factor_120 (by decide) ?_
            refine lv_icmp_ne (tgt := 128) hx hb d_RE_factor_121 (by decide) (fun hc30 => ?_) (fun hc30 => ?_)
            · have hf := mz_f hc30 hf
              refine lv_iconst (v := (1 : Int32)) hx hb d_RE_factor_128 (by decide) ?_
              obtain rfl := Option.some.inj hf
              exact mz_iret E w rfl d_RE_factor_129
            · have hf := mz_t hc30 hf
              refine lv_iconst (v := (0 : Int32)) hx hb d_RE_factor_124 (by decide) ?_
              refine lv_goto (tgt := 129) hx hb d_RE_factor_125 (by decide) ?_
              obtain rfl := Option.some.inj hf
              exact mz_iret E w rfl d_RE_factor_129
        · have hf := mz_t hc21 hf
          refine lv_aload_n hx hb d_RE_factor_89 rfl (lv_at hl 2 rfl) ?_
          obtain ⟨q31, hq32, hf⟩ := mz_bd hf
          refine mz_callV E w (k := 6) (As := []) (rest := []) (c_RE_refuse hSK l n q19.2 q31 hq32) (by decide) rfl rfl k_824 k_11 k_821 k_823 ks_24 hm_RE_refuse ⟨⟨rfl, rfl⟩, by show 0 + 1 ≤ 5 * d + 15; omega, by show 8 + (1 + 11) + (0) ≤ 150 * d + 550; omega⟩ rfl hl.1 rfl (Nat.le_of_ble_eq_true rfl) d_RE_factor_90 ⟨Nat.zero_le _, Nat.zero_le _⟩ (st1 := [.int q31.1]) rfl (fun H locs w => ?_)
          obtain rfl := Option.some.inj hf
          exact mz_iret E w rfl d_RE_factor_93
      · have hf := mz_f hc16 hf
        refine lv_aload_n hx hb d_RE_factor_70 rfl (lv_at hl 1 rfl) ?_
        obtain ⟨q33, hq34, hf⟩ := mz_bd hf
        refine mz_callV E w (k := 6) (As := []) (rest := []) (c_RE_number hSK l n q14.2 q33 hq34) (by decide) rfl rfl k_835 k_11 k_832 k_834 ks_26 hm_RE_number ⟨⟨rfl, rfl⟩, by show 1 + 1 ≤ 5 * d + 15; omega, by show 8 + (4 + 11) + (21) ≤ 150 * d + 550; omega⟩ rfl hl.1 rfl (Nat.le_of_ble_eq_true rfl) d_RE_factor_71 ⟨Nat.zero_le _, Nat.zero_le _⟩ (st1 := [.int q33.1]) rfl (fun H locs w => ?_)
        obtain rfl := Option.some.inj hf
        exact mz_iret E w rfl d_RE_factor_74
    · have hf := mz_t hc13 hf
      exact b_RE_factorB_17 E n fa hfa x1 q1.1 q1.2 hf _ _ _ w (lv_sub hl [1, 2, 0] rfl)
def f_RE_factor (n : Nat) : Nat → Int32 → mz_St → Option (Int32 × mz_St)
  | 0, _, _ => none
  | d + 1, x, t => f_RE_factorB n (f_RE_factor n d) x t
theorem c_RE_factor {SX : State → Heap → Prop} {dC : Nat → ClassId} {dI : Nat → Nat → Nat} {ad en : Nat → Nat} {ca : Nat → ClassId} (hSK : mz_SK SX ad 80) (l : Launch) (n d : Nat) : ∀ (x : Int32) (t : mz_St) (q : Int32 × mz_St), f_RE_factor n d x t = some q → mz_C SX mz_tC 80 mz_cl dC dI ad en ca l y_RE_factor prog_11_method_12_code 5 (some (.int)) (mz_rG 10 400 d) [.ref (ad 6), .int x] t (some (.int q.1)) q.2 := by
  induction d with
  | zero => intro x t q hf; exact nomatch hf
  | succ d ih =>
    intro x t q hf
    have h := c_RE_factorB hSK l n (f_RE_factor n d) ih x t q hf
    have e : mz_rG 15 550 d = mz_rG 10 400 (d + 1) := by
      unfold mz_rG
      congr 1 <;> omega
    rw [show r_RE_factorB d = mz_rG 10 400 (d + 1) from e] at h
    exact h
