/-! MacroHouseModel.word()V -/
abbrev r_MO_word : Room := { frames := 2, cells := 0, slots := 0, locals := 40 }
def f_MO_word_155 (n : Nat) (s1 : Int32) (t : mz_St) : Option mz_St := if s1 = 0 ∨ s1 = 1 then (mz_let (mz_pI t 0 62 s1) fun t13 => some t13) else none
def f_MO_word_154 (n : Nat) (t : mz_St) : Option mz_St := f_MO_word_155 n (0 : Int32) t
def f_MO_word_132 (n : Nat) (x1 : Int32) (t : mz_St) : Option mz_St := if (mz_gI t 0 62) = 0 then (f_MO_word_154 n  t) else ((f_MO_in n x1 (1 : Int32) (12 : Int32) t).bind fun q14 => if q14.1 = 0 then (f_MO_word_154 n  q14.2) else (f_MO_word_155 n (1 : Int32) q14.2))
def f_MO_word_113 (n : Nat) (K16 : Int32 → mz_St → Option mz_St) (x1 : Int32) (s1 : Int64) (t : mz_St) : Option mz_St := mz_let (mz_pL t 0 66 s1) fun t20 => mz_let (mz_pI t20 0 61 ((mz_gI t20 0 61) + (1 : Int32))) fun t21 => K16 (x1 + (1 : Int32)) t21
def f_MO_word_109 (n : Nat) (K16 : Int32 → mz_St → Option mz_St) (x1 : Int32) (t : mz_St) : Option mz_St := f_MO_word_113 n K16 x1 (mz_gL t 0 66) t
def f_MO_word_72 (n : Nat) (K16 : Int32 → mz_St → Option mz_St) (x1 : Int32) (s1 : Int64) (t : mz_St) : Option mz_St := mz_let (mz_pL t 0 65 s1) fun t18 => if x1 < (8 : Int32) then (f_MO_word_109 n K16 x1 t18) else (if (12 : Int32) ≤ x1 then (f_MO_word_109 n K16 x1 t18) else ((f_MO_here n t18).bind fun q23 => f_MO_word_113 n K16 x1 ((mz_gL t18 0 66) ||| (q23.1.toInt64 <<< (((8 : Int32) * (x1 - (8 : Int32))).toInt64 &&& 63))) q23.2))
def f_MO_word_43 (n : Nat) (K16 : Int32 → mz_St → Option mz_St) (x1 : Int32) (t : mz_St) : Option mz_St := if (8 : Int32) ≤ x1 then (f_MO_word_72 n K16 x1 (mz_gL t 0 65) t) else ((f_MO_here n t).bind fun q25 => f_MO_word_72 n K16 x1 ((mz_gL t 0 65) ||| (q25.1.toInt64 <<< (((8 : Int32) * x1).toInt64 &&& 63))) q25.2)
def f_MO_word_16 (n : Nat) : Nat → Int32 → mz_St → Option mz_St
  | 0, _, _ => none
  | k + 1, x1, t => if x1 = 0 then ((f_MO_here n t).bind fun q27 => (f_MO_isBegin n q27.1 q27.2).bind fun q29 => if q29.1 = 0 then (f_MO_word_132 n x1 q29.2) else (f_MO_word_43 n (f_MO_word_16 n k) x1 q29.2)) else ((f_MO_here n t).bind fun q6 => (f_MO_isWordSign n q6.1 q6.2).bind fun q8 => if q8.1 = 0 then (f_MO_word_132 n x1 q8.2) else (f_MO_word_43 n (f_MO_word_16 n k) x1 q8.2))
def f_MO_word (n : Nat) (t : mz_St) : Option mz_St := (f_MO_blanks n t).bind fun q1 => mz_let (mz_pL q1 0 65 (0 : Int64)) fun t3 => mz_let (mz_pL t3 0 66 (0 : Int64)) fun t4 => f_MO_word_16 n n (0 : Int32) t4
set_option maxRecDepth 100000 in
set_option maxHeartbeats 4000000 in
theorem b_MO_word_155 {SX : State → Heap → Prop} {dC : Nat → ClassId} {dI : Nat → Nat → Nat} {ad en : Nat → Nat} {ca : Nat → ClassId} {p : Program} {l : Launch} {e : Env} {s : State} {m : MethodId} {args : Array Value} {below : List Frame} {meth : Method} {c : Code} {res : mz_St} (E : mz_En SX 55 mz_cl dC dI ad ca p s m meth c prog_15_method_25_code 2 "MacroHouseModel" none) (n : Nat) : ∀ (s1 : Int32) (t : mz_St), f_MO_word_155 n s1 t = some res → ∀ (H : Heap) (locs : List Loc) (ls : Array Slot), mz_Wd mz_tM 55 mz_cl dC dI ad en ca s t H locs → lv_has ls 2 [] → W p l e (r_MO_word) s m args below meth c H locs 0 0 (MQ below (mz_Q SX mz_tM 55 mz_cl dC dI ad en ca none res) args s 0 0 (mz_A ad 55)) (F0 m 155 ls [.int s1, .ref (ad 0)]) := by
  obtain ⟨hx, hb, hml, hown, hcx, -, -, hSX, -, -, hSK⟩ := id E
  intro s1 t hf H locs ls w hl
  unfold f_MO_word_155 at hf
  obtain ⟨hz12, hf⟩ := mz_gd hf
  refine mz_put E w 0 62 (v := s1) (by decide) rfl rfl ii_11 tk_11 nm_11 (by decide) (Nat.le_of_ble_eq_true rfl) k_1245 rfl (tk_11 62 (by decide)) rfl (mz_b01 hz12) (mz_f01 hz12) d_MO_word_155 (fun H locs w => ?_)
  obtain ⟨t13, e_t13, hf⟩ := mz_lt hf
  rw [← e_t13] at w
  obtain rfl := Option.some.inj hf
  exact mz_vret E w rfl d_MO_word_158
set_option maxRecDepth 100000 in
set_option maxHeartbeats 4000000 in
theorem b_MO_word_154 {SX : State → Heap → Prop} {dC : Nat → ClassId} {dI : Nat → Nat → Nat} {ad en : Nat → Nat} {ca : Nat → ClassId} {p : Program} {l : Launch} {e : Env} {s : State} {m : MethodId} {args : Array Value} {below : List Frame} {meth : Method} {c : Code} {res : mz_St} (E : mz_En SX 55 mz_cl dC dI ad ca p s m meth c prog_15_method_25_code 2 "MacroHouseModel" none) (n : Nat) : ∀ (t : mz_St), f_MO_word_154 n t = some res → ∀ (H : Heap) (locs : List Loc) (ls : Array Slot), mz_Wd mz_tM 55 mz_cl dC dI ad en ca s t H locs → lv_has ls 2 [] → W p l e (r_MO_word) s m args below meth c H locs 0 0 (MQ below (mz_Q SX mz_tM 55 mz_cl dC dI ad en ca none res) args s 0 0 (mz_A ad 55)) (F0 m 154 ls [.ref (ad 0)]) := by
  obtain ⟨hx, hb, hml, hown, hcx, -, -, hSX, -, -, hSK⟩ := id E
  intro t hf H locs ls w hl
  unfold f_MO_word_154 at hf
  refine lv_iconst (v := (0 : Int32)) hx hb d_MO_word_154 (by decide) ?_
  exact b_MO_word_155 E n (0 : Int32) t hf _ _ _ w (lv_sub hl [] rfl)
set_option maxRecDepth 100000 in
set_option maxHeartbeats 4000000 in
theorem b_MO_word_132 {SX : State → Heap → Prop} {dC : Nat → ClassId} {dI : Nat → Nat → Nat} {ad en : Nat → Nat} {ca : Nat → ClassId} {p : Program} {l : Launch} {e : Env} {s : State} {m : MethodId} {args : Array Value} {below : List Frame} {meth : Method} {c : Code} {res : mz_St} (E : mz_En SX 55 mz_cl dC dI ad ca p s m meth c prog_15_method_25_code 2 "MacroHouseModel" none) (n : Nat) : ∀ (x1 : Int32) (t : mz_St), f_MO_word_132 n x1 t = some res → ∀ (H : Heap) (locs : List Loc) (ls : Array Slot), mz_Wd mz_tM 55 mz_cl dC dI ad en ca s t H locs → lv_has ls 2 [(0, .ref (ad 0)), (1, .int x1)] → W p l e (r_MO_word) s m args below meth c H locs 0 0 (MQ below (mz_Q SX mz_tM 55 mz_cl dC dI ad en ca none res) args s 0 0 (mz_A ad 55)) (F0 m 132 ls []) := by
  obtain ⟨hx, hb, hml, hown, hcx, -, -, hSX, -, -, hSK⟩ := id E
  intro x1 t hf H locs ls w hl
  unfold f_MO_word_132 at hf
  refine lv_aload_n hx hb d_MO_word_132 rfl (lv_at hl 0 rfl) ?_
  refine lv_aload_n hx hb d_MO_word_133 rfl (lv_at hl 0 rfl) ?_
  refine mz_get E w 0 62 (v := .int (mz_gI t 0 62)) (by decide) rfl rfl ii_11 (by decide) (Nat.le_of_ble_eq_true rfl) k_1245 rfl d_MO_word_134 ?_
  refine lv_if_eq (tgt := 154) hx hb d_MO_word_137 (by decide) (fun hc11 => ?_) (fun hc11 => ?_)
  · have hf := mz_t hc11 hf
    exact b_MO_word_154 E n  t hf _ _ _ w (lv_sub hl [] rfl)
  · have hf := mz_f hc11 hf
    refine lv_iload_n hx hb d_MO_word_140 rfl (lv_at hl 1 rfl) ?_
    refine lv_iconst (v := (1 : Int32)) hx hb d_MO_word_141 (by decide) ?_
    refine lv_bipush (v := (12 : Int32)) hx hb d_MO_word_142 (by decide) ?_
    obtain ⟨q14, hq15, hf⟩ := mz_bd hf
    refine mz_callS E w (As := [.int x1, .int (1 : Int32), .int (12 : Int32)]) (rest := [.ref (ad 0)]) (c_MO_in hSK l n x1 (1 : Int32) (12 : Int32) t q14 hq15) k_1435 k_15 k_1433 k_1434 hm_MO_in ⟨⟨rfl, rfl⟩, Nat.le_of_ble_eq_true rfl, Nat.le_of_ble_eq_true rfl⟩ rfl hl.1 rfl (Nat.le_of_ble_eq_true rfl) d_MO_word_144 ⟨Nat.zero_le _, Nat.zero_le _⟩ (st1 := [.int q14.1, .ref (ad 0)]) rfl (fun H locs w => ?_)
    refine lv_if_eq (tgt := 154) hx hb d_MO_word_147 (by decide) (fun hc16 => ?_) (fun hc16 => ?_)
    · have hf := mz_t hc16 hf
      exact b_MO_word_154 E n  q14.2 hf _ _ _ w (lv_sub hl [] rfl)
    · have hf := mz_f hc16 hf
      refine lv_iconst (v := (1 : Int32)) hx hb d_MO_word_150 (by decide) ?_
      refine lv_goto (tgt := 155) hx hb d_MO_word_151 (by decide) ?_
      exact b_MO_word_155 E n (1 : Int32) q14.2 hf _ _ _ w (lv_sub hl [] rfl)
set_option maxRecDepth 100000 in
set_option maxHeartbeats 4000000 in
theorem b_MO_word_113 {SX : State → Heap → Prop} {dC : Nat → ClassId} {dI : Nat → Nat → Nat} {ad en : Nat → Nat} {ca : Nat → ClassId} {p : Program} {l : Launch} {e : Env} {s : State} {m : MethodId} {args : Array Value} {below : List Frame} {meth : Method} {c : Code} {res : mz_St} (E : mz_En SX 55 mz_cl dC dI ad ca p s m meth c prog_15_method_25_code 2 "MacroHouseModel" none) (n : Nat) (K16 : Int32 → mz_St → Option mz_St) (hK16 : ∀ (x1 : Int32) (t : mz_St), K16 x1 t = some res → ∀ (H : Heap) (locs : List Loc) (ls : Array Slot), mz_Wd mz_tM 55 mz_cl dC dI ad en ca s t H locs → lv_has ls 2 [(0, .ref (ad 0)), (1, .int x1)] → W p l e (r_MO_word) s m args below meth c H locs 0 0 (MQ below (mz_Q SX mz_tM 55 mz_cl dC dI ad en ca none res) args s 0 0 (mz_A ad 55)) (F0 m 16 ls [])) : ∀ (x1 : Int32) (s1 : Int64) (t : mz_St), f_MO_word_113 n K16 x1 s1 t = some res → ∀ (H : Heap) (locs : List Loc) (ls : Array Slot), mz_Wd mz_tM 55 mz_cl dC dI ad en ca s t H locs → lv_has ls 2 [(0, .ref (ad 0)), (1, .int x1)] → W p l e (r_MO_word) s m args below meth c H locs 0 0 (MQ below (mz_Q SX mz_tM 55 mz_cl dC dI ad en ca none res) args s 0 0 (mz_A ad 55)) (F0 m 113 ls [.long s1, .ref (ad 0)]) := by
  obtain ⟨hx, hb, hml, hown, hcx, -, -, hSX, -, -, hSK⟩ := id E
  intro x1 s1 t hf H locs ls w hl
  unfold f_MO_word_113 at hf
  refine mz_putL E w 0 66 (v := s1) (by decide) rfl rfl ii_11 tk_11 nm_11 (by decide) (Nat.le_of_ble_eq_true rfl) k_1249 rfl (tk_11 66 (by decide)) rfl rfl rfl d_MO_word_113 (fun H locs w => ?_)
  obtain ⟨t20, e_t20, hf⟩ := mz_lt hf
  rw [← e_t20] at w
  refine lv_iinc (v := (x1 + (1 : Int32))) (lv' := [(1, .int (x1 + (1 : Int32))), (0, .ref (ad 0))]) hx hb d_MO_word_116 hl (k := 1) rfl rfl (by decide) rfl (fun ls hl => ?_)
  refine lv_aload_n hx hb d_MO_word_119 rfl (lv_at hl 1 rfl) ?_
  refine lv_dup hx hb d_MO_word_120 rfl ?_
  refine mz_get E w 0 61 (v := .int (mz_gI t20 0 61)) (by decide) rfl rfl ii_11 (by decide) (Nat.le_of_ble_eq_true rfl) k_1244 rfl d_MO_word_121 ?_
  refine lv_iconst (v := (1 : Int32)) hx hb d_MO_word_124 (by decide) ?_
  refine lv_iadd hx hb d_MO_word_125 ?_
  refine mz_put E w 0 61 (v := ((mz_gI t20 0 61) + (1 : Int32))) (by decide) rfl rfl ii_11 tk_11 nm_11 (by decide) (Nat.le_of_ble_eq_true rfl) k_1244 rfl (tk_11 61 (by decide)) rfl rfl rfl d_MO_word_126 (fun H locs w => ?_)
  obtain ⟨t21, e_t21, hf⟩ := mz_lt hf
  rw [← e_t21] at w
  refine lv_goto (tgt := 16) hx hb d_MO_word_129 (by decide) ?_
  exact hK16 (x1 + (1 : Int32)) t21 hf _ _ _ w (lv_sub hl [1, 0] rfl)
set_option maxRecDepth 100000 in
set_option maxHeartbeats 4000000 in
theorem b_MO_word_109 {SX : State → Heap → Prop} {dC : Nat → ClassId} {dI : Nat → Nat → Nat} {ad en : Nat → Nat} {ca : Nat → ClassId} {p : Program} {l : Launch} {e : Env} {s : State} {m : MethodId} {args : Array Value} {below : List Frame} {meth : Method} {c : Code} {res : mz_St} (E : mz_En SX 55 mz_cl dC dI ad ca p s m meth c prog_15_method_25_code 2 "MacroHouseModel" none) (n : Nat) (K16 : Int32 → mz_St → Option mz_St) (hK16 : ∀ (x1 : Int32) (t : mz_St), K16 x1 t = some res → ∀ (H : Heap) (locs : List Loc) (ls : Array Slot), mz_Wd mz_tM 55 mz_cl dC dI ad en ca s t H locs → lv_has ls 2 [(0, .ref (ad 0)), (1, .int x1)] → W p l e (r_MO_word) s m args below meth c H locs 0 0 (MQ below (mz_Q SX mz_tM 55 mz_cl dC dI ad en ca none res) args s 0 0 (mz_A ad 55)) (F0 m 16 ls [])) : ∀ (x1 : Int32) (t : mz_St), f_MO_word_109 n K16 x1 t = some res → ∀ (H : Heap) (locs : List Loc) (ls : Array Slot), mz_Wd mz_tM 55 mz_cl dC dI ad en ca s t H locs → lv_has ls 2 [(0, .ref (ad 0)), (1, .int x1)] → W p l e (r_MO_word) s m args below meth c H locs 0 0 (MQ below (mz_Q SX mz_tM 55 mz_cl dC dI ad en ca none res) args s 0 0 (mz_A ad 55)) (F0 m 109 ls [.ref (ad 0)]) := by
  obtain ⟨hx, hb, hml, hown, hcx, -, -, hSX, -, -, hSK⟩ := id E
  intro x1 t hf H locs ls w hl
  unfold f_MO_word_109 at hf
  refine lv_aload_n hx hb d_MO_word_109 rfl (lv_at hl 0 rfl) ?_
  refine mz_get E w 0 66 (v := .long (mz_gL t 0 66)) (by decide) rfl rfl ii_11 (by decide) (Nat.le_of_ble_eq_true rfl) k_1249 rfl d_MO_word_110 ?_
  exact b_MO_word_113 E n K16 hK16 x1 (mz_gL t 0 66) t hf _ _ _ w (lv_sub hl [0, 1] rfl)
set_option maxRecDepth 100000 in
set_option maxHeartbeats 4000000 in
theorem b_MO_word_72 {SX : State → Heap → Prop} {dC : Nat → ClassId} {dI : Nat → Nat → Nat} {ad en : Nat → Nat} {ca : Nat → ClassId} {p : Program} {l : Launch} {e : Env} {s : State} {m : MethodId} {args : Array Value} {below : List Frame} {meth : Method} {c : Code} {res : mz_St} (E : mz_En SX 55 mz_cl dC dI ad ca p s m meth c prog_15_method_25_code 2 "MacroHouseModel" none) (n : Nat) (K16 : Int32 → mz_St → Option mz_St) (hK16 : ∀ (x1 : Int32) (t : mz_St), K16 x1 t = some res → ∀ (H : Heap) (locs : List Loc) (ls : Array Slot), mz_Wd mz_tM 55 mz_cl dC dI ad en ca s t H locs → lv_has ls 2 [(0, .ref (ad 0)), (1, .int x1)] → W p l e (r_MO_word) s m args below meth c H locs 0 0 (MQ below (mz_Q SX mz_tM 55 mz_cl dC dI ad en ca none res) args s 0 0 (mz_A ad 55)) (F0 m 16 ls [])) : ∀ (x1 : Int32) (s1 : Int64) (t : mz_St), f_MO_word_72 n K16 x1 s1 t = some res → ∀ (H : Heap) (locs : List Loc) (ls : Array Slot), mz_Wd mz_tM 55 mz_cl dC dI ad en ca s t H locs → lv_has ls 2 [(0, .ref (ad 0)), (1, .int x1)] → W p l e (r_MO_word) s m args below meth c H locs 0 0 (MQ below (mz_Q SX mz_tM 55 mz_cl dC dI ad en ca none res) args s 0 0 (mz_A ad 55)) (F0 m 72 ls [.long s1, .ref (ad 0)]) := by
  obtain ⟨hx, hb, hml, hown, hcx, -, -, hSX, -, -, hSK⟩ := id E
  intro x1 s1 t hf H locs ls w hl
  unfold f_MO_word_72 at hf
  refine mz_putL E w 0 65 (v := s1) (by decide) rfl rfl ii_11 tk_11 nm_11 (by decide) (Nat.le_of_ble_eq_true rfl) k_1248 rfl (tk_11 65 (by decide)) rfl rfl rfl d_MO_word_72 (fun H locs w => ?_)
  obtain ⟨t18, e_t18, hf⟩ := mz_lt hf
  rw [← e_t18] at w
  refine lv_aload_n hx hb d_MO_word_75 rfl (lv_at hl 0 rfl) ?_
  refine lv_iload_n hx hb d_MO_word_76 rfl (lv_at hl 1 rfl) ?_
  refine lv_bipush (v := (8 : Int32)) hx hb d_MO_word_77 (by decide) ?_
  refine lv_icmp_lt (tgt := 109) hx hb d_MO_word_79 (by decide) (fun hc19 => ?_) (fun hc19 => ?_)
  · have hf := mz_t hc19 hf
    exact b_MO_word_109 E n K16 hK16 x1 t18 hf _ _ _ w (lv_sub hl [0, 1] rfl)
  · have hf := mz_f hc19 hf
    refine lv_iload_n hx hb d_MO_word_82 rfl (lv_at hl 1 rfl) ?_
    refine lv_bipush (v := (12 : Int32)) hx hb d_MO_word_83 (by decide) ?_
    refine lv_icmp_ge (tgt := 109) hx hb d_MO_word_85 (by decide) (fun hc22 => ?_) (fun hc22 => ?_)
    · have hf := mz_t hc22 hf
      exact b_MO_word_109 E n K16 hK16 x1 t18 hf _ _ _ w (lv_sub hl [0, 1] rfl)
    · have hf := mz_f hc22 hf
      refine lv_aload_n hx hb d_MO_word_88 rfl (lv_at hl 0 rfl) ?_
      refine mz_get E w 0 66 (v := .long (mz_gL t18 0 66)) (by decide) rfl rfl ii_11 (by decide) (Nat.le_of_ble_eq_true rfl) k_1249 rfl d_MO_word_89 ?_
      refine lv_aload_n hx hb d_MO_word_92 rfl (lv_at hl 0 rfl) ?_
      obtain ⟨q23, hq24, hf⟩ := mz_bd hf
      refine mz_callV E w (k := 0) (As := []) (rest := [.long (mz_gL t18 0 66), .ref (ad 0)]) (c_MO_here hSK l n t18 q23 hq24) (by decide) rfl rfl k_1553 k_15 k_1550 k_1552 ks_68 hm_MO_here ⟨⟨rfl, rfl⟩, Nat.le_of_ble_eq_true rfl, Nat.le_of_ble_eq_true rfl⟩ rfl hl.1 rfl (Nat.le_of_ble_eq_true rfl) d_MO_word_93 ⟨Nat.zero_le _, Nat.zero_le _⟩ (st1 := [.int q23.1, .long (mz_gL t18 0 66), .ref (ad 0)]) rfl (fun H locs w => ?_)
      refine lv_i2l (v := q23.1.toInt64) hx hb d_MO_word_96 rfl ?_
      refine lv_bipush (v := (8 : Int32)) hx hb d_MO_word_97 (by decide) ?_
      refine lv_iload_n hx hb d_MO_word_99 rfl (lv_at hl 1 rfl) ?_
      refine lv_bipush (v := (8 : Int32)) hx hb d_MO_word_100 (by decide) ?_
      refine lv_isub hx hb d_MO_word_102 ?_
      refine lv_imul hx hb d_MO_word_103 ?_
      refine lv_lshl (v := (q23.1.toInt64 <<< (((8 : Int32) * (x1 - (8 : Int32))).toInt64 &&& 63))) hx hb d_MO_word_104 rfl ?_
      refine lv_lor hx hb d_MO_word_105 ?_
      refine lv_goto (tgt := 113) hx hb d_MO_word_106 (by decide) ?_
      exact b_MO_word_113 E n K16 hK16 x1 ((mz_gL t18 0 66) ||| (q23.1.toInt64 <<< (((8 : Int32) * (x1 - (8 : Int32))).toInt64 &&& 63))) q23.2 hf _ _ _ w (lv_sub hl [0, 1] rfl)
set_option maxRecDepth 100000 in
set_option maxHeartbeats 4000000 in
theorem b_MO_word_43 {SX : State → Heap → Prop} {dC : Nat → ClassId} {dI : Nat → Nat → Nat} {ad en : Nat → Nat} {ca : Nat → ClassId} {p : Program} {l : Launch} {e : Env} {s : State} {m : MethodId} {args : Array Value} {below : List Frame} {meth : Method} {c : Code} {res : mz_St} (E : mz_En SX 55 mz_cl dC dI ad ca p s m meth c prog_15_method_25_code 2 "MacroHouseModel" none) (n : Nat) (K16 : Int32 → mz_St → Option mz_St) (hK16 : ∀ (x1 : Int32) (t : mz_St), K16 x1 t = some res → ∀ (H : Heap) (locs : List Loc) (ls : Array Slot), mz_Wd mz_tM 55 mz_cl dC dI ad en ca s t H locs → lv_has ls 2 [(0, .ref (ad 0)), (1, .int x1)] → W p l e (r_MO_word) s m args below meth c H locs 0 0 (MQ below (mz_Q SX mz_tM 55 mz_cl dC dI ad en ca none res) args s 0 0 (mz_A ad 55)) (F0 m 16 ls [])) : ∀ (x1 : Int32) (t : mz_St), f_MO_word_43 n K16 x1 t = some res → ∀ (H : Heap) (locs : List Loc) (ls : Array Slot), mz_Wd mz_tM 55 mz_cl dC dI ad en ca s t H locs → lv_has ls 2 [(0, .ref (ad 0)), (1, .int x1)] → W p l e (r_MO_word) s m args below meth c H locs 0 0 (MQ below (mz_Q SX mz_tM 55 mz_cl dC dI ad en ca none res) args s 0 0 (mz_A ad 55)) (F0 m 43 ls []) := by
  obtain ⟨hx, hb, hml, hown, hcx, -, -, hSX, -, -, hSK⟩ := id E
  intro x1 t hf H locs ls w hl
  unfold f_MO_word_43 at hf
  refine lv_aload_n hx hb d_MO_word_43 rfl (lv_at hl 0 rfl) ?_
  refine lv_iload_n hx hb d_MO_word_44 rfl (lv_at hl 1 rfl) ?_
  refine lv_bipush (v := (8 : Int32)) hx hb d_MO_word_45 (by decide) ?_
  refine lv_icmp_ge (tgt := 68) hx hb d_MO_word_47 (by decide) (fun hc17 => ?_) (fun hc17 => ?_)
  · have hf := mz_t hc17 hf
    refine lv_aload_n hx hb d_MO_word_68 rfl (lv_at hl 0 rfl) ?_
    refine mz_get E w 0 65 (v := .long (mz_gL t 0 65)) (by decide) rfl rfl ii_11 (by decide) (Nat.le_of_ble_eq_true rfl) k_1248 rfl d_MO_word_69 ?_
    exact b_MO_word_72 E n K16 hK16 x1 (mz_gL t 0 65) t hf _ _ _ w (lv_sub hl [0, 1] rfl)
  · have hf := mz_f hc17 hf
    refine lv_aload_n hx hb d_MO_word_50 rfl (lv_at hl 0 rfl) ?_
    refine mz_get E w 0 65 (v := .long (mz_gL t 0 65)) (by decide) rfl rfl ii_11 (by decide) (Nat.le_of_ble_eq_true rfl) k_1248 rfl d_MO_word_51 ?_
    refine lv_aload_n hx hb d_MO_word_54 rfl (lv_at hl 0 rfl) ?_
    obtain ⟨q25, hq26, hf⟩ := mz_bd hf
    refine mz_callV E w (k := 0) (As := []) (rest := [.long (mz_gL t 0 65), .ref (ad 0)]) (c_MO_here hSK l n t q25 hq26) (by decide) rfl rfl k_1553 k_15 k_1550 k_1552 ks_68 hm_MO_here ⟨⟨rfl, rfl⟩, Nat.le_of_ble_eq_true rfl, Nat.le_of_ble_eq_true rfl⟩ rfl hl.1 rfl (Nat.le_of_ble_eq_true rfl) d_MO_word_55 ⟨Nat.zero_le _, Nat.zero_le _⟩ (st1 := [.int q25.1, .long (mz_gL t 0 65), .ref (ad 0)]) rfl (fun H locs w => ?_)
    refine lv_i2l (v := q25.1.toInt64) hx hb d_MO_word_58 rfl ?_
    refine lv_bipush (v := (8 : Int32)) hx hb d_MO_word_59 (by decide) ?_
    refine lv_iload_n hx hb d_MO_word_61 rfl (lv_at hl 1 rfl) ?_
    refine lv_imul hx hb d_MO_word_62 ?_
    refine lv_lshl (v := (q25.1.toInt64 <<< (((8 : Int32) * x1).toInt64 &&& 63))) hx hb d_MO_word_63 rfl ?_
    refine lv_lor hx hb d_MO_word_64 ?_
    refine lv_goto (tgt := 72) hx hb d_MO_word_65 (by decide) ?_
    exact b_MO_word_72 E n K16 hK16 x1 ((mz_gL t 0 65) ||| (q25.1.toInt64 <<< (((8 : Int32) * x1).toInt64 &&& 63))) q25.2 hf _ _ _ w (lv_sub hl [0, 1] rfl)
set_option maxRecDepth 100000 in
set_option maxHeartbeats 4000000 in
theorem b_MO_word_16 {SX : State → Heap → Prop} {dC : Nat → ClassId} {dI : Nat → Nat → Nat} {ad en : Nat → Nat} {ca : Nat → ClassId} {p : Program} {l : Launch} {e : Env} {s : State} {m : MethodId} {args : Array Value} {below : List Frame} {meth : Method} {c : Code} {res : mz_St} (E : mz_En SX 55 mz_cl dC dI ad ca p s m meth c prog_15_method_25_code 2 "MacroHouseModel" none) (n : Nat) (k : Nat) : ∀ (x1 : Int32) (t : mz_St), f_MO_word_16 n k x1 t = some res → ∀ (H : Heap) (locs : List Loc) (ls : Array Slot), mz_Wd mz_tM 55 mz_cl dC dI ad en ca s t H locs → lv_has ls 2 [(0, .ref (ad 0)), (1, .int x1)] → W p l e (r_MO_word) s m args below meth c H locs 0 0 (MQ below (mz_Q SX mz_tM 55 mz_cl dC dI ad en ca none res) args s 0 0 (mz_A ad 55)) (F0 m 16 ls []) := by
  obtain ⟨hx, hb, hml, hown, hcx, -, -, hSX, -, -, hSK⟩ := id E
  induction k with
  | zero => intro x1 t hf; exact absurd hf (by unfold f_MO_word_16; exact fun h => nomatch h)
  | succ k ih =>
    intro x1 t hf H locs ls w hl
    unfold f_MO_word_16 at hf
    refine lv_iload_n hx hb d_MO_word_16 rfl (lv_at hl 1 rfl) ?_
    refine lv_if_ne (tgt := 33) hx hb d_MO_word_17 (by decide) (fun hc5 => ?_) (fun hc5 => ?_)
    · have hf := mz_f hc5 hf
      refine lv_aload_n hx hb d_MO_word_33 rfl (lv_at hl 0 rfl) ?_
      obtain ⟨q6, hq7, hf⟩ := mz_bd hf
      refine mz_callV E w (k := 0) (As := []) (rest := []) (c_MO_here hSK l n t q6 hq7) (by decide) rfl rfl k_1553 k_15 k_1550 k_1552 ks_68 hm_MO_here ⟨⟨rfl, rfl⟩, Nat.le_of_ble_eq_true rfl, Nat.le_of_ble_eq_true rfl⟩ rfl hl.1 rfl (Nat.le_of_ble_eq_true rfl) d_MO_word_34 ⟨Nat.zero_le _, Nat.zero_le _⟩ (st1 := [.int q6.1]) rfl (fun H locs w => ?_)
      obtain ⟨q8, hq9, hf⟩ := mz_bd hf
      refine mz_callS E w (As := [.int q6.1]) (rest := []) (c_MO_isWordSign hSK l n q6.1 q6.2 q8 hq9) k_1485 k_15 k_1483 k_1484 hm_MO_isWordSign ⟨⟨rfl, rfl⟩, Nat.le_of_ble_eq_true rfl, Nat.le_of_ble_eq_true rfl⟩ rfl hl.1 rfl (Nat.le_of_ble_eq_true rfl) d_MO_word_37 ⟨Nat.zero_le _, Nat.zero_le _⟩ (st1 := [.int q8.1]) rfl (fun H locs w => ?_)
      refine lv_if_eq (tgt := 132) hx hb d_MO_word_40 (by decide) (fun hc10 => ?_) (fun hc10 => ?_)
      · have hf := mz_t hc10 hf
        exact b_MO_word_132 E n x1 q8.2 hf _ _ _ w (lv_sub hl [0, 1] rfl)
      · have hf := mz_f hc10 hf
        exact b_MO_word_43 E n (f_MO_word_16 n k) ih x1 q8.2 hf _ _ _ w (lv_sub hl [0, 1] rfl)
    · have hf := mz_t hc5 hf
      refine lv_aload_n hx hb d_MO_word_20 rfl (lv_at hl 0 rfl) ?_
      obtain ⟨q27, hq28, hf⟩ := mz_bd hf
      refine mz_callV E w (k := 0) (As := []) (rest := []) (c_MO_here hSK l n t q27 hq28) (by decide) rfl rfl k_1553 k_15 k_1550 k_1552 ks_68 hm_MO_here ⟨⟨rfl, rfl⟩, Nat.le_of_ble_eq_true rfl, Nat.le_of_ble_eq_true rfl⟩ rfl hl.1 rfl (Nat.le_of_ble_eq_true rfl) d_MO_word_21 ⟨Nat.zero_le _, Nat.zero_le _⟩ (st1 := [.int q27.1]) rfl (fun H locs w => ?_)
      obtain ⟨q29, hq30, hf⟩ := mz_bd hf
      refine mz_callS E w (As := [.int q27.1]) (rest := []) (c_MO_isBegin hSK l n q27.1 q27.2 q29 hq30) k_1482 k_15 k_1480 k_1481 hm_MO_isBegin ⟨⟨rfl, rfl⟩, Nat.le_of_ble_eq_true rfl, Nat.le_of_ble_eq_true rfl⟩ rfl hl.1 rfl (Nat.le_of_ble_eq_true rfl) d_MO_word_24 ⟨Nat.zero_le _, Nat.zero_le _⟩ (st1 := [.int q29.1]) rfl (fun H locs w => ?_)
      refine lv_if_eq (tgt := 132) hx hb d_MO_word_27 (by decide) (fun hc31 => ?_) (fun hc31 => ?_)
      · have hf := mz_t hc31 hf
        exact b_MO_word_132 E n x1 q29.2 hf _ _ _ w (lv_sub hl [0, 1] rfl)
      · have hf := mz_f hc31 hf
        refine lv_goto (tgt := 43) hx hb d_MO_word_30 (by decide) ?_
        exact b_MO_word_43 E n (f_MO_word_16 n k) ih x1 q29.2 hf _ _ _ w (lv_sub hl [0, 1] rfl)
set_option maxRecDepth 100000 in
set_option maxHeartbeats 4000000 in
theorem c_MO_word {SX : State → Heap → Prop} {dC : Nat → ClassId} {dI : Nat → Nat → Nat} {ad en : Nat → Nat} {ca : Nat → ClassId} (hSK : mz_SK SX ad 55) (l : Launch) (n : Nat) (t : mz_St) (res : mz_St) (hf : f_MO_word n t = some res) : mz_C SX mz_tM 55 mz_cl dC dI ad en ca l y_MO_word prog_15_method_25_code 2 none (r_MO_word) [.ref (ad 0)] t none res := by
  unfold f_MO_word at hf
  refine mz_met hSK (by decide) (Nat.le_of_ble_eq_true rfl) ?_
  intro p e s m args below meth c ls E w hl
  obtain ⟨hx, hb, hml, hown, hcx, -, -, hSX, -, -, -⟩ := id E
  have hl : lv_has ls 2 [(0, .ref (ad 0))] := hl
  refine lv_aload_n hx hb d_MO_word_0 rfl (lv_at hl 0 rfl) ?_
  obtain ⟨q1, hq2, hf⟩ := mz_bd hf
  refine mz_callV E w (k := 0) (As := []) (rest := []) (c_MO_blanks hSK l n t q1 hq2) (by decide) rfl rfl k_1549 k_15 k_1546 k_1548 ks_67 hm_MO_blanks ⟨⟨rfl, rfl⟩, Nat.le_of_ble_eq_true rfl, Nat.le_of_ble_eq_true rfl⟩ rfl hl.1 rfl (Nat.le_of_ble_eq_true rfl) d_MO_word_1 ⟨Nat.zero_le _, Nat.zero_le _⟩ (st1 := []) rfl (fun H locs w => ?_)
  refine lv_aload_n hx hb d_MO_word_4 rfl (lv_at hl 0 rfl) ?_
  refine lv_lconst (v := (0 : Int64)) hx hb d_MO_word_5 (by decide) ?_
  refine mz_putL E w 0 65 (v := (0 : Int64)) (by decide) rfl rfl ii_11 tk_11 nm_11 (by decide) (Nat.le_of_ble_eq_true rfl) k_1248 rfl (tk_11 65 (by decide)) rfl rfl rfl d_MO_word_6 (fun H locs w => ?_)
  obtain ⟨t3, e_t3, hf⟩ := mz_lt hf
  rw [← e_t3] at w
  refine lv_aload_n hx hb d_MO_word_9 rfl (lv_at hl 0 rfl) ?_
  refine lv_lconst (v := (0 : Int64)) hx hb d_MO_word_10 (by decide) ?_
  refine mz_putL E w 0 66 (v := (0 : Int64)) (by decide) rfl rfl ii_11 tk_11 nm_11 (by decide) (Nat.le_of_ble_eq_true rfl) k_1249 rfl (tk_11 66 (by decide)) rfl rfl rfl d_MO_word_11 (fun H locs w => ?_)
  obtain ⟨t4, e_t4, hf⟩ := mz_lt hf
  rw [← e_t4] at w
  refine lv_iconst (v := (0 : Int32)) hx hb d_MO_word_14 (by decide) ?_
  refine lv_istore_n (lv' := [(1, .int (0 : Int32)), (0, .ref (ad 0))]) hx hb d_MO_word_15 rfl hl (by decide) rfl (fun ls hl => ?_)
  exact b_MO_word_16 E n n (0 : Int32) t4 hf _ _ _ w (lv_sub hl [1, 0] rfl)

/-! MacroHouseModel.opens(I)V -/
abbrev r_MO_opens : Room := { frames := 0, cells := 0, slots := 0, locals := 0 }
def f_MO_opens (n : Nat) (x1 : Int32) (t : mz_St) : Option mz_St := if ¬ ((mz_gI t 0 67) < 0 ∨ 12 ≤ (mz_gI t 0 67).toNatClampNeg) then (mz_let (mz_pI t 44 (mz_gI t 0 67).toNatClampNeg x1) fun t2 => if ¬ ((mz_gI t2 0 67) < 0 ∨ 12 ≤ (mz_gI t2 0 67).toNatClampNeg) then (mz_let (mz_pI t2 45 (mz_gI t2 0 67).toNatClampNeg (0 : Int32)) fun t4 => if ¬ ((mz_gI t4 0 67) < 0 ∨ 12 ≤ (mz_gI t4 0 67).toNatClampNeg) then (mz_let (mz_pI t4 46 (mz_gI t4 0 67).toNatClampNeg (0 : Int32)) fun t6 => if ¬ ((mz_gI t6 0 67) < 0 ∨ 12 ≤ (mz_gI t6 0 67).toNatClampNeg) then (mz_let (mz_pI t6 47 (mz_gI t6 0 67).toNatClampNeg (0 : Int32)) fun t8 => mz_let (mz_pI t8 0 67 ((mz_gI t8 0 67) + (1 : Int32))) fun t9 => some t9) else none) else none) else none) else none
set_option maxRecDepth 100000 in
set_option maxHeartbeats 4000000 in
theorem c_MO_opens {SX : State → Heap → Prop} {dC : Nat → ClassId} {dI : Nat → Nat → Nat} {ad en : Nat → Nat} {ca : Nat → ClassId} (hSK : mz_SK SX ad 55) (l : Launch) (n : Nat) (x1 : Int32) (t : mz_St) (res : mz_St) (hf : f_MO_opens n x1 t = some res) : mz_C SX mz_tM 55 mz_cl dC dI ad en ca l y_MO_opens prog_15_method_28_code 2 none (r_MO_opens) [.ref (ad 0), .int x1] t none res := by
  unfold f_MO_opens at hf
  refine mz_met hSK (by decide) (Nat.le_of_ble_eq_true rfl) ?_
  intro p e s m args below meth c ls E w hl
  obtain ⟨hx, hb, hml, hown, hcx, -, -, hSX, -, -, -⟩ := id E
  have hl : lv_has ls 2 [(0, .ref (ad 0)), (1, .int x1)] := hl
  refine lv_aload_n hx hb d_MO_opens_0 rfl (lv_at hl 0 rfl) ?_
  refine mz_get E w 0 68 (v := .ref (ad 44)) (by decide) rfl rfl ii_11 (by decide) (Nat.le_of_ble_eq_true rfl) k_1251 rfl d_MO_opens_1 ?_
  refine lv_aload_n hx hb d_MO_opens_4 rfl (lv_at hl 0 rfl) ?_
  refine mz_get E w 0 67 (v := .int (mz_gI t 0 67)) (by decide) rfl rfl ii_11 (by decide) (Nat.le_of_ble_eq_true rfl) k_1250 rfl d_MO_opens_5 ?_
  refine lv_iload_n hx hb d_MO_opens_8 rfl (lv_at hl 1 rfl) ?_
  obtain ⟨hi1, hf⟩ := mz_gd hf
  refine mz_iast E w 44 (x := x1) (by decide) rfl hi1 d_MO_opens_9 (fun H locs w => ?_)
  obtain ⟨t2, e_t2, hf⟩ := mz_lt hf
  rw [← e_t2] at w
  refine lv_aload_n hx hb d_MO_opens_10 rfl (lv_at hl 0 rfl) ?_
  refine mz_get E w 0 69 (v := .ref (ad 45)) (by decide) rfl rfl ii_11 (by decide) (Nat.le_of_ble_eq_true rfl) k_1252 rfl d_MO_opens_11 ?_
  refine lv_aload_n hx hb d_MO_opens_14 rfl (lv_at hl 0 rfl) ?_
  refine mz_get E w 0 67 (v := .int (mz_gI t2 0 67)) (by decide) rfl rfl ii_11 (by decide) (Nat.le_of_ble_eq_true rfl) k_1250 rfl d_MO_opens_15 ?_
  refine lv_iconst (v := (0 : Int32)) hx hb d_MO_opens_18 (by decide) ?_
  obtain ⟨hi3, hf⟩ := mz_gd hf
  refine mz_iast E w 45 (x := (0 : Int32)) (by decide) rfl hi3 d_MO_opens_19 (fun H locs w => ?_)
  obtain ⟨t4, e_t4, hf⟩ := mz_lt hf
  rw [← e_t4] at w
  refine lv_aload_n hx hb d_MO_opens_20 rfl (lv_at hl 0 rfl) ?_
  refine mz_get E w 0 70 (v := .ref (ad 46)) (by decide) rfl rfl ii_11 (by decide) (Nat.le_of_ble_eq_true rfl) k_1253 rfl d_MO_opens_21 ?_
  refine lv_aload_n hx hb d_MO_opens_24 rfl (lv_at hl 0 rfl) ?_
  refine mz_get E w 0 67 (v := .int (mz_gI t4 0 67)) (by decide) rfl rfl ii_11 (by decide) (Nat.le_of_ble_eq_true rfl) k_1250 rfl d_MO_opens_25 ?_
  refine lv_iconst (v := (0 : Int32)) hx hb d_MO_opens_28 (by decide) ?_
  obtain ⟨hi5, hf⟩ := mz_gd hf
  refine mz_iast E w 46 (x := (0 : Int32)) (by decide) rfl hi5 d_MO_opens_29 (fun H locs w => ?_)
  obtain ⟨t6, e_t6, hf⟩ := mz_lt hf
  rw [← e_t6] at w
  refine lv_aload_n hx hb d_MO_opens_30 rfl (lv_at hl 0 rfl) ?_
  refine mz_get E w 0 71 (v := .ref (ad 47)) (by decide) rfl rfl ii_11 (by decide) (Nat.le_of_ble_eq_true rfl) k_1254 rfl d_MO_opens_31 ?_
  refine lv_aload_n hx hb d_MO_opens_34 rfl (lv_at hl 0 rfl) ?_
  refine mz_get E w 0 67 (v := .int (mz_gI t6 0 67)) (by decide) rfl rfl ii_11 (by decide) (Nat.le_of_ble_eq_true rfl) k_1250 rfl d_MO_opens_35 ?_
  refine lv_iconst (v := (0 : Int32)) hx hb d_MO_opens_38 (by decide) ?_
  obtain ⟨hi7, hf⟩ := mz_gd hf
  refine mz_iast E w 47 (x := (0 : Int32)) (by decide) rfl hi7 d_MO_opens_39 (fun H locs w => ?_)
  obtain ⟨t8, e_t8, hf⟩ := mz_lt hf
  rw [← e_t8] at w
  refine lv_aload_n hx hb d_MO_opens_40 rfl (lv_at hl 0 rfl) ?_
  refine lv_dup hx hb d_MO_opens_41 rfl ?_
  refine mz_get E w 0 67 (v := .int (mz_gI t8 0 67)) (by decide) rfl rfl ii_11 (by decide) (Nat.le_of_ble_eq_true rfl) k_1250 rfl d_MO_opens_42 ?_
  refine lv_iconst (v := (1 : Int32)) hx hb d_MO_opens_45 (by decide) ?_
  refine lv_iadd hx hb d_MO_opens_46 ?_
  refine mz_put E w 0 67 (v := ((mz_gI t8 0 67) + (1 : Int32))) (by decide) rfl rfl ii_11 tk_11 nm_11 (by decide) (Nat.le_of_ble_eq_true rfl) k_1250 rfl (tk_11 67 (by decide)) rfl rfl rfl d_MO_opens_47 (fun H locs w => ?_)
  obtain ⟨t9, e_t9, hf⟩ := mz_lt hf
  rw [← e_t9] at w
  obtain rfl := Option.some.inj hf
  exact mz_vret E w rfl d_MO_opens_50

/-! MacroHouseModel.numberHere()I -/
abbrev r_MO_numberHere : Room := { frames := 2, cells := 0, slots := 0, locals := 40 }
def f_MO_numberHere_82 (n : Nat) (x1 : Int32) (s1 : Int32) (t : mz_St) : Option (Int32 × mz_St) := if s1 = 0 ∨ s1 = 1 then (mz_let (mz_pI t 0 62 s1) fun t8 => some (x1, t8)) else none
def f_MO_numberHere_81 (n : Nat) (x1 : Int32) (t : mz_St) : Option (Int32 × mz_St) := f_MO_numberHere_82 n x1 (0 : Int32) t
def f_MO_numberHere_36 (n : Nat) (K4 : Int32 → Int32 → mz_St → Option (Int32 × mz_St)) (x2 : Int32) (s0 : Int32) (t : mz_St) : Option (Int32 × mz_St) := mz_let (mz_pI t 0 61 ((mz_gI t 0 61) + (1 : Int32))) fun t16 => K4 s0 (x2 + (1 : Int32)) t16
def f_MO_numberHere_4 (n : Nat) : Nat → Int32 → Int32 → mz_St → Option (Int32 × mz_St)
  | 0, _, _, _ => none
  | k + 1, x1, x2, t => (f_MO_here n t).bind fun q1 => (f_MO_isDigit n q1.1 q1.2).bind fun q3 => if q3.1 = 0 then (if (mz_gI q3.2 0 62) = 0 then (f_MO_numberHere_81 n x1 q3.2) else (if (10 : Int32) ≤ x2 then (f_MO_numberHere_81 n x1 q3.2) else ((f_MO_here n q3.2).bind fun q10 => (f_MO_isWordSign n q10.1 q10.2).bind fun q12 => if q12.1 = 0 then (f_MO_numberHere_82 n x1 (1 : Int32) q12.2) else (f_MO_numberHere_81 n x1 q12.2)))) else (if (9 : Int32) ≤ x2 then (f_MO_numberHere_36 n (f_MO_numberHere_4 n k) x2 x1 q3.2) else ((f_MO_here n q3.2).bind fun q17 => f_MO_numberHere_36 n (f_MO_numberHere_4 n k) x2 ((((10 : Int32) * x1) + q17.1) - (48 : Int32)) q17.2))
def f_MO_numberHere (n : Nat) (t : mz_St) : Option (Int32 × mz_St) := f_MO_numberHere_4 n n (0 : Int32) (0 : Int32) t
set_option maxRecDepth 100000 in
set_option maxHeartbeats 4000000 in
theorem b_MO_numberHere_82 {SX : State → Heap → Prop} {dC : Nat → ClassId} {dI : Nat → Nat → Nat} {ad en : Nat → Nat} {ca : Nat → ClassId} {p : Program} {l : Launch} {e : Env} {s : State} {m : MethodId} {args : Array Value} {below : List Frame} {meth : Method} {c : Code} {res : (Int32 × mz_St)} (E : mz_En SX 55 mz_cl dC dI ad ca p s m meth c prog_15_method_30_code 3 "MacroHouseModel" (some (.int))) (n : Nat) : ∀ (x1 : Int32) (s1 : Int32) (t : mz_St), f_MO_numberHere_82 n x1 s1 t = some res → ∀ (H : Heap) (locs : List Loc) (ls : Array Slot), mz_Wd mz_tM 55 mz_cl dC dI ad en ca s t H locs → lv_has ls 3 [(1, .int x1)] → W p l e (r_MO_numberHere) s m args below meth c H locs 0 0 (MQ below (mz_Q SX mz_tM 55 mz_cl dC dI ad en ca (some (.int res.1)) res.2) args s 0 0 (mz_A ad 55)) (F0 m 82 ls [.int s1, .ref (ad 0)]) := by
  obtain ⟨hx, hb, hml, hown, hcx, -, -, hSX, -, -, hSK⟩ := id E
  intro x1 s1 t hf H locs ls w hl
  unfold f_MO_numberHere_82 at hf
  obtain ⟨hz7, hf⟩ := mz_gd hf
  refine mz_put E w 0 62 (v := s1) (by decide) rfl rfl ii_11 tk_11 nm_11 (by decide) (Nat.le_of_ble_eq_true rfl) k_1245 rfl (tk_11 62 (by decide)) rfl (mz_b01 hz7) (mz_f01 hz7) d_MO_numberHere_82 (fun H locs w => ?_)
  obtain ⟨t8, e_t8, hf⟩ := mz_lt hf
  rw [← e_t8] at w
  refine lv_iload_n hx hb d_MO_numberHere_85 rfl (lv_at hl 0 rfl) ?_
  obtain rfl := Option.some.inj hf
  exact mz_iret E w rfl d_MO_numberHere_86
set_option maxRecDepth 100000 in
set_option maxHeartbeats 4000000 in
theorem b_MO_numberHere_81 {SX : State → Heap → Prop} {dC : Nat → ClassId} {dI : Nat → Nat → Nat} {ad en : Nat → Nat} {ca : Nat → ClassId} {p : Program} {l : Launch} {e : Env} {s : State} {m : MethodId} {args : Array Value} {below : List Frame} {meth : Method} {c : Code} {res : (Int32 × mz_St)} (E : mz_En SX 55 mz_cl dC dI ad ca p s m meth c prog_15_method_30_code 3 "MacroHouseModel" (some (.int))) (n : Nat) : ∀ (x1 : Int32) (t : mz_St), f_MO_numberHere_81 n x1 t = some res → ∀ (H : Heap) (locs : List Loc) (ls : Array Slot), mz_Wd mz_tM 55 mz_cl dC dI ad en ca s t H locs → lv_has ls 3 [(1, .int x1)] → W p l e (r_MO_numberHere) s m args below meth c H locs 0 0 (MQ below (mz_Q SX mz_tM 55 mz_cl dC dI ad en ca (some (.int res.1)) res.2) args s 0 0 (mz_A ad 55)) (F0 m 81 ls [.ref (ad 0)]) := by
  obtain ⟨hx, hb, hml, hown, hcx, -, -, hSX, -, -, hSK⟩ := id E
  intro x1 t hf H locs ls w hl
  unfold f_MO_numberHere_81 at hf
  refine lv_iconst (v := (0 : Int32)) hx hb d_MO_numberHere_81 (by decide) ?_
  exact b_MO_numberHere_82 E n x1 (0 : Int32) t hf _ _ _ w (lv_sub hl [0] rfl)
set_option maxRecDepth 100000 in
set_option maxHeartbeats 4000000 in
theorem b_MO_numberHere_36 {SX : State → Heap → Prop} {dC : Nat → ClassId} {dI : Nat → Nat → Nat} {ad en : Nat → Nat} {ca : Nat → ClassId} {p : Program} {l : Launch} {e : Env} {s : State} {m : MethodId} {args : Array Value} {below : List Frame} {meth : Method} {c : Code} {res : (Int32 × mz_St)} (E : mz_En SX 55 mz_cl dC dI ad ca p s m meth c prog_15_method_30_code 3 "MacroHouseModel" (some (.int))) (n : Nat) (K4 : Int32 → Int32 → mz_St → Option (Int32 × mz_St)) (hK4 : ∀ (x1 : Int32) (x2 : Int32) (t : mz_St), K4 x1 x2 t = some res → ∀ (H : Heap) (locs : List Loc) (ls : Array Slot), mz_Wd mz_tM 55 mz_cl dC dI ad en ca s t H locs → lv_has ls 3 [(0, .ref (ad 0)), (1, .int x1), (2, .int x2)] → W p l e (r_MO_numberHere) s m args below meth c H locs 0 0 (MQ below (mz_Q SX mz_tM 55 mz_cl dC dI ad en ca (some (.int res.1)) res.2) args s 0 0 (mz_A ad 55)) (F0 m 4 ls [])) : ∀ (x2 : Int32) (s0 : Int32) (t : mz_St), f_MO_numberHere_36 n K4 x2 s0 t = some res → ∀ (H : Heap) (locs : List Loc) (ls : Array Slot), mz_Wd mz_tM 55 mz_cl dC dI ad en ca s t H locs → lv_has ls 3 [(0, .ref (ad 0)), (2, .int x2)] → W p l e (r_MO_numberHere) s m args below meth c H locs 0 0 (MQ below (mz_Q SX mz_tM 55 mz_cl dC dI ad en ca (some (.int res.1)) res.2) args s 0 0 (mz_A ad 55)) (F0 m 36 ls [.int s0]) := by
  obtain ⟨hx, hb, hml, hown, hcx, -, -, hSX, -, -, hSK⟩ := id E
  intro x2 s0 t hf H locs ls w hl
  unfold f_MO_numberHere_36 at hf
  refine lv_istore_n (lv' := [(1, .int s0), (0, .ref (ad 0)), (2, .int x2)]) hx hb d_MO_numberHere_36 rfl hl (by decide) rfl (fun ls hl => ?_)
  refine lv_iinc (v := (x2 + (1 : Int32))) (lv' := [(2, .int (x2 + (1 : Int32))), (1, .int s0), (0, .ref (ad 0))]) hx hb d_MO_numberHere_37 hl (k := 2) rfl rfl (by decide) rfl (fun ls hl => ?_)
  refine lv_aload_n hx hb d_MO_numberHere_40 rfl (lv_at hl 2 rfl) ?_
  refine lv_dup hx hb d_MO_numberHere_41 rfl ?_
  refine mz_get E w 0 61 (v := .int (mz_gI t 0 61)) (by decide) rfl rfl ii_11 (by decide) (Nat.le_of_ble_eq_true rfl) k_1244 rfl d_MO_numberHere_42 ?_
  refine lv_iconst (v := (1 : Int32)) hx hb d_MO_numberHere_45 (by decide) ?_
  refine lv_iadd hx hb d_MO_numberHere_46 ?_
  refine mz_put E w 0 61 (v := ((mz_gI t 0 61) + (1 : Int32))) (by decide) rfl rfl ii_11 tk_11 nm_11 (by decide) (Nat.le_of_ble_eq_true rfl) k_1244 rfl (tk_11 61 (by decide)) rfl rfl rfl d_MO_numberHere_47 (fun H locs w => ?_)
  obtain ⟨t16, e_t16, hf⟩ := mz_lt hf
  rw [← e_t16] at w
  refine lv_goto (tgt := 4) hx hb d_MO_numberHere_50 (by decide) ?_
  exact hK4 s0 (x2 + (1 : Int32)) t16 hf _ _ _ w (lv_sub hl [2, 1, 0] rfl)
set_option maxRecDepth 100000 in
set_option maxHeartbeats 4000000 in
theorem b_MO_numberHere_4 {SX : State → Heap → Prop} {dC : Nat → ClassId} {dI : Nat → Nat → Nat} {ad en : Nat → Nat} {ca : Nat → ClassId} {p : Program} {l : Launch} {e : Env} {s : State} {m : MethodId} {args : Array Value} {below : List Frame} {meth : Method} {c : Code} {res : (Int32 × mz_St)} (E : mz_En SX 55 mz_cl dC dI ad ca p s m meth c prog_15_method_30_code 3 "MacroHouseModel" (some (.int))) (n : Nat) (k : Nat) : ∀ (x1 : Int32) (x2 : Int32) (t : mz_St), f_MO_numberHere_4 n k x1 x2 t = some res → ∀ (H : Heap) (locs : List Loc) (ls : Array Slot), mz_Wd mz_tM 55 mz_cl dC dI ad en ca s t H locs → lv_has ls 3 [(0, .ref (ad 0)), (1, .int x1), (2, .int x2)] → W p l e (r_MO_numberHere) s m args below meth c H locs 0 0 (MQ below (mz_Q SX mz_tM 55 mz_cl dC dI ad en ca (some (.int res.1)) res.2) args s 0 0 (mz_A ad 55)) (F0 m 4 ls []) := by
  obtain ⟨hx, hb, hml, hown, hcx, -, -, hSX, -, -, hSK⟩ := id E
  induction k with
  | zero => intro x1 x2 t hf; exact absurd hf (by unfold f_MO_numberHere_4; exact fun h => nomatch h)
  | succ k ih =>
    intro x1 x2 t hf H locs ls w hl
    unfold f_MO_numberHere_4 at hf
    refine lv_aload_n hx hb d_MO_numberHere_4 rfl (lv_at hl 0 rfl) ?_
    obtain ⟨q1, hq2, hf⟩ := mz_bd hf
    refine mz_callV E w (k := 0) (As := []) (rest := []) (c_MO_here hSK l n t q1 hq2) (by decide) rfl rfl k_1553 k_15 k_1550 k_1552 ks_68 hm_MO_here ⟨⟨rfl, rfl⟩, Nat.le_of_ble_eq_true rfl, Nat.le_of_ble_eq_true rfl⟩ rfl hl.1 rfl (Nat.le_of_ble_eq_true rfl) d_MO_numberHere_5 ⟨Nat.zero_le _, Nat.zero_le _⟩ (st1 := [.int q1.1]) rfl (fun H locs w => ?_)
    obtain ⟨q3, hq4, hf⟩ := mz_bd hf
    refine mz_callS E w (As := [.int q1.1]) (rest := []) (c_MO_isDigit hSK l n q1.1 q1.2 q3 hq4) k_1488 k_15 k_1486 k_1487 hm_MO_isDigit ⟨⟨rfl, rfl⟩, Nat.le_of_ble_eq_true rfl, Nat.le_of_ble_eq_true rfl⟩ rfl hl.1 rfl (Nat.le_of_ble_eq_true rfl) d_MO_numberHere_8 ⟨Nat.zero_le _, Nat.zero_le _⟩ (st1 := [.int q3.1]) rfl (fun H locs w => ?_)
    refine lv_if_eq (tgt := 53) hx hb d_MO_numberHere_11 (by decide) (fun hc5 => ?_) (fun hc5 => ?_)
    · have hf := mz_t hc5 hf
      refine lv_aload_n hx hb d_MO_numberHere_53 rfl (lv_at hl 0 rfl) ?_
      refine lv_aload_n hx hb d_MO_numberHere_54 rfl (lv_at hl 0 rfl) ?_
      refine mz_get E w 0 62 (v := .int (mz_gI q3.2 0 62)) (by decide) rfl rfl ii_11 (by decide) (Nat.le_of_ble_eq_true rfl) k_1245 rfl d_MO_numberHere_55 ?_
      refine lv_if_eq (tgt := 81) hx hb d_MO_numberHere_58 (by decide) (fun hc6 => ?_) (fun hc6 => ?_)
      · have hf := mz_t hc6 hf
        exact b_MO_numberHere_81 E n x1 q3.2 hf _ _ _ w (lv_sub hl [1] rfl)
      · have hf := mz_f hc6 hf
        refine lv_iload_n hx hb d_MO_numberHere_61 rfl (lv_at hl 2 rfl) ?_
        refine lv_bipush (v := (10 : Int32)) hx hb d_MO_numberHere_62 (by decide) ?_
        refine lv_icmp_ge (tgt := 81) hx hb d_MO_numberHere_64 (by decide) (fun hc9 => ?_) (fun hc9 => ?_)
        · have hf := mz_t hc9 hf
          exact b_MO_numberHere_81 E n x1 q3.2 hf _ _ _ w (lv_sub hl [1] rfl)
        · have hf := mz_f hc9 hf
          refine lv_aload_n hx hb d_MO_numberHere_67 rfl (lv_at hl 0 rfl) ?_
          obtain ⟨q10, hq11, hf⟩ := mz_bd hf
          refine mz_callV E w (k := 0) (As := []) (rest := [.ref (ad 0)]) (c_MO_here hSK l n q3.2 q10 hq11) (by decide) rfl rfl k_1553 k_15 k_1550 k_1552 ks_68 hm_MO_here ⟨⟨rfl, rfl⟩, Nat.le_of_ble_eq_true rfl, Nat.le_of_ble_eq_true rfl⟩ rfl hl.1 rfl (Nat.le_of_ble_eq_true rfl) d_MO_numberHere_68 ⟨Nat.zero_le _, Nat.zero_le _⟩ (st1 := [.int q10.1, .ref (ad 0)]) rfl (fun H locs w => ?_)
          obtain ⟨q12, hq13, hf⟩ := mz_bd hf
          refine mz_callS E w (As := [.int q10.1]) (rest := [.ref (ad 0)]) (c_MO_isWordSign hSK l n q10.1 q10.2 q12 hq13) k_1485 k_15 k_1483 k_1484 hm_MO_isWordSign ⟨⟨rfl, rfl⟩, Nat.le_of_ble_eq_true rfl, Nat.le_of_ble_eq_true rfl⟩ rfl hl.1 rfl (Nat.le_of_ble_eq_true rfl) d_MO_numberHere_71 ⟨Nat.zero_le _, Nat.zero_le _⟩ (st1 := [.int q12.1, .ref (ad 0)]) rfl (fun H locs w => ?_)
          refine lv_if_ne (tgt := 81) hx hb d_MO_numberHere_74 (by decide) (fun hc14 => ?_) (fun hc14 => ?_)
          · have hf := mz_f hc14 hf
            exact b_MO_numberHere_81 E n x1 q12.2 hf _ _ _ w (lv_sub hl [1] rfl)
          · have hf := mz_t hc14 hf
            refine lv_iconst (v := (1 : Int32)) hx hb d_MO_numberHere_77 (by decide) ?_
            refine lv_goto (tgt := 82) hx hb d_MO_numberHere_78 (by decide) ?_
            exact b_MO_numberHere_82 E n x1 (1 : Int32) q12.2 hf _ _ _ w (lv_sub hl [1] rfl)
    · have hf := mz_f hc5 hf
      refine lv_iload_n hx hb d_MO_numberHere_14 rfl (lv_at hl 2 rfl) ?_
      refine lv_bipush (v := (9 : Int32)) hx hb d_MO_numberHere_15 (by decide) ?_
      refine lv_icmp_ge (tgt := 35) hx hb d_MO_numberHere_17 (by decide) (fun hc15 => ?_) (fun hc15 => ?_)
      · have hf := mz_t hc15 hf
        refine lv_iload_n hx hb d_MO_numberHere_35 rfl (lv_at hl 1 rfl) ?_
        exact b_MO_numberHere_36 E n (f_MO_numberHere_4 n k) ih x2 x1 q3.2 hf _ _ _ w (lv_sub hl [0, 2] rfl)
      · have hf := mz_f hc15 hf
        refine lv_bipush (v := (10 : Int32)) hx hb d_MO_numberHere_20 (by decide) ?_
        refine lv_iload_n hx hb d_MO_numberHere_22 rfl (lv_at hl 1 rfl) ?_
        refine lv_imul hx hb d_MO_numberHere_23 ?_
        refine lv_aload_n hx hb d_MO_numberHere_24 rfl (lv_at hl 0 rfl) ?_
        obtain ⟨q17, hq18, hf⟩ := mz_bd hf
        refine mz_callV E w (k := 0) (As := []) (rest := [.int ((10 : Int32) * x1)]) (c_MO_here hSK l n q3.2 q17 hq18) (by decide) rfl rfl k_1553 k_15 k_1550 k_1552 ks_68 hm_MO_here ⟨⟨rfl, rfl⟩, Nat.le_of_ble_eq_true rfl, Nat.le_of_ble_eq_true rfl⟩ rfl hl.1 rfl (Nat.le_of_ble_eq_true rfl) d_MO_numberHere_25 ⟨Nat.zero_le _, Nat.zero_le _⟩ (st1 := [.int q17.1, .int ((10 : Int32) * x1)]) rfl (fun H locs w => ?_)
        refine lv_iadd hx hb d_MO_numberHere_28 ?_
        refine lv_bipush (v := (48 : Int32)) hx hb d_MO_numberHere_29 (by decide) ?_
        refine lv_isub hx hb d_MO_numberHere_31 ?_
        refine lv_goto (tgt := 36) hx hb d_MO_numberHere_32 (by decide) ?_
        exact b_MO_numberHere_36 E n (f_MO_numberHere_4 n k) ih x2 ((((10 : Int32) * x1) + q17.1) - (48 : Int32)) q17.2 hf _ _ _ w (lv_sub hl [0, 2] rfl)
set_option maxRecDepth 100000 in
set_option maxHeartbeats 4000000 in
theorem c_MO_numberHere {SX : State → Heap → Prop} {dC : Nat → ClassId} {dI : Nat → Nat → Nat} {ad en : Nat → Nat} {ca : Nat → ClassId} (hSK : mz_SK SX ad 55) (l : Launch) (n : Nat) (t : mz_St) (res : (Int32 × mz_St)) (hf : f_MO_numberHere n t = some res) : mz_C SX mz_tM 55 mz_cl dC dI ad en ca l y_MO_numberHere prog_15_method_30_code 3 (some (.int)) (r_MO_numberHere) [.ref (ad 0)] t (some (.int res.1)) res.2 := by
  unfold f_MO_numberHere at hf
  refine mz_met hSK (by decide) (Nat.le_of_ble_eq_true rfl) ?_
  intro p e s m args below meth c ls E w hl
  obtain ⟨hx, hb, hml, hown, hcx, -, -, hSX, -, -, -⟩ := id E
  have hl : lv_has ls 3 [(0, .ref (ad 0))] := hl
  refine lv_iconst (v := (0 : Int32)) hx hb d_MO_numberHere_0 (by decide) ?_
  refine lv_istore_n (lv' := [(1, .int (0 : Int32)), (0, .ref (ad 0))]) hx hb d_MO_numberHere_1 rfl hl (by decide) rfl (fun ls hl => ?_)
  refine lv_iconst (v := (0 : Int32)) hx hb d_MO_numberHere_2 (by decide) ?_
  refine lv_istore_n (lv' := [(2, .int (0 : Int32)), (1, .int (0 : Int32)), (0, .ref (ad 0))]) hx hb d_MO_numberHere_3 rfl hl (by decide) rfl (fun ls hl => ?_)
  exact b_MO_numberHere_4 E n n (0 : Int32) (0 : Int32) t hf _ _ _ w (lv_sub hl [2, 1, 0] rfl)

/-! MacroHouseModel.constantOf(JJ)I -/
abbrev r_MO_constantOf : Room := { frames := 0, cells := 0, slots := 0, locals := 0 }
def f_MO_constantOf_46 (n : Nat) (K6 : Int64 → Int64 → Int32 → Int32 → mz_St → Option (Int32 × mz_St)) (x1 : Int64) (x3 : Int64) (x6 : Int32) (s0 : Int32) (t : mz_St) : Option (Int32 × mz_St) := K6 x1 x3 s0 (x6 + (1 : Int32)) t
def f_MO_constantOf_44 (n : Nat) (K6 : Int64 → Int64 → Int32 → Int32 → mz_St → Option (Int32 × mz_St)) (x1 : Int64) (x3 : Int64) (x5 : Int32) (x6 : Int32) (t : mz_St) : Option (Int32 × mz_St) := f_MO_constantOf_46 n K6 x1 x3 x6 x5 t
def f_MO_constantOf_6 (n : Nat) : Nat → Int64 → Int64 → Int32 → Int32 → mz_St → Option (Int32 × mz_St)
  | 0, _, _, _, _, _ => none
  | k + 1, x1, x3, x5, x6, t => if (mz_gI t 0 24) ≤ x6 then (some (x5, t)) else (if ¬ (x6 < 0 ∨ 64 ≤ x6.toNatClampNeg) then (if (lg_cmp (mz_gL t 15 x6.toNatClampNeg) x1) = 0 then (if ¬ (x6 < 0 ∨ 64 ≤ x6.toNatClampNeg) then (if (lg_cmp (mz_gL t 16 x6.toNatClampNeg) x3) = 0 then (f_MO_constantOf_46 n (f_MO_constantOf_6 n k) x1 x3 x6 x6 t) else (f_MO_constantOf_44 n (f_MO_constantOf_6 n k) x1 x3 x5 x6 t)) else none) else (f_MO_constantOf_44 n (f_MO_constantOf_6 n k) x1 x3 x5 x6 t)) else none)
def f_MO_constantOf (n : Nat) (x1 : Int64) (x3 : Int64) (t : mz_St) : Option (Int32 × mz_St) := f_MO_constantOf_6 n n x1 x3 (-1 : Int32) (0 : Int32) t
set_option maxRecDepth 100000 in
set_option maxHeartbeats 4000000 in
theorem b_MO_constantOf_46 {SX : State → Heap → Prop} {dC : Nat → ClassId} {dI : Nat → Nat → Nat} {ad en : Nat → Nat} {ca : Nat → ClassId} {p : Program} {l : Launch} {e : Env} {s : State} {m : MethodId} {args : Array Value} {below : List Frame} {meth : Method} {c : Code} {res : (Int32 × mz_St)} (E : mz_En SX 55 mz_cl dC dI ad ca p s m meth c prog_15_method_27_code 7 "MacroHouseModel" (some (.int))) (n : Nat) (K6 : Int64 → Int64 → Int32 → Int32 → mz_St → Option (Int32 × mz_St)) (hK6 : ∀ (x1 : Int64) (x3 : Int64) (x5 : Int32) (x6 : Int32) (t : mz_St), K6 x1 x3 x5 x6 t = some res → ∀ (H : Heap) (locs : List Loc) (ls : Array Slot), mz_Wd mz_tM 55 mz_cl dC dI ad en ca s t H locs → lv_has ls 7 [(0, .ref (ad 0)), (1, .long x1), (3, .long x3), (5, .int x5), (6, .int x6)] → W p l e (r_MO_constantOf) s m args below meth c H locs 0 0 (MQ below (mz_Q SX mz_tM 55 mz_cl dC dI ad en ca (some (.int res.1)) res.2) args s 0 0 (mz_A ad 55)) (F0 m 6 ls [])) : ∀ (x1 : Int64) (x3 : Int64) (x6 : Int32) (s0 : Int32) (t : mz_St), f_MO_constantOf_46 n K6 x1 x3 x6 s0 t = some res → ∀ (H : Heap) (locs : List Loc) (ls : Array Slot), mz_Wd mz_tM 55 mz_cl dC dI ad en ca s t H locs → lv_has ls 7 [(0, .ref (ad 0)), (1, .long x1), (3, .long x3), (6, .int x6)] → W p l e (r_MO_constantOf) s m args below meth c H locs 0 0 (MQ below (mz_Q SX mz_tM 55 mz_cl dC dI ad en ca (some (.int res.1)) res.2) args s 0 0 (mz_A ad 55)) (F0 m 46 ls [.int s0]) := by
  obtain ⟨hx, hb, hml, hown, hcx, -, -, hSX, -, -, hSK⟩ := id E
  intro x1 x3 x6 s0 t hf H locs ls w hl
  unfold f_MO_constantOf_46 at hf
  refine lv_istore (lv' := [(5, .int s0), (0, .ref (ad 0)), (1, .long x1), (3, .long x3), (6, .int x6)]) hx hb d_MO_constantOf_46 hl (by decide) rfl (fun ls hl => ?_)
  refine lv_iinc (v := (x6 + (1 : Int32))) (lv' := [(6, .int (x6 + (1 : Int32))), (5, .int s0), (0, .ref (ad 0)), (1, .long x1), (3, .long x3)]) hx hb d_MO_constantOf_48 hl (k := 4) rfl rfl (by decide) rfl (fun ls hl => ?_)
  refine lv_goto (tgt := 6) hx hb d_MO_constantOf_51 (by decide) ?_
  exact hK6 x1 x3 s0 (x6 + (1 : Int32)) t hf _ _ _ w (lv_sub hl [2, 3, 4, 1, 0] rfl)
set_option maxRecDepth 100000 in
set_option maxHeartbeats 4000000 in
theorem b_MO_constantOf_44 {SX : State → Heap → Prop} {dC : Nat → ClassId} {dI : Nat → Nat → Nat} {ad en : Nat → Nat} {ca : Nat → ClassId} {p : Program} {l : Launch} {e : Env} {s : State} {m : MethodId} {args : Array Value} {below : List Frame} {meth : Method} {c : Code} {res : (Int32 × mz_St)} (E : mz_En SX 55 mz_cl dC dI ad ca p s m meth c prog_15_method_27_code 7 "MacroHouseModel" (some (.int))) (n : Nat) (K6 : Int64 → Int64 → Int32 → Int32 → mz_St → Option (Int32 × mz_St)) (hK6 : ∀ (x1 : Int64) (x3 : Int64) (x5 : Int32) (x6 : Int32) (t : mz_St), K6 x1 x3 x5 x6 t = some res → ∀ (H : Heap) (locs : List Loc) (ls : Array Slot), mz_Wd mz_tM 55 mz_cl dC dI ad en ca s t H locs → lv_has ls 7 [(0, .ref (ad 0)), (1, .long x1), (3, .long x3), (5, .int x5), (6, .int x6)] → W p l e (r_MO_constantOf) s m args below meth c H locs 0 0 (MQ below (mz_Q SX mz_tM 55 mz_cl dC dI ad en ca (some (.int res.1)) res.2) args s 0 0 (mz_A ad 55)) (F0 m 6 ls [])) : ∀ (x1 : Int64) (x3 : Int64) (x5 : Int32) (x6 : Int32) (t : mz_St), f_MO_constantOf_44 n K6 x1 x3 x5 x6 t = some res → ∀ (H : Heap) (locs : List Loc) (ls : Array Slot), mz_Wd mz_tM 55 mz_cl dC dI ad en ca s t H locs → lv_has ls 7 [(0, .ref (ad 0)), (1, .long x1), (3, .long x3), (5, .int x5), (6, .int x6)] → W p l e (r_MO_constantOf) s m args below meth c H locs 0 0 (MQ below (mz_Q SX mz_tM 55 mz_cl dC dI ad en ca (some (.int res.1)) res.2) args s 0 0 (mz_A ad 55)) (F0 m 44 ls []) := by
  obtain ⟨hx, hb, hml, hown, hcx, -, -, hSX, -, -, hSK⟩ := id E
  intro x1 x3 x5 x6 t hf H locs ls w hl
  unfold f_MO_constantOf_44 at hf
  refine lv_iload hx hb d_MO_constantOf_44 (lv_at hl 3 rfl) ?_
  exact b_MO_constantOf_46 E n K6 hK6 x1 x3 x6 x5 t hf _ _ _ w (lv_sub hl [0, 1, 2, 4] rfl)
set_option maxRecDepth 100000 in
set_option maxHeartbeats 4000000 in
theorem b_MO_constantOf_6 {SX : State → Heap → Prop} {dC : Nat → ClassId} {dI : Nat → Nat → Nat} {ad en : Nat → Nat} {ca : Nat → ClassId} {p : Program} {l : Launch} {e : Env} {s : State} {m : MethodId} {args : Array Value} {below : List Frame} {meth : Method} {c : Code} {res : (Int32 × mz_St)} (E : mz_En SX 55 mz_cl dC dI ad ca p s m meth c prog_15_method_27_code 7 "MacroHouseModel" (some (.int))) (n : Nat) (k : Nat) : ∀ (x1 : Int64) (x3 : Int64) (x5 : Int32) (x6 : Int32) (t : mz_St), f_MO_constantOf_6 n k x1 x3 x5 x6 t = some res → ∀ (H : Heap) (locs : List Loc) (ls : Array Slot), mz_Wd mz_tM 55 mz_cl dC dI ad en ca s t H locs → lv_has ls 7 [(0, .ref (ad 0)), (1, .long x1), (3, .long x3), (5, .int x5), (6, .int x6)] → W p l e (r_MO_constantOf) s m args below meth c H locs 0 0 (MQ below (mz_Q SX mz_tM 55 mz_cl dC dI ad en ca (some (.int res.1)) res.2) args s 0 0 (mz_A ad 55)) (F0 m 6 ls []) := by
  obtain ⟨hx, hb, hml, hown, hcx, -, -, hSX, -, -, hSK⟩ := id E
  induction k with
  | zero => intro x1 x3 x5 x6 t hf; exact absurd hf (by unfold f_MO_constantOf_6; exact fun h => nomatch h)
  | succ k ih =>
    intro x1 x3 x5 x6 t hf H locs ls w hl
    unfold f_MO_constantOf_6 at hf
    refine lv_iload hx hb d_MO_constantOf_6 (lv_at hl 4 rfl) ?_
    refine lv_aload_n hx hb d_MO_constantOf_8 rfl (lv_at hl 0 rfl) ?_
    refine mz_get E w 0 24 (v := .int (mz_gI t 0 24)) (by decide) rfl rfl ii_11 (by decide) (Nat.le_of_ble_eq_true rfl) k_1207 rfl d_MO_constantOf_9 ?_
    refine lv_icmp_ge (tgt := 54) hx hb d_MO_constantOf_12 (by decide) (fun hc1 => ?_) (fun hc1 => ?_)
    · have hf := mz_t hc1 hf
      refine lv_iload hx hb d_MO_constantOf_54 (lv_at hl 3 rfl) ?_
      obtain rfl := Option.some.inj hf
      exact mz_iret E w rfl d_MO_constantOf_56
    · have hf := mz_f hc1 hf
      refine lv_aload_n hx hb d_MO_constantOf_15 rfl (lv_at hl 0 rfl) ?_
      refine mz_get E w 0 25 (v := .ref (ad 15)) (by decide) rfl rfl ii_11 (by decide) (Nat.le_of_ble_eq_true rfl) k_1208 rfl d_MO_constantOf_16 ?_
      refine lv_iload hx hb d_MO_constantOf_19 (lv_at hl 4 rfl) ?_
      obtain ⟨hi2, hf⟩ := mz_gd hf
      refine mz_lald E w 15 (by decide) rfl hi2 d_MO_constantOf_21 ?_
      refine lv_lload_n hx hb d_MO_constantOf_22 rfl (lv_at hl 1 rfl) ?_
      refine W.lcmp hx hb d_MO_constantOf_23 ?_
      refine lv_if_ne (tgt := 44) hx hb d_MO_constantOf_24 (by decide) (fun hc3 => ?_) (fun hc3 => ?_)
      · have hf := mz_f hc3 hf
        exact b_MO_constantOf_44 E n (f_MO_constantOf_6 n k) ih x1 x3 x5 x6 t hf _ _ _ w (lv_sub hl [0, 1, 2, 3, 4] rfl)
      · have hf := mz_t hc3 hf
        refine lv_aload_n hx hb d_MO_constantOf_27 rfl (lv_at hl 0 rfl) ?_
        refine mz_get E w 0 26 (v := .ref (ad 16)) (by decide) rfl rfl ii_11 (by decide) (Nat.le_of_ble_eq_true rfl) k_1209 rfl d_MO_constantOf_28 ?_
        refine lv_iload hx hb d_MO_constantOf_31 (lv_at hl 4 rfl) ?_
        obtain ⟨hi4, hf⟩ := mz_gd hf
        refine mz_lald E w 16 (by decide) rfl hi4 d_MO_constantOf_33 ?_
        refine lv_lload_n hx hb d_MO_constantOf_34 rfl (lv_at hl 2 rfl) ?_
        refine W.lcmp hx hb d_MO_constantOf_35 ?_
        refine lv_if_ne (tgt := 44) hx hb d_MO_constantOf_36 (by decide) (fun hc5 => ?_) (fun hc5 => ?_)
        · have hf := mz_f hc5 hf
          exact b_MO_constantOf_44 E n (f_MO_constantOf_6 n k) ih x1 x3 x5 x6 t hf _ _ _ w (lv_sub hl [0, 1, 2, 3, 4] rfl)
        · have hf := mz_t hc5 hf
          refine lv_iload hx hb d_MO_constantOf_39 (lv_at hl 4 rfl) ?_
          refine lv_goto (tgt := 46) hx hb d_MO_constantOf_41 (by decide) ?_
          exact b_MO_constantOf_46 E n (f_MO_constantOf_6 n k) ih x1 x3 x6 x6 t hf _ _ _ w (lv_sub hl [0, 1, 2, 4] rfl)
set_option maxRecDepth 100000 in
set_option maxHeartbeats 4000000 in
theorem c_MO_constantOf {SX : State → Heap → Prop} {dC : Nat → ClassId} {dI : Nat → Nat → Nat} {ad en : Nat → Nat} {ca : Nat → ClassId} (hSK : mz_SK SX ad 55) (l : Launch) (n : Nat) (x1 : Int64) (x3 : Int64) (t : mz_St) (res : (Int32 × mz_St)) (hf : f_MO_constantOf n x1 x3 t = some res) : mz_C SX mz_tM 55 mz_cl dC dI ad en ca l y_MO_constantOf prog_15_method_27_code 7 (some (.int)) (r_MO_constantOf) [.ref (ad 0), .long x1, .long x3] t (some (.int res.1)) res.2 := by
  unfold f_MO_constantOf at hf
  refine mz_met hSK (by decide) (Nat.le_of_ble_eq_true rfl) ?_
  intro p e s m args below meth c ls E w hl
  obtain ⟨hx, hb, hml, hown, hcx, -, -, hSX, -, -, -⟩ := id E
  have hl : lv_has ls 7 [(0, .ref (ad 0)), (1, .long x1), (3, .long x3)] := hl
  refine lv_iconst (v := (-1 : Int32)) hx hb d_MO_constantOf_0 (by decide) ?_
  refine lv_istore (lv' := [(5, .int (-1 : Int32)), (0, .ref (ad 0)), (1, .long x1), (3, .long x3)]) hx hb d_MO_constantOf_1 hl (by decide) rfl (fun ls hl => ?_)
  refine lv_iconst (v := (0 : Int32)) hx hb d_MO_constantOf_3 (by decide) ?_
  refine lv_istore (lv' := [(6, .int (0 : Int32)), (5, .int (-1 : Int32)), (0, .ref (ad 0)), (1, .long x1), (3, .long x3)]) hx hb d_MO_constantOf_4 hl (by decide) rfl (fun ls hl => ?_)
  exact b_MO_constantOf_6 E n n x1 x3 (-1 : Int32) (0 : Int32) t hf _ _ _ w (lv_sub hl [2, 3, 4, 1, 0] rfl)

/-! MacroHouseModel.met(I)V -/
abbrev r_MO_met : Room := { frames := 0, cells := 0, slots := 0, locals := 0 }
def f_MO_met_16 (n : Nat) (s1 : Int32) (t : mz_St) : Option mz_St := mz_let (mz_pI t 0 64 s1) fun t2 => some t2
def f_MO_met (n : Nat) (x1 : Int32) (t : mz_St) : Option mz_St := if (mz_gI t 0 64) = 0 then (f_MO_met_16 n x1 t) else (f_MO_met_16 n (mz_gI t 0 64) t)
set_option maxRecDepth 100000 in
set_option maxHeartbeats 4000000 in
theorem b_MO_met_16 {SX : State → Heap → Prop} {dC : Nat → ClassId} {dI : Nat → Nat → Nat} {ad en : Nat → Nat} {ca : Nat → ClassId} {p : Program} {l : Launch} {e : Env} {s : State} {m : MethodId} {args : Array Value} {below : List Frame} {meth : Method} {c : Code} {res : mz_St} (E : mz_En SX 55 mz_cl dC dI ad ca p s m meth c prog_15_method_29_code 2 "MacroHouseModel" none) (n : Nat) : ∀ (s1 : Int32) (t : mz_St), f_MO_met_16 n s1 t = some res → ∀ (H : Heap) (locs : List Loc) (ls : Array Slot), mz_Wd mz_tM 55 mz_cl dC dI ad en ca s t H locs → lv_has ls 2 [] → W p l e (r_MO_met) s m args below meth c H locs 0 0 (MQ below (mz_Q SX mz_tM 55 mz_cl dC dI ad en ca none res) args s 0 0 (mz_A ad 55)) (F0 m 16 ls [.int s1, .ref (ad 0)]) := by
  obtain ⟨hx, hb, hml, hown, hcx, -, -, hSX, -, -, hSK⟩ := id E
  intro s1 t hf H locs ls w hl
  unfold f_MO_met_16 at hf
  refine mz_put E w 0 64 (v := s1) (by decide) rfl rfl ii_11 tk_11 nm_11 (by decide) (Nat.le_of_ble_eq_true rfl) k_1247 rfl (tk_11 64 (by decide)) rfl rfl rfl d_MO_met_16 (fun H locs w => ?_)
  obtain ⟨t2, e_t2, hf⟩ := mz_lt hf
  rw [← e_t2] at w
  obtain rfl := Option.some.inj hf
  exact mz_vret E w rfl d_MO_met_19
set_option maxRecDepth 100000 in
set_option maxHeartbeats 4000000 in
theorem c_MO_met {SX : State → Heap → Prop} {dC : Nat → ClassId} {dI : Nat → Nat → Nat} {ad en : Nat → Nat} {ca : Nat → ClassId} (hSK : mz_SK SX ad 55) (l : Launch) (n : Nat) (x1 : Int32) (t : mz_St) (res : mz_St) (hf : f_MO_met n x1 t = some res) : mz_C SX mz_tM 55 mz_cl dC dI ad en ca l y_MO_met prog_15_method_29_code 2 none (r_MO_met) [.ref (ad 0), .int x1] t none res := by
  unfold f_MO_met at hf
  refine mz_met hSK (by decide) (Nat.le_of_ble_eq_true rfl) ?_
  intro p e s m args below meth c ls E w hl
  obtain ⟨hx, hb, hml, hown, hcx, -, -, hSX, -, -, -⟩ := id E
  have hl : lv_has ls 2 [(0, .ref (ad 0)), (1, .int x1)] := hl
  refine lv_aload_n hx hb d_MO_met_0 rfl (lv_at hl 0 rfl) ?_
  refine lv_aload_n hx hb d_MO_met_1 rfl (lv_at hl 0 rfl) ?_
  refine mz_get E w 0 64 (v := .int (mz_gI t 0 64)) (by decide) rfl rfl ii_11 (by decide) (Nat.le_of_ble_eq_true rfl) k_1247 rfl d_MO_met_2 ?_
  refine lv_if_ne (tgt := 12) hx hb d_MO_met_5 (by decide) (fun hc1 => ?_) (fun hc1 => ?_)
  · have hf := mz_f hc1 hf
    refine lv_aload_n hx hb d_MO_met_12 rfl (lv_at hl 0 rfl) ?_
    refine mz_get E w 0 64 (v := .int (mz_gI t 0 64)) (by decide) rfl rfl ii_11 (by decide) (Nat.le_of_ble_eq_true rfl) k_1247 rfl d_MO_met_13 ?_
    exact b_MO_met_16 E n (mz_gI t 0 64) t hf _ _ _ w (lv_sub hl [] rfl)
  · have hf := mz_t hc1 hf
    refine lv_iload_n hx hb d_MO_met_8 rfl (lv_at hl 1 rfl) ?_
    refine lv_goto (tgt := 16) hx hb d_MO_met_9 (by decide) ?_
    exact b_MO_met_16 E n x1 t hf _ _ _ w (lv_sub hl [] rfl)

/-! MacroHouseModel.divided(IIZ)I -/
abbrev r_MO_divided : Room := { frames := 1, cells := 0, slots := 0, locals := 21 }
def f_MO_divided (n : Nat) (x1 : Int32) (x2 : Int32) (x3 : Int32) (t : mz_St) : Option (Int32 × mz_St) := if x2 = 0 then ((f_MO_met n (4 : Int32) t).bind fun q5 => some ((0 : Int32), q5)) else (if x3 = 0 then (if ¬ x2.toInt64 = 0 then (some ((x1.toInt64 / x2.toInt64).toInt32, t)) else none) else (if ¬ x2.toInt64 = 0 then (some ((x1.toInt64 - x1.toInt64 / x2.toInt64 * x2.toInt64).toInt32, t)) else none))
set_option maxRecDepth 100000 in
set_option maxHeartbeats 4000000 in
theorem c_MO_divided {SX : State → Heap → Prop} {dC : Nat → ClassId} {dI : Nat → Nat → Nat} {ad en : Nat → Nat} {ca : Nat → ClassId} (hSK : mz_SK SX ad 55) (l : Launch) (n : Nat) (x1 : Int32) (x2 : Int32) (x3 : Int32) (t : mz_St) (res : (Int32 × mz_St)) (hf : f_MO_divided n x1 x2 x3 t = some res) : mz_C SX mz_tM 55 mz_cl dC dI ad en ca l y_MO_divided prog_15_method_31_code 4 (some (.int)) (r_MO_divided) [.ref (ad 0), .int x1, .int x2, .int x3] t (some (.int res.1)) res.2 := by
  unfold f_MO_divided at hf
  refine mz_met hSK (by decide) (Nat.le_of_ble_eq_true rfl) ?_
  intro p e s m args below meth c ls E w hl
  obtain ⟨hx, hb, hml, hown, hcx, -, -, hSX, -, -, -⟩ := id E
  have hl : lv_has ls 4 [(0, .ref (ad 0)), (1, .int x1), (2, .int x2), (3, .int x3)] := hl
  refine lv_iload_n hx hb d_MO_divided_0 rfl (lv_at hl 2 rfl) ?_
  refine lv_if_ne (tgt := 11) hx hb d_MO_divided_1 (by decide) (fun hc1 => ?_) (fun hc1 => ?_)
  · have hf := mz_f hc1 hf
    refine lv_iload_n hx hb d_MO_divided_11 rfl (lv_at hl 3 rfl) ?_
    refine lv_if_eq (tgt := 24) hx hb d_MO_divided_12 (by decide) (fun hc2 => ?_) (fun hc2 => ?_)
    · have hf := mz_t hc2 hf
      refine lv_iload_n hx hb d_MO_divided_24 rfl (lv_at hl 1 rfl) ?_
      refine lv_i2l (v := x1.toInt64) hx hb d_MO_divided_25 rfl ?_
      refine lv_iload_n hx hb d_MO_divided_26 rfl (lv_at hl 2 rfl) ?_
      refine lv_i2l (v := x2.toInt64) hx hb d_MO_divided_27 rfl ?_
      obtain ⟨hz3, hf⟩ := mz_gd hf
      refine lv_ldiv hx hb d_MO_divided_28 hz3 ?_
      refine lv_l2i (v := (x1.toInt64 / x2.toInt64).toInt32) hx hb d_MO_divided_29 rfl ?_
      obtain rfl := Option.some.inj hf
      exact mz_iret E w rfl d_MO_divided_30
    · have hf := mz_f hc2 hf
      refine lv_iload_n hx hb d_MO_divided_15 rfl (lv_at hl 1 rfl) ?_
      refine lv_i2l (v := x1.toInt64) hx hb d_MO_divided_16 rfl ?_
      refine lv_iload_n hx hb d_MO_divided_17 rfl (lv_at hl 2 rfl) ?_
      refine lv_i2l (v := x2.toInt64) hx hb d_MO_divided_18 rfl ?_
      obtain ⟨hz4, hf⟩ := mz_gd hf
      refine lv_lrem hx hb d_MO_divided_19 hz4 ?_
      refine lv_l2i (v := (x1.toInt64 - x1.toInt64 / x2.toInt64 * x2.toInt64).toInt32) hx hb d_MO_divided_20 rfl ?_
      refine lv_goto (tgt := 30) hx hb d_MO_divided_21 (by decide) ?_
      obtain rfl := Option.some.inj hf
      exact mz_iret E w rfl d_MO_divided_30
  · have hf := mz_t hc1 hf
    refine lv_aload_n hx hb d_MO_divided_4 rfl (lv_at hl 0 rfl) ?_
    refine lv_iconst (v := (4 : Int32)) hx hb d_MO_divided_5 (by decide) ?_
    obtain ⟨q5, hq6, hf⟩ := mz_bd hf
    refine mz_callV E w (k := 0) (As := [.int (4 : Int32)]) (rest := []) (c_MO_met hSK l n (4 : Int32) t q5 hq6) (by decide) rfl rfl k_1581 k_15 k_1578 k_1580 ks_75 hm_MO_met ⟨⟨rfl, rfl⟩, Nat.le_of_ble_eq_true rfl, Nat.le_of_ble_eq_true rfl⟩ rfl hl.1 rfl (Nat.le_of_ble_eq_true rfl) d_MO_divided_6 ⟨Nat.zero_le _, Nat.zero_le _⟩ (st1 := []) rfl (fun H locs w => ?_)
    refine lv_iconst (v := (0 : Int32)) hx hb d_MO_divided_9 (by decide) ?_
    obtain rfl := Option.some.inj hf
    exact mz_iret E w rfl d_MO_divided_10

/-! MacroHouseModel.product(II)I -/
abbrev r_MO_product : Room := { frames := 2, cells := 0, slots := 0, locals := 44 }
def f_MO_product (n : Nat) (x1 : Int32) (x2 : Int32) (t : mz_St) : Option (Int32 × mz_St) := if ¬ (x1 < 0 ∨ 12 ≤ x1.toNatClampNeg) then (if ¬ (x1 < 0 ∨ 12 ≤ x1.toNatClampNeg) then (if (mz_gI t 47 x1.toNatClampNeg) = (42 : Int32) then (some (((mz_gI t 50 x1.toNatClampNeg) * x2), t)) else (if ¬ (x1 < 0 ∨ 12 ≤ x1.toNatClampNeg) then (if (mz_gI t 47 x1.toNatClampNeg) = (47 : Int32) then ((f_MO_divided n (mz_gI t 50 x1.toNatClampNeg) x2 (0 : Int32) t).bind fun q10 => some (q10.1, q10.2)) else (if ¬ (x1 < 0 ∨ 12 ≤ x1.toNatClampNeg) then (if (mz_gI t 47 x1.toNatClampNeg) = (37 : Int32) then ((f_MO_divided n (mz_gI t 50 x1.toNatClampNeg) x2 (1 : Int32) t).bind fun q8 => some (q8.1, q8.2)) else (some (x2, t))) else none)) else none)) else none) else none
set_option maxRecDepth 100000 in
set_option maxHeartbeats 4000000 in
theorem c_MO_product {SX : State → Heap → Prop} {dC : Nat → ClassId} {dI : Nat → Nat → Nat} {ad en : Nat → Nat} {ca : Nat → ClassId} (hSK : mz_SK SX ad 55) (l : Launch) (n : Nat) (x1 : Int32) (x2 : Int32) (t : mz_St) (res : (Int32 × mz_St)) (hf : f_MO_product n x1 x2 t = some res) : mz_C SX mz_tM 55 mz_cl dC dI ad en ca l y_MO_product prog_15_method_32_code 4 (some (.int)) (r_MO_product) [.ref (ad 0), .int x1, .int x2] t (some (.int res.1)) res.2 := by
  unfold f_MO_product at hf
  refine mz_met hSK (by decide) (Nat.le_of_ble_eq_true rfl) ?_
  intro p e s m args below meth c ls E w hl
  obtain ⟨hx, hb, hml, hown, hcx, -, -, hSX, -, -, -⟩ := id E
  have hl : lv_has ls 4 [(0, .ref (ad 0)), (1, .int x1), (2, .int x2)] := hl
  refine lv_aload_n hx hb d_MO_product_0 rfl (lv_at hl 0 rfl) ?_
  refine mz_get E w 0 74 (v := .ref (ad 50)) (by decide) rfl rfl ii_11 (by decide) (Nat.le_of_ble_eq_true rfl) k_1257 rfl d_MO_product_1 ?_
  refine lv_iload_n hx hb d_MO_product_4 rfl (lv_at hl 1 rfl) ?_
  obtain ⟨hi1, hf⟩ := mz_gd hf
  refine mz_iald E w 50 (by decide) rfl hi1 d_MO_product_5 ?_
  refine lv_istore_n (lv' := [(3, .int (mz_gI t 50 x1.toNatClampNeg)), (0, .ref (ad 0)), (1, .int x1), (2, .int x2)]) hx hb d_MO_product_6 rfl hl (by decide) rfl (fun ls hl => ?_)
  refine lv_aload_n hx hb d_MO_product_7 rfl (lv_at hl 1 rfl) ?_
  refine mz_get E w 0 71 (v := .ref (ad 47)) (by decide) rfl rfl ii_11 (by decide) (Nat.le_of_ble_eq_true rfl) k_1254 rfl d_MO_product_8 ?_
  refine lv_iload_n hx hb d_MO_product_11 rfl (lv_at hl 2 rfl) ?_
  obtain ⟨hi2, hf⟩ := mz_gd hf
  refine mz_iald E w 47 (by decide) rfl hi2 d_MO_product_12 ?_
  refine lv_bipush (v := (42 : Int32)) hx hb d_MO_product_13 (by decide) ?_
  refine lv_icmp_ne (tgt := 24) hx hb d_MO_product_15 (by decide) (fun hc3 => ?_) (fun hc3 => ?_)
  · have hf := mz_f hc3 hf
    refine lv_aload_n hx hb d_MO_product_24 rfl (lv_at hl 1 rfl) ?_
    refine mz_get E w 0 71 (v := .ref (ad 47)) (by decide) rfl rfl ii_11 (by decide) (Nat.le_of_ble_eq_true rfl) k_1254 rfl d_MO_product_25 ?_
    refine lv_iload_n hx hb d_MO_product_28 rfl (lv_at hl 2 rfl) ?_
    obtain ⟨hi4, hf⟩ := mz_gd hf
    refine mz_iald E w 47 (by decide) rfl hi4 d_MO_product_29 ?_
    refine lv_bipush (v := (47 : Int32)) hx hb d_MO_product_30 (by decide) ?_
    refine lv_icmp_ne (tgt := 45) hx hb d_MO_product_32 (by decide) (fun hc5 => ?_) (fun hc5 => ?_)
    · have hf := mz_f hc5 hf
      refine lv_aload_n hx hb d_MO_product_45 rfl (lv_at hl 1 rfl) ?_
      refine mz_get E w 0 71 (v := .ref (ad 47)) (by decide) rfl rfl ii_11 (by decide) (Nat.le_of_ble_eq_true rfl) k_1254 rfl d_MO_product_46 ?_
      refine lv_iload_n hx hb d_MO_product_49 rfl (lv_at hl 2 rfl) ?_
      obtain ⟨hi6, hf⟩ := mz_gd hf
      refine mz_iald E w 47 (by decide) rfl hi6 d_MO_product_50 ?_
      refine lv_bipush (v := (37 : Int32)) hx hb d_MO_product_51 (by decide) ?_
      refine lv_icmp_ne (tgt := 66) hx hb d_MO_product_53 (by decide) (fun hc7 => ?_) (fun hc7 => ?_)
      · have hf := mz_f hc7 hf
        refine lv_iload_n hx hb d_MO_product_66 rfl (lv_at hl 3 rfl) ?_
        obtain rfl := Option.some.inj hf
        exact mz_iret E w rfl d_MO_product_67
      · have hf := mz_t hc7 hf
        refine lv_aload_n hx hb d_MO_product_56 rfl (lv_at hl 1 rfl) ?_
        refine lv_iload_n hx hb d_MO_product_57 rfl (lv_at hl 0 rfl) ?_
        refine lv_iload_n hx hb d_MO_product_58 rfl (lv_at hl 3 rfl) ?_
        refine lv_iconst (v := (1 : Int32)) hx hb d_MO_product_59 (by decide) ?_
        obtain ⟨q8, hq9, hf⟩ := mz_bd hf
        refine mz_callV E w (k := 0) (As := [.int (mz_gI t 50 x1.toNatClampNeg), .int x2, .int (1 : Int32)]) (rest := []) (c_MO_divided hSK l n (mz_gI t 50 x1.toNatClampNeg) x2 (1 : Int32) t q8 hq9) (by decide) rfl rfl k_1589 k_15 k_1586 k_1588 ks_77 hm_MO_divided ⟨⟨rfl, rfl⟩, Nat.le_of_ble_eq_true rfl, Nat.le_of_ble_eq_true rfl⟩ rfl hl.1 rfl (Nat.le_of_ble_eq_true rfl) d_MO_product_60 ⟨Nat.zero_le _, Nat.zero_le _⟩ (st1 := [.int q8.1]) rfl (fun H locs w => ?_)
        refine lv_goto (tgt := 67) hx hb d_MO_product_63 (by decide) ?_
        obtain rfl := Option.some.inj hf
        exact mz_iret E w rfl d_MO_product_67
    · have hf := mz_t hc5 hf
      refine lv_aload_n hx hb d_MO_product_35 rfl (lv_at hl 1 rfl) ?_
      refine lv_iload_n hx hb d_MO_product_36 rfl (lv_at hl 0 rfl) ?_
      refine lv_iload_n hx hb d_MO_product_37 rfl (lv_at hl 3 rfl) ?_
      refine lv_iconst (v := (0 : Int32)) hx hb d_MO_product_38 (by decide) ?_
      obtain ⟨q10, hq11, hf⟩ := mz_bd hf
      refine mz_callV E w (k := 0) (As := [.int (mz_gI t 50 x1.toNatClampNeg), .int x2, .int (0 : Int32)]) (rest := []) (c_MO_divided hSK l n (mz_gI t 50 x1.toNatClampNeg) x2 (0 : Int32) t q10 hq11) (by decide) rfl rfl k_1589 k_15 k_1586 k_1588 ks_77 hm_MO_divided ⟨⟨rfl, rfl⟩, Nat.le_of_ble_eq_true rfl, Nat.le_of_ble_eq_true rfl⟩ rfl hl.1 rfl (Nat.le_of_ble_eq_true rfl) d_MO_product_39 ⟨Nat.zero_le _, Nat.zero_le _⟩ (st1 := [.int q10.1]) rfl (fun H locs w => ?_)
      refine lv_goto (tgt := 67) hx hb d_MO_product_42 (by decide) ?_
      obtain rfl := Option.some.inj hf
      exact mz_iret E w rfl d_MO_product_67
  · have hf := mz_t hc3 hf
    refine lv_iload_n hx hb d_MO_product_18 rfl (lv_at hl 0 rfl) ?_
    refine lv_iload_n hx hb d_MO_product_19 rfl (lv_at hl 3 rfl) ?_
    refine lv_imul hx hb d_MO_product_20 ?_
    refine lv_goto (tgt := 67) hx hb d_MO_product_21 (by decide) ?_
    obtain rfl := Option.some.inj hf
    exact mz_iret E w rfl d_MO_product_67

/-! MacroHouseModel.sum(II)I -/
abbrev r_MO_sum : Room := { frames := 0, cells := 0, slots := 0, locals := 0 }
def f_MO_sum (n : Nat) (x1 : Int32) (x2 : Int32) (t : mz_St) : Option (Int32 × mz_St) := if ¬ (x1 < 0 ∨ 12 ≤ x1.toNatClampNeg) then (if (mz_gI t 46 x1.toNatClampNeg) = (43 : Int32) then (if ¬ (x1 < 0 ∨ 12 ≤ x1.toNatClampNeg) then (some (((mz_gI t 49 x1.toNatClampNeg) + x2), t)) else none) else (if ¬ (x1 < 0 ∨ 12 ≤ x1.toNatClampNeg) then (if (mz_gI t 46 x1.toNatClampNeg) = (45 : Int32) then (if ¬ (x1 < 0 ∨ 12 ≤ x1.toNatClampNeg) then (some (((mz_gI t 49 x1.toNatClampNeg) - x2), t)) else none) else (some (x2, t))) else none)) else none
set_option maxRecDepth 100000 in
set_option maxHeartbeats 4000000 in
theorem c_MO_sum {SX : State → Heap → Prop} {dC : Nat → ClassId} {dI : Nat → Nat → Nat} {ad en : Nat → Nat} {ca : Nat → ClassId} (hSK : mz_SK SX ad 55) (l : Launch) (n : Nat) (x1 : Int32) (x2 : Int32) (t : mz_St) (res : (Int32 × mz_St)) (hf : f_MO_sum n x1 x2 t = some res) : mz_C SX mz_tM 55 mz_cl dC dI ad en ca l y_MO_sum prog_15_method_33_code 3 (some (.int)) (r_MO_sum) [.ref (ad 0), .int x1, .int x2] t (some (.int res.1)) res.2 := by
  unfold f_MO_sum at hf
  refine mz_met hSK (by decide) (Nat.le_of_ble_eq_true rfl) ?_
  intro p e s m args below meth c ls E w hl
  obtain ⟨hx, hb, hml, hown, hcx, -, -, hSX, -, -, -⟩ := id E
  have hl : lv_has ls 3 [(0, .ref (ad 0)), (1, .int x1), (2, .int x2)] := hl
  refine lv_aload_n hx hb d_MO_sum_0 rfl (lv_at hl 0 rfl) ?_
  refine mz_get E w 0 70 (v := .ref (ad 46)) (by decide) rfl rfl ii_11 (by decide) (Nat.le_of_ble_eq_true rfl) k_1253 rfl d_MO_sum_1 ?_
  refine lv_iload_n hx hb d_MO_sum_4 rfl (lv_at hl 1 rfl) ?_
  obtain ⟨hi1, hf⟩ := mz_gd hf
  refine mz_iald E w 46 (by decide) rfl hi1 d_MO_sum_5 ?_
  refine lv_bipush (v := (43 : Int32)) hx hb d_MO_sum_6 (by decide) ?_
  refine lv_icmp_ne (tgt := 22) hx hb d_MO_sum_8 (by decide) (fun hc2 => ?_) (fun hc2 => ?_)
  · have hf := mz_f hc2 hf
    refine lv_aload_n hx hb d_MO_sum_22 rfl (lv_at hl 0 rfl) ?_
    refine mz_get E w 0 70 (v := .ref (ad 46)) (by decide) rfl rfl ii_11 (by decide) (Nat.le_of_ble_eq_true rfl) k_1253 rfl d_MO_sum_23 ?_
    refine lv_iload_n hx hb d_MO_sum_26 rfl (lv_at hl 1 rfl) ?_
    obtain ⟨hi3, hf⟩ := mz_gd hf
    refine mz_iald E w 46 (by decide) rfl hi3 d_MO_sum_27 ?_
    refine lv_bipush (v := (45 : Int32)) hx hb d_MO_sum_28 (by decide) ?_
    refine lv_icmp_ne (tgt := 44) hx hb d_MO_sum_30 (by decide) (fun hc4 => ?_) (fun hc4 => ?_)
    · have hf := mz_f hc4 hf
      refine lv_iload_n hx hb d_MO_sum_44 rfl (lv_at hl 2 rfl) ?_
      obtain rfl := Option.some.inj hf
      exact mz_iret E w rfl d_MO_sum_45
    · have hf := mz_t hc4 hf
      refine lv_aload_n hx hb d_MO_sum_33 rfl (lv_at hl 0 rfl) ?_
      refine mz_get E w 0 73 (v := .ref (ad 49)) (by decide) rfl rfl ii_11 (by decide) (Nat.le_of_ble_eq_true rfl) k_1256 rfl d_MO_sum_34 ?_
      refine lv_iload_n hx hb d_MO_sum_37 rfl (lv_at hl 1 rfl) ?_
      obtain ⟨hi5, hf⟩ := mz_gd hf
      refine mz_iald E w 49 (by decide) rfl hi5 d_MO_sum_38 ?_
      refine lv_iload_n hx hb d_MO_sum_39 rfl (lv_at hl 2 rfl) ?_
      refine lv_isub hx hb d_MO_sum_40 ?_
      refine lv_goto (tgt := 45) hx hb d_MO_sum_41 (by decide) ?_
      obtain rfl := Option.some.inj hf
      exact mz_iret E w rfl d_MO_sum_45
  · have hf := mz_t hc2 hf
    refine lv_aload_n hx hb d_MO_sum_11 rfl (lv_at hl 0 rfl) ?_
    refine mz_get E w 0 73 (v := .ref (ad 49)) (by decide) rfl rfl ii_11 (by decide) (Nat.le_of_ble_eq_true rfl) k_1256 rfl d_MO_sum_12 ?_
    refine lv_iload_n hx hb d_MO_sum_15 rfl (lv_at hl 1 rfl) ?_
    obtain ⟨hi6, hf⟩ := mz_gd hf
    refine mz_iald E w 49 (by decide) rfl hi6 d_MO_sum_16 ?_
    refine lv_iload_n hx hb d_MO_sum_17 rfl (lv_at hl 2 rfl) ?_
    refine lv_iadd hx hb d_MO_sum_18 ?_
    refine lv_goto (tgt := 45) hx hb d_MO_sum_19 (by decide) ?_
    obtain rfl := Option.some.inj hf
    exact mz_iret E w rfl d_MO_sum_45

/-! MacroHouseModel.comparison()I -/
abbrev r_MO_comparison : Room := { frames := 2, cells := 0, slots := 0, locals := 40 }
def f_MO_comparison_124 (n : Nat) (x3 : Int32) (s1 : Int32) (t : mz_St) : Option (Int32 × mz_St) := mz_let (mz_pI t 0 61 s1) fun t11 => some (x3, t11)
def f_MO_comparison_91 (n : Nat) (s0 : Int32) (t : mz_St) : Option (Int32 × mz_St) := if s0 = 0 then (f_MO_comparison_124 n s0 (mz_gI t 0 61) t) else (if s0 = (3 : Int32) then (f_MO_comparison_124 n s0 ((mz_gI t 0 61) + (1 : Int32)) t) else (f_MO_comparison_124 n s0 ((mz_gI t 0 61) + (2 : Int32)) t))
def f_MO_comparison_70 (n : Nat) (x1 : Int32) (x2 : Int32) (t : mz_St) : Option (Int32 × mz_St) := if x1 = (60 : Int32) then (if x2 = (61 : Int32) then (f_MO_comparison_91 n (4 : Int32) t) else (f_MO_comparison_91 n (3 : Int32) t)) else (f_MO_comparison_91 n (0 : Int32) t)
def f_MO_comparison_54 (n : Nat) (x1 : Int32) (x2 : Int32) (t : mz_St) : Option (Int32 × mz_St) := if x1 = (33 : Int32) then (if x2 = (61 : Int32) then (f_MO_comparison_91 n (2 : Int32) t) else (f_MO_comparison_70 n x1 x2 t)) else (f_MO_comparison_70 n x1 x2 t)
def f_MO_comparison_37 (n : Nat) (x1 : Int32) (s0 : Int32) (t : mz_St) : Option (Int32 × mz_St) := if x1 = (61 : Int32) then (if s0 = (61 : Int32) then (f_MO_comparison_91 n (1 : Int32) t) else (f_MO_comparison_54 n x1 s0 t)) else (f_MO_comparison_54 n x1 s0 t)
def f_MO_comparison (n : Nat) (t : mz_St) : Option (Int32 × mz_St) := (f_MO_blanks n t).bind fun q1 => (f_MO_here n q1).bind fun q3 => if (mz_gI q3.2 0 60) ≤ ((mz_gI q3.2 0 61) + (1 : Int32)) then (f_MO_comparison_37 n q3.1 (-1 : Int32) q3.2) else (if ¬ (((mz_gI q3.2 0 61) + (1 : Int32)) < 0 ∨ 6000 ≤ ((mz_gI q3.2 0 61) + (1 : Int32)).toNatClampNeg) then (f_MO_comparison_37 n q3.1 (mz_gI q3.2 43 ((mz_gI q3.2 0 61) + (1 : Int32)).toNatClampNeg) q3.2) else none)
set_option maxRecDepth 100000 in
set_option maxHeartbeats 4000000 in
theorem b_MO_comparison_124 {SX : State → Heap → Prop} {dC : Nat → ClassId} {dI : Nat → Nat → Nat} {ad en : Nat → Nat} {ca : Nat → ClassId} {p : Program} {l : Launch} {e : Env} {s : State} {m : MethodId} {args : Array Value} {below : List Frame} {meth : Method} {c : Code} {res : (Int32 × mz_St)} (E : mz_En SX 55 mz_cl dC dI ad ca p s m meth c prog_15_method_35_code 4 "MacroHouseModel" (some (.int))) (n : Nat) : ∀ (x3 : Int32) (s1 : Int32) (t : mz_St), f_MO_comparison_124 n x3 s1 t = some res → ∀ (H : Heap) (locs : List Loc) (ls : Array Slot), mz_Wd mz_tM 55 mz_cl dC dI ad en ca s t H locs → lv_has ls 4 [(3, .int x3)] → W p l e (r_MO_comparison) s m args below meth c H locs 0 0 (MQ below (mz_Q SX mz_tM 55 mz_cl dC dI ad en ca (some (.int res.1)) res.2) args s 0 0 (mz_A ad 55)) (F0 m 124 ls [.int s1, .ref (ad 0)]) := by
  obtain ⟨hx, hb, hml, hown, hcx, -, -, hSX, -, -, hSK⟩ := id E
  intro x3 s1 t hf H locs ls w hl
  unfold f_MO_comparison_124 at hf
  refine mz_put E w 0 61 (v := s1) (by decide) rfl rfl ii_11 tk_11 nm_11 (by decide) (Nat.le_of_ble_eq_true rfl) k_1244 rfl (tk_11 61 (by decide)) rfl rfl rfl d_MO_comparison_124 (fun H locs w => ?_)
  obtain ⟨t11, e_t11, hf⟩ := mz_lt hf
  rw [← e_t11] at w
  refine lv_iload_n hx hb d_MO_comparison_127 rfl (lv_at hl 0 rfl) ?_
  obtain rfl := Option.some.inj hf
  exact mz_iret E w rfl d_MO_comparison_128
set_option maxRecDepth 100000 in
set_option maxHeartbeats 4000000 in
theorem b_MO_comparison_91 {SX : State → Heap → Prop} {dC : Nat → ClassId} {dI : Nat → Nat → Nat} {ad en : Nat → Nat} {ca : Nat → ClassId} {p : Program} {l : Launch} {e : Env} {s : State} {m : MethodId} {args : Array Value} {below : List Frame} {meth : Method} {c : Code} {res : (Int32 × mz_St)} (E : mz_En SX 55 mz_cl dC dI ad ca p s m meth c prog_15_method_35_code 4 "MacroHouseModel" (some (.int))) (n : Nat) : ∀ (s0 : Int32) (t : mz_St), f_MO_comparison_91 n s0 t = some res → ∀ (H : Heap) (locs : List Loc) (ls : Array Slot), mz_Wd mz_tM 55 mz_cl dC dI ad en ca s t H locs → lv_has ls 4 [(0, .ref (ad 0))] → W p l e (r_MO_comparison) s m args below meth c H locs 0 0 (MQ below (mz_Q SX mz_tM 55 mz_cl dC dI ad en ca (some (.int res.1)) res.2) args s 0 0 (mz_A ad 55)) (F0 m 91 ls [.int s0]) := by
  obtain ⟨hx, hb, hml, hown, hcx, -, -, hSX, -, -, hSK⟩ := id E
  intro s0 t hf H locs ls w hl
  unfold f_MO_comparison_91 at hf
  refine lv_istore_n (lv' := [(3, .int s0), (0, .ref (ad 0))]) hx hb d_MO_comparison_91 rfl hl (by decide) rfl (fun ls hl => ?_)
  refine lv_aload_n hx hb d_MO_comparison_92 rfl (lv_at hl 1 rfl) ?_
  refine lv_iload_n hx hb d_MO_comparison_93 rfl (lv_at hl 0 rfl) ?_
  refine lv_if_ne (tgt := 104) hx hb d_MO_comparison_94 (by decide) (fun hc9 => ?_) (fun hc9 => ?_)
  · have hf := mz_f hc9 hf
    refine lv_iload_n hx hb d_MO_comparison_104 rfl (lv_at hl 0 rfl) ?_
    refine lv_iconst (v := (3 : Int32)) hx hb d_MO_comparison_105 (by decide) ?_
    refine lv_icmp_ne (tgt := 118) hx hb d_MO_comparison_106 (by decide) (fun hc10 => ?_) (fun hc10 => ?_)
    · have hf := mz_f hc10 hf
      refine lv_aload_n hx hb d_MO_comparison_118 rfl (lv_at hl 1 rfl) ?_
      refine mz_get E w 0 61 (v := .int (mz_gI t 0 61)) (by decide) rfl rfl ii_11 (by decide) (Nat.le_of_ble_eq_true rfl) k_1244 rfl d_MO_comparison_119 ?_
      refine lv_iconst (v := (2 : Int32)) hx hb d_MO_comparison_122 (by decide) ?_
      refine lv_iadd hx hb d_MO_comparison_123 ?_
      exact b_MO_comparison_124 E n s0 ((mz_gI t 0 61) + (2 : Int32)) t hf _ _ _ w (lv_sub hl [0] rfl)
    · have hf := mz_t hc10 hf
      refine lv_aload_n hx hb d_MO_comparison_109 rfl (lv_at hl 1 rfl) ?_
      refine mz_get E w 0 61 (v := .int (mz_gI t 0 61)) (by decide) rfl rfl ii_11 (by decide) (Nat.le_of_ble_eq_true rfl) k_1244 rfl d_MO_comparison_110 ?_
      refine lv_iconst (v := (1 : Int32)) hx hb d_MO_comparison_113 (by decide) ?_
      refine lv_iadd hx hb d_MO_comparison_114 ?_
      refine lv_goto (tgt := 124) hx hb d_MO_comparison_115 (by decide) ?_
      exact b_MO_comparison_124 E n s0 ((mz_gI t 0 61) + (1 : Int32)) t hf _ _ _ w (lv_sub hl [0] rfl)
  · have hf := mz_t hc9 hf
    refine lv_aload_n hx hb d_MO_comparison_97 rfl (lv_at hl 1 rfl) ?_
    refine mz_get E w 0 61 (v := .int (mz_gI t 0 61)) (by decide) rfl rfl ii_11 (by decide) (Nat.le_of_ble_eq_true rfl) k_1244 rfl d_MO_comparison_98 ?_
    refine lv_goto (tgt := 124) hx hb d_MO_comparison_101 (by decide) ?_
    exact b_MO_comparison_124 E n s0 (mz_gI t 0 61) t hf _ _ _ w (lv_sub hl [0] rfl)
set_option maxRecDepth 100000 in
set_option maxHeartbeats 4000000 in
theorem b_MO_comparison_70 {SX : State → Heap → Prop} {dC : Nat → ClassId} {dI : Nat → Nat → Nat} {ad en : Nat → Nat} {ca : Nat → ClassId} {p : Program} {l : Launch} {e : Env} {s : State} {m : MethodId} {args : Array Value} {below : List Frame} {meth : Method} {c : Code} {res : (Int32 × mz_St)} (E : mz_En SX 55 mz_cl dC dI ad ca p s m meth c prog_15_method_35_code 4 "MacroHouseModel" (some (.int))) (n : Nat) : ∀ (x1 : Int32) (x2 : Int32) (t : mz_St), f_MO_comparison_70 n x1 x2 t = some res → ∀ (H : Heap) (locs : List Loc) (ls : Array Slot), mz_Wd mz_tM 55 mz_cl dC dI ad en ca s t H locs → lv_has ls 4 [(0, .ref (ad 0)), (1, .int x1), (2, .int x2)] → W p l e (r_MO_comparison) s m args below meth c H locs 0 0 (MQ below (mz_Q SX mz_tM 55 mz_cl dC dI ad en ca (some (.int res.1)) res.2) args s 0 0 (mz_A ad 55)) (F0 m 70 ls []) := by
  obtain ⟨hx, hb, hml, hown, hcx, -, -, hSX, -, -, hSK⟩ := id E
  intro x1 x2 t hf H locs ls w hl
  unfold f_MO_comparison_70 at hf
  refine lv_iload_n hx hb d_MO_comparison_70 rfl (lv_at hl 1 rfl) ?_
  refine lv_bipush (v := (60 : Int32)) hx hb d_MO_comparison_71 (by decide) ?_
  refine lv_icmp_ne (tgt := 90) hx hb d_MO_comparison_73 (by decide) (fun hc8 => ?_) (fun hc8 => ?_)
  · have hf := mz_f hc8 hf
    refine lv_iconst (v := (0 : Int32)) hx hb d_MO_comparison_90 (by decide) ?_
    exact b_MO_comparison_91 E n (0 : Int32) t hf _ _ _ w (lv_sub hl [0] rfl)
  · have hf := mz_t hc8 hf
    refine lv_iload_n hx hb d_MO_comparison_76 rfl (lv_at hl 2 rfl) ?_
    refine lv_bipush (v := (61 : Int32)) hx hb d_MO_comparison_77 (by decide) ?_
    refine lv_icmp_ne (tgt := 86) hx hb d_MO_comparison_79 (by decide) (fun hc12 => ?_) (fun hc12 => ?_)
    · have hf := mz_f hc12 hf
      refine lv_iconst (v := (3 : Int32)) hx hb d_MO_comparison_86 (by decide) ?_
      refine lv_goto (tgt := 91) hx hb d_MO_comparison_87 (by decide) ?_
      exact b_MO_comparison_91 E n (3 : Int32) t hf _ _ _ w (lv_sub hl [0] rfl)
    · have hf := mz_t hc12 hf
      refine lv_iconst (v := (4 : Int32)) hx hb d_MO_comparison_82 (by decide) ?_
      refine lv_goto (tgt := 91) hx hb d_MO_comparison_83 (by decide) ?_
      exact b_MO_comparison_91 E n (4 : Int32) t hf _ _ _ w (lv_sub hl [0] rfl)
set_option maxRecDepth 100000 in
set_option maxHeartbeats 4000000 in
theorem b_MO_comparison_54 {SX : State → Heap → Prop} {dC : Nat → ClassId} {dI : Nat → Nat → Nat} {ad en : Nat → Nat} {ca : Nat → ClassId} {p : Program} {l : Launch} {e : Env} {s : State} {m : MethodId} {args : Array Value} {below : List Frame} {meth : Method} {c : Code} {res : (Int32 × mz_St)} (E : mz_En SX 55 mz_cl dC dI ad ca p s m meth c prog_15_method_35_code 4 "MacroHouseModel" (some (.int))) (n : Nat) : ∀ (x1 : Int32) (x2 : Int32) (t : mz_St), f_MO_comparison_54 n x1 x2 t = some res → ∀ (H : Heap) (locs : List Loc) (ls : Array Slot), mz_Wd mz_tM 55 mz_cl dC dI ad en ca s t H locs → lv_has ls 4 [(0, .ref (ad 0)), (1, .int x1), (2, .int x2)] → W p l e (r_MO_comparison) s m args below meth c H locs 0 0 (MQ below (mz_Q SX mz_tM 55 mz_cl dC dI ad en ca (some (.int res.1)) res.2) args s 0 0 (mz_A ad 55)) (F0 m 54 ls []) := by
  obtain ⟨hx, hb, hml, hown, hcx, -, -, hSX, -, -, hSK⟩ := id E
  intro x1 x2 t hf H locs ls w hl
  unfold f_MO_comparison_54 at hf
  refine lv_iload_n hx hb d_MO_comparison_54 rfl (lv_at hl 1 rfl) ?_
  refine lv_bipush (v := (33 : Int32)) hx hb d_MO_comparison_55 (by decide) ?_
  refine lv_icmp_ne (tgt := 70) hx hb d_MO_comparison_57 (by decide) (fun hc7 => ?_) (fun hc7 => ?_)
  · have hf := mz_f hc7 hf
    exact b_MO_comparison_70 E n x1 x2 t hf _ _ _ w (lv_sub hl [0, 1, 2] rfl)
  · have hf := mz_t hc7 hf
    refine lv_iload_n hx hb d_MO_comparison_60 rfl (lv_at hl 2 rfl) ?_
    refine lv_bipush (v := (61 : Int32)) hx hb d_MO_comparison_61 (by decide) ?_
    refine lv_icmp_ne (tgt := 70) hx hb d_MO_comparison_63 (by decide) (fun hc13 => ?_) (fun hc13 => ?_)
    · have hf := mz_f hc13 hf
      exact b_MO_comparison_70 E n x1 x2 t hf _ _ _ w (lv_sub hl [0, 1, 2] rfl)
    · have hf := mz_t hc13 hf
      refine lv_iconst (v := (2 : Int32)) hx hb d_MO_comparison_66 (by decide) ?_
      refine lv_goto (tgt := 91) hx hb d_MO_comparison_67 (by decide) ?_
      exact b_MO_comparison_91 E n (2 : Int32) t hf _ _ _ w (lv_sub hl [0] rfl)
set_option maxRecDepth 100000 in
set_option maxHeartbeats 4000000 in
theorem b_MO_comparison_37 {SX : State → Heap → Prop} {dC : Nat → ClassId} {dI : Nat → Nat → Nat} {ad en : Nat → Nat} {ca : Nat → ClassId} {p : Program} {l : Launch} {e : Env} {s : State} {m : MethodId} {args : Array Value} {below : List Frame} {meth : Method} {c : Code} {res : (Int32 × mz_St)} (E : mz_En SX 55 mz_cl dC dI ad ca p s m meth c prog_15_method_35_code 4 "MacroHouseModel" (some (.int))) (n : Nat) : ∀ (x1 : Int32) (s0 : Int32) (t : mz_St), f_MO_comparison_37 n x1 s0 t = some res → ∀ (H : Heap) (locs : List Loc) (ls : Array Slot), mz_Wd mz_tM 55 mz_cl dC dI ad en ca s t H locs → lv_has ls 4 [(0, .ref (ad 0)), (1, .int x1)] → W p l e (r_MO_comparison) s m args below meth c H locs 0 0 (MQ below (mz_Q SX mz_tM 55 mz_cl dC dI ad en ca (some (.int res.1)) res.2) args s 0 0 (mz_A ad 55)) (F0 m 37 ls [.int s0]) := by
  obtain ⟨hx, hb, hml, hown, hcx, -, -, hSX, -, -, hSK⟩ := id E
  intro x1 s0 t hf H locs ls w hl
  unfold f_MO_comparison_37 at hf
  refine lv_istore_n (lv' := [(2, .int s0), (0, .ref (ad 0)), (1, .int x1)]) hx hb d_MO_comparison_37 rfl hl (by decide) rfl (fun ls hl => ?_)
  refine lv_iload_n hx hb d_MO_comparison_38 rfl (lv_at hl 2 rfl) ?_
  refine lv_bipush (v := (61 : Int32)) hx hb d_MO_comparison_39 (by decide) ?_
  refine lv_icmp_ne (tgt := 54) hx hb d_MO_comparison_41 (by decide) (fun hc6 => ?_) (fun hc6 => ?_)
  · have hf := mz_f hc6 hf
    exact b_MO_comparison_54 E n x1 s0 t hf _ _ _ w (lv_sub hl [1, 2, 0] rfl)
  · have hf := mz_t hc6 hf
    refine lv_iload_n hx hb d_MO_comparison_44 rfl (lv_at hl 0 rfl) ?_
    refine lv_bipush (v := (61 : Int32)) hx hb d_MO_comparison_45 (by decide) ?_
    refine lv_icmp_ne (tgt := 54) hx hb d_MO_comparison_47 (by decide) (fun hc14 => ?_) (fun hc14 => ?_)
    · have hf := mz_f hc14 hf
      exact b_MO_comparison_54 E n x1 s0 t hf _ _ _ w (lv_sub hl [1, 2, 0] rfl)
    · have hf := mz_t hc14 hf
      refine lv_iconst (v := (1 : Int32)) hx hb d_MO_comparison_50 (by decide) ?_
      refine lv_goto (tgt := 91) hx hb d_MO_comparison_51 (by decide) ?_
      exact b_MO_comparison_91 E n (1 : Int32) t hf _ _ _ w (lv_sub hl [1] rfl)
set_option maxRecDepth 100000 in
set_option maxHeartbeats 4000000 in
theorem c_MO_comparison {SX : State → Heap → Prop} {dC : Nat → ClassId} {dI : Nat → Nat → Nat} {ad en : Nat → Nat} {ca : Nat → ClassId} (hSK : mz_SK SX ad 55) (l : Launch) (n : Nat) (t : mz_St) (res : (Int32 × mz_St)) (hf : f_MO_comparison n t = some res) : mz_C SX mz_tM 55 mz_cl dC dI ad en ca l y_MO_comparison prog_15_method_35_code 4 (some (.int)) (r_MO_comparison) [.ref (ad 0)] t (some (.int res.1)) res.2 := by
  unfold f_MO_comparison at hf
  refine mz_met hSK (by decide) (Nat.le_of_ble_eq_true rfl) ?_
  intro p e s m args below meth c ls E w hl
  obtain ⟨hx, hb, hml, hown, hcx, -, -, hSX, -, -, -⟩ := id E
  have hl : lv_has ls 4 [(0, .ref (ad 0))] := hl
  refine lv_aload_n hx hb d_MO_comparison_0 rfl (lv_at hl 0 rfl) ?_
  obtain ⟨q1, hq2, hf⟩ := mz_bd hf
  refine mz_callV E w (k := 0) (As := []) (rest := []) (c_MO_blanks hSK l n t q1 hq2) (by decide) rfl rfl k_1549 k_15 k_1546 k_1548 ks_67 hm_MO_blanks ⟨⟨rfl, rfl⟩, Nat.le_of_ble_eq_true rfl, Nat.le_of_ble_eq_true rfl⟩ rfl hl.1 rfl (Nat.le_of_ble_eq_true rfl) d_MO_comparison_1 ⟨Nat.zero_le _, Nat.zero_le _⟩ (st1 := []) rfl (fun H locs w => ?_)
  refine lv_aload_n hx hb d_MO_comparison_4 rfl (lv_at hl 0 rfl) ?_
  obtain ⟨q3, hq4, hf⟩ := mz_bd hf
  refine mz_callV E w (k := 0) (As := []) (rest := []) (c_MO_here hSK l n q1 q3 hq4) (by decide) rfl rfl k_1553 k_15 k_1550 k_1552 ks_68 hm_MO_here ⟨⟨rfl, rfl⟩, Nat.le_of_ble_eq_true rfl, Nat.le_of_ble_eq_true rfl⟩ rfl hl.1 rfl (Nat.le_of_ble_eq_true rfl) d_MO_comparison_5 ⟨Nat.zero_le _, Nat.zero_le _⟩ (st1 := [.int q3.1]) rfl (fun H locs w => ?_)
  refine lv_istore_n (lv' := [(1, .int q3.1), (0, .ref (ad 0))]) hx hb d_MO_comparison_8 rfl hl (by decide) rfl (fun ls hl => ?_)
  refine lv_aload_n hx hb d_MO_comparison_9 rfl (lv_at hl 1 rfl) ?_
  refine mz_get E w 0 61 (v := .int (mz_gI q3.2 0 61)) (by decide) rfl rfl ii_11 (by decide) (Nat.le_of_ble_eq_true rfl) k_1244 rfl d_MO_comparison_10 ?_
  refine lv_iconst (v := (1 : Int32)) hx hb d_MO_comparison_13 (by decide) ?_
  refine lv_iadd hx hb d_MO_comparison_14 ?_
  refine lv_aload_n hx hb d_MO_comparison_15 rfl (lv_at hl 1 rfl) ?_
  refine mz_get E w 0 60 (v := .int (mz_gI q3.2 0 60)) (by decide) rfl rfl ii_11 (by decide) (Nat.le_of_ble_eq_true rfl) k_1243 rfl d_MO_comparison_16 ?_
  refine lv_icmp_ge (tgt := 36) hx hb d_MO_comparison_19 (by decide) (fun hc5 => ?_) (fun hc5 => ?_)
  · have hf := mz_t hc5 hf
    refine lv_iconst (v := (-1 : Int32)) hx hb d_MO_comparison_36 (by decide) ?_
    exact b_MO_comparison_37 E n q3.1 (-1 : Int32) q3.2 hf _ _ _ w (lv_sub hl [1, 0] rfl)
  · have hf := mz_f hc5 hf
    refine lv_aload_n hx hb d_MO_comparison_22 rfl (lv_at hl 1 rfl) ?_
    refine mz_get E w 0 59 (v := .ref (ad 43)) (by decide) rfl rfl ii_11 (by decide) (Nat.le_of_ble_eq_true rfl) k_1242 rfl d_MO_comparison_23 ?_
    refine lv_aload_n hx hb d_MO_comparison_26 rfl (lv_at hl 1 rfl) ?_
    refine mz_get E w 0 61 (v := .int (mz_gI q3.2 0 61)) (by decide) rfl rfl ii_11 (by decide) (Nat.le_of_ble_eq_true rfl) k_1244 rfl d_MO_comparison_27 ?_
    refine lv_iconst (v := (1 : Int32)) hx hb d_MO_comparison_30 (by decide) ?_
    refine lv_iadd hx hb d_MO_comparison_31 ?_
    obtain ⟨hi15, hf⟩ := mz_gd hf
    refine mz_iald E w 43 (by decide) rfl hi15 d_MO_comparison_32 ?_
    refine lv_goto (tgt := 37) hx hb d_MO_comparison_33 (by decide) ?_
    exact b_MO_comparison_37 E n q3.1 (mz_gI q3.2 43 ((mz_gI q3.2 0 61) + (1 : Int32)).toNatClampNeg) q3.2 hf _ _ _ w (lv_sub hl [1, 0] rfl)

/-! MacroHouseModel.compared(III)Z -/
abbrev r_MO_compared : Room := { frames := 0, cells := 0, slots := 0, locals := 0 }
def f_MO_compared (n : Nat) (x0 : Int32) (x1 : Int32) (x2 : Int32) (t : mz_St) : Option (Int32 × mz_St) := if x0 = (1 : Int32) then (if x1 = x2 then (some ((1 : Int32), t)) else (some ((0 : Int32), t))) else (if x0 = (2 : Int32) then (if x1 = x2 then (some ((0 : Int32), t)) else (some ((1 : Int32), t))) else (if x0 = (3 : Int32) then (if x2 ≤ x1 then (some ((0 : Int32), t)) else (some ((1 : Int32), t))) else (if x2 < x1 then (some ((0 : Int32), t)) else (some ((1 : Int32), t)))))
set_option maxRecDepth 100000 in
set_option maxHeartbeats 4000000 in
theorem c_MO_compared {SX : State → Heap → Prop} {dC : Nat → ClassId} {dI : Nat → Nat → Nat} {ad en : Nat → Nat} {ca : Nat → ClassId} (hSK : mz_SK SX ad 55) (l : Launch) (n : Nat) (x0 : Int32) (x1 : Int32) (x2 : Int32) (t : mz_St) (res : (Int32 × mz_St)) (hf : f_MO_compared n x0 x1 x2 t = some res) : mz_C SX mz_tM 55 mz_cl dC dI ad en ca l y_MO_compared prog_15_method_34_code 3 (some (.boolean)) (r_MO_compared) [.int x0, .int x1, .int x2] t (some (.int res.1)) res.2 := by
  unfold f_MO_compared at hf
  refine mz_met hSK (by decide) (Nat.le_of_ble_eq_true rfl) ?_
  intro p e s m args below meth c ls E w hl
  obtain ⟨hx, hb, hml, hown, hcx, -, -, hSX, -, -, -⟩ := id E
  have hl : lv_has ls 3 [(0, .int x0), (1, .int x1), (2, .int x2)] := hl
  refine lv_iload_n hx hb d_MO_compared_0 rfl (lv_at hl 0 rfl) ?_
  refine lv_iconst (v := (1 : Int32)) hx hb d_MO_compared_1 (by decide) ?_
  refine lv_icmp_ne (tgt := 18) hx hb d_MO_compared_2 (by decide) (fun hc1 => ?_) (fun hc1 => ?_)
  · have hf := mz_f hc1 hf
    refine lv_iload_n hx hb d_MO_compared_18 rfl (lv_at hl 0 rfl) ?_
    refine lv_iconst (v := (2 : Int32)) hx hb d_MO_compared_19 (by decide) ?_
    refine lv_icmp_ne (tgt := 36) hx hb d_MO_compared_20 (by decide) (fun hc2 => ?_) (fun hc2 => ?_)
    · have hf := mz_f hc2 hf
      refine lv_iload_n hx hb d_MO_compared_36 rfl (lv_at hl 0 rfl) ?_
      refine lv_iconst (v := (3 : Int32)) hx hb d_MO_compared_37 (by decide) ?_
      refine lv_icmp_ne (tgt := 54) hx hb d_MO_compared_38 (by decide) (fun hc3 => ?_) (fun hc3 => ?_)
      · have hf := mz_f hc3 hf
        refine lv_iload_n hx hb d_MO_compared_54 rfl (lv_at hl 1 rfl) ?_
        refine lv_iload_n hx hb d_MO_compared_55 rfl (lv_at hl 2 rfl) ?_
        refine lv_icmp_gt (tgt := 63) hx hb d_MO_compared_56 (by decide) (fun hc4 => ?_) (fun hc4 => ?_)
        · have hf := mz_t hc4 hf
          refine lv_iconst (v := (0 : Int32)) hx hb d_MO_compared_63 (by decide) ?_
          obtain rfl := Option.some.inj hf
          exact mz_zret E w (by decide) rfl d_MO_compared_64
        · have hf := mz_f hc4 hf
          refine lv_iconst (v := (1 : Int32)) hx hb d_MO_compared_59 (by decide) ?_
          refine lv_goto (tgt := 64) hx hb d_MO_compared_60 (by decide) ?_
          obtain rfl := Option.some.inj hf
          exact mz_zret E w (by decide) rfl d_MO_compared_64
      · have hf := mz_t hc3 hf
        refine lv_iload_n hx hb d_MO_compared_41 rfl (lv_at hl 1 rfl) ?_
        refine lv_iload_n hx hb d_MO_compared_42 rfl (lv_at hl 2 rfl) ?_
        refine lv_icmp_ge (tgt := 50) hx hb d_MO_compared_43 (by decide) (fun hc5 => ?_) (fun hc5 => ?_)
        · have hf := mz_t hc5 hf
          refine lv_iconst (v := (0 : Int32)) hx hb d_MO_compared_50 (by decide) ?_
          refine lv_goto (tgt := 64) hx hb d_MO_compared_51 (by decide) ?_
          obtain rfl := Option.some.inj hf
          exact mz_zret E w (by decide) rfl d_MO_compared_64
        · have hf := mz_f hc5 hf
          refine lv_iconst (v := (1 : Int32)) hx hb d_MO_compared_46 (by decide) ?_
          refine lv_goto (tgt := 64) hx hb d_MO_compared_47 (by decide) ?_
          obtain rfl := Option.some.inj hf
          exact mz_zret E w (by decide) rfl d_MO_compared_64
    · have hf := mz_t hc2 hf
      refine lv_iload_n hx hb d_MO_compared_23 rfl (lv_at hl 1 rfl) ?_
      refine lv_iload_n hx hb d_MO_compared_24 rfl (lv_at hl 2 rfl) ?_
      refine lv_icmp_eq (tgt := 32) hx hb d_MO_compared_25 (by decide) (fun hc6 => ?_) (fun hc6 => ?_)
      · have hf := mz_t hc6 hf
        refine lv_iconst (v := (0 : Int32)) hx hb d_MO_compared_32 (by decide) ?_
        refine lv_goto (tgt := 64) hx hb d_MO_compared_33 (by decide) ?_
        obtain rfl := Option.some.inj hf
        exact mz_zret E w (by decide) rfl d_MO_compared_64
      · have hf := mz_f hc6 hf
        refine lv_iconst (v := (1 : Int32)) hx hb d_MO_compared_28 (by decide) ?_
        refine lv_goto (tgt := 64) hx hb d_MO_compared_29 (by decide) ?_
        obtain rfl := Option.some.inj hf
        exact mz_zret E w (by decide) rfl d_MO_compared_64
  · have hf := mz_t hc1 hf
    refine lv_iload_n hx hb d_MO_compared_5 rfl (lv_at hl 1 rfl) ?_
    refine lv_iload_n hx hb d_MO_compared_6 rfl (lv_at hl 2 rfl) ?_
    refine lv_icmp_ne (tgt := 14) hx hb d_MO_compared_7 (by decide) (fun hc7 => ?_) (fun hc7 => ?_)
    · have hf := mz_f hc7 hf
      refine lv_iconst (v := (0 : Int32)) hx hb d_MO_compared_14 (by decide) ?_
      refine lv_goto (tgt := 64) hx hb d_MO_compared_15 (by decide) ?_
      obtain rfl := Option.some.inj hf
      exact mz_zret E w (by decide) rfl d_MO_compared_64
    · have hf := mz_t hc7 hf
      refine lv_iconst (v := (1 : Int32)) hx hb d_MO_compared_10 (by decide) ?_
      refine lv_goto (tgt := 64) hx hb d_MO_compared_11 (by decide) ?_
      obtain rfl := Option.some.inj hf
      exact mz_zret E w (by decide) rfl d_MO_compared_64

/-! MacroHouseModel.sign(I)V -/
abbrev r_MO_sign : Room := { frames := 2, cells := 0, slots := 0, locals := 40 }
def f_MO_sign_25 (n : Nat) (s1 : Int32) (t : mz_St) : Option mz_St := if s1 = 0 ∨ s1 = 1 then (mz_let (mz_pI t 0 62 s1) fun t5 => mz_let (mz_pI t5 0 61 ((mz_gI t5 0 61) + (1 : Int32))) fun t6 => some t6) else none
def f_MO_sign_24 (n : Nat) (t : mz_St) : Option mz_St := f_MO_sign_25 n (0 : Int32) t
def f_MO_sign (n : Nat) (x1 : Int32) (t : mz_St) : Option mz_St := (f_MO_blanks n t).bind fun q1 => if (mz_gI q1 0 62) = 0 then (f_MO_sign_24 n  q1) else ((f_MO_here n q1).bind fun q7 => if q7.1 = x1 then (f_MO_sign_25 n (1 : Int32) q7.2) else (f_MO_sign_24 n  q7.2))
set_option maxRecDepth 100000 in
set_option maxHeartbeats 4000000 in
theorem b_MO_sign_25 {SX : State → Heap → Prop} {dC : Nat → ClassId} {dI : Nat → Nat → Nat} {ad en : Nat → Nat} {ca : Nat → ClassId} {p : Program} {l : Launch} {e : Env} {s : State} {m : MethodId} {args : Array Value} {below : List Frame} {meth : Method} {c : Code} {res : mz_St} (E : mz_En SX 55 mz_cl dC dI ad ca p s m meth c prog_15_method_24_code 2 "MacroHouseModel" none) (n : Nat) : ∀ (s1 : Int32) (t : mz_St), f_MO_sign_25 n s1 t = some res → ∀ (H : Heap) (locs : List Loc) (ls : Array Slot), mz_Wd mz_tM 55 mz_cl dC dI ad en ca s t H locs → lv_has ls 2 [(0, .ref (ad 0))] → W p l e (r_MO_sign) s m args below meth c H locs 0 0 (MQ below (mz_Q SX mz_tM 55 mz_cl dC dI ad en ca none res) args s 0 0 (mz_A ad 55)) (F0 m 25 ls [.int s1, .ref (ad 0)]) := by
  obtain ⟨hx, hb, hml, hown, hcx, -, -, hSX, -, -, hSK⟩ := id E
  intro s1 t hf H locs ls w hl
  unfold f_MO_sign_25 at hf
  obtain ⟨hz4, hf⟩ := mz_gd hf
  refine mz_put E w 0 62 (v := s1) (by decide) rfl rfl ii_11 tk_11 nm_11 (by decide) (Nat.le_of_ble_eq_true rfl) k_1245 rfl (tk_11 62 (by decide)) rfl (mz_b01 hz4) (mz_f01 hz4) d_MO_sign_25 (fun H locs w => ?_)
  obtain ⟨t5, e_t5, hf⟩ := mz_lt hf
  rw [← e_t5] at w
  refine lv_aload_n hx hb d_MO_sign_28 rfl (lv_at hl 0 rfl) ?_
  refine lv_dup hx hb d_MO_sign_29 rfl ?_
  refine mz_get E w 0 61 (v := .int (mz_gI t5 0 61)) (by decide) rfl rfl ii_11 (by decide) (Nat.le_of_ble_eq_true rfl) k_1244 rfl d_MO_sign_30 ?_
  refine lv_iconst (v := (1 : Int32)) hx hb d_MO_sign_33 (by decide) ?_
  refine lv_iadd hx hb d_MO_sign_34 ?_
  refine mz_put E w 0 61 (v := ((mz_gI t5 0 61) + (1 : Int32))) (by decide) rfl rfl ii_11 tk_11 nm_11 (by decide) (Nat.le_of_ble_eq_true rfl) k_1244 rfl (tk_11 61 (by decide)) rfl rfl rfl d_MO_sign_35 (fun H locs w => ?_)
  obtain ⟨t6, e_t6, hf⟩ := mz_lt hf
  rw [← e_t6] at w
  obtain rfl := Option.some.inj hf
  exact mz_vret E w rfl d_MO_sign_38
set_option maxRecDepth 100000 in
set_option maxHeartbeats 4000000 in
theorem b_MO_sign_24 {SX : State → Heap → Prop} {dC : Nat → ClassId} {dI : Nat → Nat → Nat} {ad en : Nat → Nat} {ca : Nat → ClassId} {p : Program} {l : Launch} {e : Env} {s : State} {m : MethodId} {args : Array Value} {below : List Frame} {meth : Method} {c : Code} {res : mz_St} (E : mz_En SX 55 mz_cl dC dI ad ca p s m meth c prog_15_method_24_code 2 "MacroHouseModel" none) (n : Nat) : ∀ (t : mz_St), f_MO_sign_24 n t = some res → ∀ (H : Heap) (locs : List Loc) (ls : Array Slot), mz_Wd mz_tM 55 mz_cl dC dI ad en ca s t H locs → lv_has ls 2 [(0, .ref (ad 0))] → W p l e (r_MO_sign) s m args below meth c H locs 0 0 (MQ below (mz_Q SX mz_tM 55 mz_cl dC dI ad en ca none res) args s 0 0 (mz_A ad 55)) (F0 m 24 ls [.ref (ad 0)]) := by
  obtain ⟨hx, hb, hml, hown, hcx, -, -, hSX, -, -, hSK⟩ := id E
  intro t hf H locs ls w hl
  unfold f_MO_sign_24 at hf
  refine lv_iconst (v := (0 : Int32)) hx hb d_MO_sign_24 (by decide) ?_
  exact b_MO_sign_25 E n (0 : Int32) t hf _ _ _ w (lv_sub hl [0] rfl)
set_option maxRecDepth 100000 in
set_option maxHeartbeats 4000000 in
theorem c_MO_sign {SX : State → Heap → Prop} {dC : Nat → ClassId} {dI : Nat → Nat → Nat} {ad en : Nat → Nat} {ca : Nat → ClassId} (hSK : mz_SK SX ad 55) (l : Launch) (n : Nat) (x1 : Int32) (t : mz_St) (res : mz_St) (hf : f_MO_sign n x1 t = some res) : mz_C SX mz_tM 55 mz_cl dC dI ad en ca l y_MO_sign prog_15_method_24_code 2 none (r_MO_sign) [.ref (ad 0), .int x1] t none res := by
  unfold f_MO_sign at hf
  refine mz_met hSK (by decide) (Nat.le_of_ble_eq_true rfl) ?_
  intro p e s m args below meth c ls E w hl
  obtain ⟨hx, hb, hml, hown, hcx, -, -, hSX, -, -, -⟩ := id E
  have hl : lv_has ls 2 [(0, .ref (ad 0)), (1, .int x1)] := hl
  refine lv_aload_n hx hb d_MO_sign_0 rfl (lv_at hl 0 rfl) ?_
  obtain ⟨q1, hq2, hf⟩ := mz_bd hf
  refine mz_callV E w (k := 0) (As := []) (rest := []) (c_MO_blanks hSK l n t q1 hq2) (by decide) rfl rfl k_1549 k_15 k_1546 k_1548 ks_67 hm_MO_blanks ⟨⟨rfl, rfl⟩, Nat.le_of_ble_eq_true rfl, Nat.le_of_ble_eq_true rfl⟩ rfl hl.1 rfl (Nat.le_of_ble_eq_true rfl) d_MO_sign_1 ⟨Nat.zero_le _, Nat.zero_le _⟩ (st1 := []) rfl (fun H locs w => ?_)
  refine lv_aload_n hx hb d_MO_sign_4 rfl (lv_at hl 0 rfl) ?_
  refine lv_aload_n hx hb d_MO_sign_5 rfl (lv_at hl 0 rfl) ?_
  refine mz_get E w 0 62 (v := .int (mz_gI q1 0 62)) (by decide) rfl rfl ii_11 (by decide) (Nat.le_of_ble_eq_true rfl) k_1245 rfl d_MO_sign_6 ?_
  refine lv_if_eq (tgt := 24) hx hb d_MO_sign_9 (by decide) (fun hc3 => ?_) (fun hc3 => ?_)
  · have hf := mz_t hc3 hf
    exact b_MO_sign_24 E n  q1 hf _ _ _ w (lv_sub hl [0] rfl)
  · have hf := mz_f hc3 hf
    refine lv_aload_n hx hb d_MO_sign_12 rfl (lv_at hl 0 rfl) ?_
    obtain ⟨q7, hq8, hf⟩ := mz_bd hf
    refine mz_callV E w (k := 0) (As := []) (rest := [.ref (ad 0)]) (c_MO_here hSK l n q1 q7 hq8) (by decide) rfl rfl k_1553 k_15 k_1550 k_1552 ks_68 hm_MO_here ⟨⟨rfl, rfl⟩, Nat.le_of_ble_eq_true rfl, Nat.le_of_ble_eq_true rfl⟩ rfl hl.1 rfl (Nat.le_of_ble_eq_true rfl) d_MO_sign_13 ⟨Nat.zero_le _, Nat.zero_le _⟩ (st1 := [.int q7.1, .ref (ad 0)]) rfl (fun H locs w => ?_)
    refine lv_iload_n hx hb d_MO_sign_16 rfl (lv_at hl 1 rfl) ?_
    refine lv_icmp_ne (tgt := 24) hx hb d_MO_sign_17 (by decide) (fun hc9 => ?_) (fun hc9 => ?_)
    · have hf := mz_f hc9 hf
      exact b_MO_sign_24 E n  q7.2 hf _ _ _ w (lv_sub hl [0] rfl)
    · have hf := mz_t hc9 hf
      refine lv_iconst (v := (1 : Int32)) hx hb d_MO_sign_20 (by decide) ?_
      refine lv_goto (tgt := 25) hx hb d_MO_sign_21 (by decide) ?_
      exact b_MO_sign_25 E n (1 : Int32) q7.2 hf _ _ _ w (lv_sub hl [0] rfl)
