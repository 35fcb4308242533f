/-! MacroHouse.expand()I -/
abbrev r_MH_expand : Room := { frames := 77, cells := 0, slots := 0, locals := 2377 }
def f_MH_expand (n : Nat) (t : mz_St) : Option (Int32 × mz_St) := (f_EX_run n t).bind fun q1 => if (mz_gI q1 5 7) = 0 then (some ((mz_gI q1 32 5), q1)) else (some ((-1 : Int32), q1))
set_option maxRecDepth 100000 in
set_option maxHeartbeats 4000000 in
theorem c_MH_expand {dC : Nat → ClassId} {dI : Nat → Nat → Nat} {ad en adK adV : Nat → Nat} {tA tS : Nat} {oF : Option Nat} {ca : Nat → ClassId} (hSK : mz_SK (mz_SC ad en adK adV tA tS oF) ad 80) (l : Launch) (n : Nat) (t : mz_St) (res : (Int32 × mz_St)) (hf : f_MH_expand n t = some res) : mz_C (mz_SC ad en adK adV tA tS oF) mz_tC 80 mz_cl dC dI ad en ca l y_MH_expand prog_1_method_4_code 1 (some (.int)) (r_MH_expand) [.ref (ad 0)] t (some (.int res.1)) res.2 := by
  unfold f_MH_expand at hf
  refine mz_met hSK (by decide) (Nat.le_of_ble_eq_true rfl) ?_
  intro p e s m args below meth c ls E w hl
  obtain ⟨hx, hb, hml, hown, hcx, -, -, hSX, -, -, -⟩ := id E
  have hl : lv_has ls 1 [(0, .ref (ad 0))] := hl
  refine lv_aload_n hx hb d_MH_expand_0 rfl (lv_at hl 0 rfl) ?_
  refine mz_get E w 0 1 (v := .ref (ad 5)) (by decide) rfl rfl ii_0 (by decide) (Nat.le_of_ble_eq_true rfl) k_425 rfl d_MH_expand_1 ?_
  obtain ⟨q1, hq2, hf⟩ := mz_bd hf
  refine mz_callV E w (k := 5) (As := []) (rest := []) (c_EX_run hSK l n t q1 hq2) (by decide) rfl rfl k_438 k_3 k_435 k_436 k_437 hm_EX_run ⟨⟨rfl, rfl⟩, Nat.le_of_ble_eq_true rfl, Nat.le_of_ble_eq_true rfl⟩ rfl hl.1 rfl (Nat.le_of_ble_eq_true rfl) d_MH_expand_4 ⟨Nat.zero_le _, Nat.zero_le _⟩ (st1 := []) rfl (fun H locs w => ?_)
  refine lv_aload_n hx hb d_MH_expand_7 rfl (lv_at hl 0 rfl) ?_
  refine mz_get E w 0 1 (v := .ref (ad 5)) (by decide) rfl rfl ii_0 (by decide) (Nat.le_of_ble_eq_true rfl) k_425 rfl d_MH_expand_8 ?_
  refine mz_get E w 5 7 (v := .int (mz_gI q1 5 7)) (by decide) rfl rfl ii_2 (by decide) (Nat.le_of_ble_eq_true rfl) k_382 rfl d_MH_expand_11 ?_
  refine lv_if_ne (tgt := 30) hx hb d_MH_expand_14 (by decide) (fun hc3 => ?_) (fun hc3 => ?_)
  · have hf := mz_f hc3 hf
    refine lv_iconst (v := (-1 : Int32)) hx hb d_MH_expand_30 (by decide) ?_
    obtain rfl := Option.some.inj hf
    exact mz_iret E w rfl d_MH_expand_31
  · have hf := mz_t hc3 hf
    refine lv_aload_n hx hb d_MH_expand_17 rfl (lv_at hl 0 rfl) ?_
    refine mz_get E w 0 1 (v := .ref (ad 5)) (by decide) rfl rfl ii_0 (by decide) (Nat.le_of_ble_eq_true rfl) k_425 rfl d_MH_expand_18 ?_
    refine mz_get E w 5 6 (v := .ref (ad 32)) (by decide) rfl rfl ii_2 (by decide) (Nat.le_of_ble_eq_true rfl) k_380 rfl d_MH_expand_21 ?_
    refine mz_get E w 32 5 (v := .int (mz_gI q1 32 5)) (by decide) rfl rfl ii_9 (by decide) (Nat.le_of_ble_eq_true rfl) k_106 rfl d_MH_expand_24 ?_
    refine lv_goto (tgt := 31) hx hb d_MH_expand_27 (by decide) ?_
    obtain rfl := Option.some.inj hf
    exact mz_iret E w rfl d_MH_expand_31

/-! MacroHouse.put(I)I -/
abbrev r_MH_put : Room := { frames := 1, cells := 0, slots := 0, locals := 22 }
def f_MH_put_137 (n : Nat) (K88 : Int32 → Int32 → mz_St → Option (Int32 × mz_St)) (x1 : Int32) (x3 : Int32) (t : mz_St) : Option (Int32 × mz_St) := K88 x1 (x3 + (8 : Int32)) t
def f_MH_put_88 (n : Nat) : Nat → Int32 → Int32 → mz_St → Option (Int32 × mz_St)
  | 0, _, _, _ => none
  | k + 1, x1, x3, t => if (32 : Int32) ≤ x3 then (some ((mz_gI t 1 3), t)) else (if ((x1.toUInt32 >>> (x3.toUInt32 &&& Int32.toUInt32 31)).toInt32 &&& (255 : Int32)) = 0 then (f_MH_put_137 n (f_MH_put_88 n k) x1 x3 t) else ((f_SI_write n (mz_gI t 1 3) ((x1.toUInt32 >>> (x3.toUInt32 &&& Int32.toUInt32 31)).toInt32 &&& (255 : Int32)) t).bind fun q5 => mz_let (mz_pI q5 1 3 ((mz_gI q5 1 3) + (1 : Int32))) fun t7 => f_MH_put_137 n (f_MH_put_88 n k) x1 x3 t7))
def f_MH_put_53 (n : Nat) (K4 : Int32 → Int32 → Int32 → mz_St → Option (Int32 × mz_St)) (x1 : Int32) (x3 : Int32) (s0 : Int32) (s1 : Int32) (t : mz_St) : Option (Int32 × mz_St) := K4 x1 (s0 + s1) (x3 + (8 : Int32)) t
def f_MH_put_42 (n : Nat) (K4 : Int32 → Int32 → Int32 → mz_St → Option (Int32 × mz_St)) (x1 : Int32) (x2 : Int32) (x3 : Int32) (x4 : Int32) (t : mz_St) : Option (Int32 × mz_St) := if x4 = 0 then (f_MH_put_53 n K4 x1 x3 x2 (0 : Int32) t) else (f_MH_put_53 n K4 x1 x3 x2 (1 : Int32) t)
def f_MH_put_4 (n : Nat) : Nat → Int32 → Int32 → Int32 → mz_St → Option (Int32 × mz_St)
  | 0, _, _, _, _ => none
  | k + 1, x1, x2, x3, t => if (32 : Int32) ≤ x3 then (if ((mz_gI t 1 3) + x2) ≤ (3000 : Int32) then (f_MH_put_88 n n x1 (0 : Int32) t) else none) else (if ((x1.toUInt32 >>> (x3.toUInt32 &&& Int32.toUInt32 31)).toInt32 &&& (255 : Int32)) = 0 then (f_MH_put_42 n (f_MH_put_4 n k) x1 x2 x3 ((x1.toUInt32 >>> (x3.toUInt32 &&& Int32.toUInt32 31)).toInt32 &&& (255 : Int32)) t) else ((f_SI_mayStand n ((x1.toUInt32 >>> (x3.toUInt32 &&& Int32.toUInt32 31)).toInt32 &&& (255 : Int32)) t).bind fun q10 => if q10.1 = 0 then none else (f_MH_put_42 n (f_MH_put_4 n k) x1 x2 x3 ((x1.toUInt32 >>> (x3.toUInt32 &&& Int32.toUInt32 31)).toInt32 &&& (255 : Int32)) q10.2)))
def f_MH_put (n : Nat) (x1 : Int32) (t : mz_St) : Option (Int32 × mz_St) := f_MH_put_4 n n x1 (0 : Int32) (0 : Int32) t
set_option maxRecDepth 100000 in
set_option maxHeartbeats 4000000 in
theorem b_MH_put_137 {SX : State → Heap → Prop} {dC : Nat → ClassId} {dI : Nat → Nat → Nat} {ad en : Nat → Nat} {ca : Nat → ClassId} {p : Program} {l : Launch} {e : Env} {s : State} {m : MethodId} {args : Array Value} {below : List Frame} {meth : Method} {c : Code} {res : (Int32 × mz_St)} (E : mz_En SX 80 mz_cl dC dI ad ca p s m meth c prog_1_method_2_code 5 "MacroHouse" (some (.int))) (n : Nat) (K88 : Int32 → Int32 → mz_St → Option (Int32 × mz_St)) (hK88 : ∀ (x1 : Int32) (x3 : Int32) (t : mz_St), K88 x1 x3 t = some res → ∀ (H : Heap) (locs : List Loc) (ls : Array Slot), mz_Wd mz_tC 80 mz_cl dC dI ad en ca s t H locs → lv_has ls 5 [(0, .ref (ad 0)), (1, .int x1), (3, .int x3)] → W p l e (r_MH_put) s m args below meth c H locs 0 0 (MQ below (mz_Q SX mz_tC 80 mz_cl dC dI ad en ca (some (.int res.1)) res.2) args s 0 0 (mz_A ad 80)) (F0 m 88 ls [])) : ∀ (x1 : Int32) (x3 : Int32) (t : mz_St), f_MH_put_137 n K88 x1 x3 t = some res → ∀ (H : Heap) (locs : List Loc) (ls : Array Slot), mz_Wd mz_tC 80 mz_cl dC dI ad en ca s t H locs → lv_has ls 5 [(0, .ref (ad 0)), (1, .int x1), (3, .int x3)] → W p l e (r_MH_put) s m args below meth c H locs 0 0 (MQ below (mz_Q SX mz_tC 80 mz_cl dC dI ad en ca (some (.int res.1)) res.2) args s 0 0 (mz_A ad 80)) (F0 m 137 ls []) := by
  obtain ⟨hx, hb, hml, hown, hcx, -, -, hSX, -, -, hSK⟩ := id E
  intro x1 x3 t hf H locs ls w hl
  unfold f_MH_put_137 at hf
  refine lv_iinc (v := (x3 + (8 : Int32))) (lv' := [(3, .int (x3 + (8 : Int32))), (0, .ref (ad 0)), (1, .int x1)]) hx hb d_MH_put_137 hl (k := 2) rfl rfl (by decide) rfl (fun ls hl => ?_)
  refine lv_goto (tgt := 88) hx hb d_MH_put_140 (by decide) ?_
  exact hK88 x1 (x3 + (8 : Int32)) t hf _ _ _ w (lv_sub hl [1, 2, 0] rfl)
set_option maxRecDepth 100000 in
set_option maxHeartbeats 4000000 in
theorem b_MH_put_88 {SX : State → Heap → Prop} {dC : Nat → ClassId} {dI : Nat → Nat → Nat} {ad en : Nat → Nat} {ca : Nat → ClassId} {p : Program} {l : Launch} {e : Env} {s : State} {m : MethodId} {args : Array Value} {below : List Frame} {meth : Method} {c : Code} {res : (Int32 × mz_St)} (E : mz_En SX 80 mz_cl dC dI ad ca p s m meth c prog_1_method_2_code 5 "MacroHouse" (some (.int))) (n : Nat) (k : Nat) : ∀ (x1 : Int32) (x3 : Int32) (t : mz_St), f_MH_put_88 n k x1 x3 t = some res → ∀ (H : Heap) (locs : List Loc) (ls : Array Slot), mz_Wd mz_tC 80 mz_cl dC dI ad en ca s t H locs → lv_has ls 5 [(0, .ref (ad 0)), (1, .int x1), (3, .int x3)] → W p l e (r_MH_put) s m args below meth c H locs 0 0 (MQ below (mz_Q SX mz_tC 80 mz_cl dC dI ad en ca (some (.int res.1)) res.2) args s 0 0 (mz_A ad 80)) (F0 m 88 ls []) := by
  obtain ⟨hx, hb, hml, hown, hcx, -, -, hSX, -, -, hSK⟩ := id E
  induction k with
  | zero => intro x1 x3 t hf; exact absurd hf (by unfold f_MH_put_88; exact fun h => nomatch h)
  | succ k ih =>
    intro x1 x3 t hf H locs ls w hl
    unfold f_MH_put_88 at hf
    refine lv_iload_n hx hb d_MH_put_88 rfl (lv_at hl 2 rfl) ?_
    refine lv_bipush (v := (32 : Int32)) hx hb d_MH_put_89 (by decide) ?_
    refine lv_icmp_ge (tgt := 143) hx hb d_MH_put_91 (by decide) (fun hc3 => ?_) (fun hc3 => ?_)
    · have hf := mz_t hc3 hf
      refine lv_aload_n hx hb d_MH_put_143 rfl (lv_at hl 0 rfl) ?_
      refine mz_get E w 0 0 (v := .ref (ad 1)) (by decide) rfl rfl ii_0 (by decide) (Nat.le_of_ble_eq_true rfl) k_424 rfl d_MH_put_144 ?_
      refine mz_get E w 1 3 (v := .int (mz_gI t 1 3)) (by decide) rfl rfl ii_1 (by decide) (Nat.le_of_ble_eq_true rfl) k_44 rfl d_MH_put_147 ?_
      obtain rfl := Option.some.inj hf
      exact mz_iret E w rfl d_MH_put_150
    · have hf := mz_f hc3 hf
      refine lv_iload_n hx hb d_MH_put_94 rfl (lv_at hl 1 rfl) ?_
      refine lv_iload_n hx hb d_MH_put_95 rfl (lv_at hl 2 rfl) ?_
      refine lv_iushr (v := (x1.toUInt32 >>> (x3.toUInt32 &&& Int32.toUInt32 31)).toInt32) hx hb d_MH_put_96 rfl ?_
      refine lv_sipush (v := (255 : Int32)) hx hb d_MH_put_97 (by decide) ?_
      refine lv_iand hx hb d_MH_put_100 ?_
      refine lv_istore (lv' := [(4, .int ((x1.toUInt32 >>> (x3.toUInt32 &&& Int32.toUInt32 31)).toInt32 &&& (255 : Int32))), (0, .ref (ad 0)), (1, .int x1), (3, .int x3)]) hx hb d_MH_put_101 hl (by decide) rfl (fun ls hl => ?_)
      refine lv_iload hx hb d_MH_put_103 (lv_at hl 0 rfl) ?_
      refine lv_if_eq (tgt := 137) hx hb d_MH_put_105 (by decide) (fun hc4 => ?_) (fun hc4 => ?_)
      · have hf := mz_t hc4 hf
        exact b_MH_put_137 E n (f_MH_put_88 n k) ih x1 x3 t hf _ _ _ w (lv_sub hl [1, 2, 3] rfl)
      · have hf := mz_f hc4 hf
        refine lv_aload_n hx hb d_MH_put_108 rfl (lv_at hl 1 rfl) ?_
        refine mz_get E w 0 0 (v := .ref (ad 1)) (by decide) rfl rfl ii_0 (by decide) (Nat.le_of_ble_eq_true rfl) k_424 rfl d_MH_put_109 ?_
        refine lv_aload_n hx hb d_MH_put_112 rfl (lv_at hl 1 rfl) ?_
        refine mz_get E w 0 0 (v := .ref (ad 1)) (by decide) rfl rfl ii_0 (by decide) (Nat.le_of_ble_eq_true rfl) k_424 rfl d_MH_put_113 ?_
        refine mz_get E w 1 3 (v := .int (mz_gI t 1 3)) (by decide) rfl rfl ii_1 (by decide) (Nat.le_of_ble_eq_true rfl) k_44 rfl d_MH_put_116 ?_
        refine lv_iload hx hb d_MH_put_119 (lv_at hl 0 rfl) ?_
        obtain ⟨q5, hq6, hf⟩ := mz_bd hf
        refine mz_callV E w (k := 1) (As := [.int (mz_gI t 1 3), .int ((x1.toUInt32 >>> (x3.toUInt32 &&& Int32.toUInt32 31)).toInt32 &&& (255 : Int32))]) (rest := []) (c_SI_write hSK l n (mz_gI t 1 3) ((x1.toUInt32 >>> (x3.toUInt32 &&& Int32.toUInt32 31)).toInt32 &&& (255 : Int32)) t q5 hq6) (by decide) rfl rfl k_662 k_2 k_1103 k_660 k_661 hm_SI_write ⟨⟨rfl, rfl⟩, Nat.le_of_ble_eq_true rfl, Nat.le_of_ble_eq_true rfl⟩ rfl hl.1 rfl (Nat.le_of_ble_eq_true rfl) d_MH_put_121 ⟨Nat.zero_le _, Nat.zero_le _⟩ (st1 := []) rfl (fun H locs w => ?_)
        refine lv_aload_n hx hb d_MH_put_124 rfl (lv_at hl 1 rfl) ?_
        refine mz_get E w 0 0 (v := .ref (ad 1)) (by decide) rfl rfl ii_0 (by decide) (Nat.le_of_ble_eq_true rfl) k_424 rfl d_MH_put_125 ?_
        refine lv_dup hx hb d_MH_put_128 rfl ?_
        refine mz_get E w 1 3 (v := .int (mz_gI q5 1 3)) (by decide) rfl rfl ii_1 (by decide) (Nat.le_of_ble_eq_true rfl) k_44 rfl d_MH_put_129 ?_
        refine lv_iconst (v := (1 : Int32)) hx hb d_MH_put_132 (by decide) ?_
        refine lv_iadd hx hb d_MH_put_133 ?_
        refine mz_put E w 1 3 (v := ((mz_gI q5 1 3) + (1 : Int32))) (by decide) rfl rfl ii_1 tk_1 nm_1 (by decide) (Nat.le_of_ble_eq_true rfl) k_44 rfl (tk_1 3 (by decide)) rfl rfl rfl d_MH_put_134 (fun H locs w => ?_)
        obtain ⟨t7, e_t7, hf⟩ := mz_lt hf
        rw [← e_t7] at w
        exact b_MH_put_137 E n (f_MH_put_88 n k) ih x1 x3 t7 hf _ _ _ w (lv_sub hl [1, 2, 3] rfl)
set_option maxRecDepth 100000 in
set_option maxHeartbeats 4000000 in
theorem b_MH_put_53 {SX : State → Heap → Prop} {dC : Nat → ClassId} {dI : Nat → Nat → Nat} {ad en : Nat → Nat} {ca : Nat → ClassId} {p : Program} {l : Launch} {e : Env} {s : State} {m : MethodId} {args : Array Value} {below : List Frame} {meth : Method} {c : Code} {res : (Int32 × mz_St)} (E : mz_En SX 80 mz_cl dC dI ad ca p s m meth c prog_1_method_2_code 5 "MacroHouse" (some (.int))) (n : Nat) (K4 : Int32 → Int32 → Int32 → mz_St → Option (Int32 × mz_St)) (hK4 : ∀ (x1 : Int32) (x2 : Int32) (x3 : Int32) (t : mz_St), K4 x1 x2 x3 t = some res → ∀ (H : Heap) (locs : List Loc) (ls : Array Slot), mz_Wd mz_tC 80 mz_cl dC dI ad en ca s t H locs → lv_has ls 5 [(0, .ref (ad 0)), (1, .int x1), (2, .int x2), (3, .int x3)] → W p l e (r_MH_put) s m args below meth c H locs 0 0 (MQ below (mz_Q SX mz_tC 80 mz_cl dC dI ad en ca (some (.int res.1)) res.2) args s 0 0 (mz_A ad 80)) (F0 m 4 ls [])) : ∀ (x1 : Int32) (x3 : Int32) (s0 : Int32) (s1 : Int32) (t : mz_St), f_MH_put_53 n K4 x1 x3 s0 s1 t = some res → ∀ (H : Heap) (locs : List Loc) (ls : Array Slot), mz_Wd mz_tC 80 mz_cl dC dI ad en ca s t H locs → lv_has ls 5 [(0, .ref (ad 0)), (1, .int x1), (3, .int x3)] → W p l e (r_MH_put) s m args below meth c H locs 0 0 (MQ below (mz_Q SX mz_tC 80 mz_cl dC dI ad en ca (some (.int res.1)) res.2) args s 0 0 (mz_A ad 80)) (F0 m 53 ls [.int s1, .int s0]) := by
  obtain ⟨hx, hb, hml, hown, hcx, -, -, hSX, -, -, hSK⟩ := id E
  intro x1 x3 s0 s1 t hf H locs ls w hl
  unfold f_MH_put_53 at hf
  refine lv_iadd hx hb d_MH_put_53 ?_
  refine lv_istore_n (lv' := [(2, .int (s0 + s1)), (0, .ref (ad 0)), (1, .int x1), (3, .int x3)]) hx hb d_MH_put_54 rfl hl (by decide) rfl (fun ls hl => ?_)
  refine lv_iinc (v := (x3 + (8 : Int32))) (lv' := [(3, .int (x3 + (8 : Int32))), (2, .int (s0 + s1)), (0, .ref (ad 0)), (1, .int x1)]) hx hb d_MH_put_55 hl (k := 3) rfl rfl (by decide) rfl (fun ls hl => ?_)
  refine lv_goto (tgt := 4) hx hb d_MH_put_58 (by decide) ?_
  exact hK4 x1 (s0 + s1) (x3 + (8 : Int32)) t hf _ _ _ w (lv_sub hl [2, 3, 1, 0] rfl)
set_option maxRecDepth 100000 in
set_option maxHeartbeats 4000000 in
theorem b_MH_put_42 {SX : State → Heap → Prop} {dC : Nat → ClassId} {dI : Nat → Nat → Nat} {ad en : Nat → Nat} {ca : Nat → ClassId} {p : Program} {l : Launch} {e : Env} {s : State} {m : MethodId} {args : Array Value} {below : List Frame} {meth : Method} {c : Code} {res : (Int32 × mz_St)} (E : mz_En SX 80 mz_cl dC dI ad ca p s m meth c prog_1_method_2_code 5 "MacroHouse" (some (.int))) (n : Nat) (K4 : Int32 → Int32 → Int32 → mz_St → Option (Int32 × mz_St)) (hK4 : ∀ (x1 : Int32) (x2 : Int32) (x3 : Int32) (t : mz_St), K4 x1 x2 x3 t = some res → ∀ (H : Heap) (locs : List Loc) (ls : Array Slot), mz_Wd mz_tC 80 mz_cl dC dI ad en ca s t H locs → lv_has ls 5 [(0, .ref (ad 0)), (1, .int x1), (2, .int x2), (3, .int x3)] → W p l e (r_MH_put) s m args below meth c H locs 0 0 (MQ below (mz_Q SX mz_tC 80 mz_cl dC dI ad en ca (some (.int res.1)) res.2) args s 0 0 (mz_A ad 80)) (F0 m 4 ls [])) : ∀ (x1 : Int32) (x2 : Int32) (x3 : Int32) (x4 : Int32) (t : mz_St), f_MH_put_42 n K4 x1 x2 x3 x4 t = some res → ∀ (H : Heap) (locs : List Loc) (ls : Array Slot), mz_Wd mz_tC 80 mz_cl dC dI ad en ca s t H locs → lv_has ls 5 [(0, .ref (ad 0)), (1, .int x1), (2, .int x2), (3, .int x3), (4, .int x4)] → W p l e (r_MH_put) s m args below meth c H locs 0 0 (MQ below (mz_Q SX mz_tC 80 mz_cl dC dI ad en ca (some (.int res.1)) res.2) args s 0 0 (mz_A ad 80)) (F0 m 42 ls []) := by
  obtain ⟨hx, hb, hml, hown, hcx, -, -, hSX, -, -, hSK⟩ := id E
  intro x1 x2 x3 x4 t hf H locs ls w hl
  unfold f_MH_put_42 at hf
  refine lv_iload_n hx hb d_MH_put_42 rfl (lv_at hl 2 rfl) ?_
  refine lv_iload hx hb d_MH_put_43 (lv_at hl 4 rfl) ?_
  refine lv_if_ne (tgt := 52) hx hb d_MH_put_45 (by decide) (fun hc9 => ?_) (fun hc9 => ?_)
  · have hf := mz_f hc9 hf
    refine lv_iconst (v := (1 : Int32)) hx hb d_MH_put_52 (by decide) ?_
    exact b_MH_put_53 E n K4 hK4 x1 x3 x2 (1 : Int32) t hf _ _ _ w (lv_sub hl [0, 1, 3] rfl)
  · have hf := mz_t hc9 hf
    refine lv_iconst (v := (0 : Int32)) hx hb d_MH_put_48 (by decide) ?_
    refine lv_goto (tgt := 53) hx hb d_MH_put_49 (by decide) ?_
    exact b_MH_put_53 E n K4 hK4 x1 x3 x2 (0 : Int32) t hf _ _ _ w (lv_sub hl [0, 1, 3] rfl)
set_option maxRecDepth 100000 in
set_option maxHeartbeats 4000000 in
theorem b_MH_put_4 {SX : State → Heap → Prop} {dC : Nat → ClassId} {dI : Nat → Nat → Nat} {ad en : Nat → Nat} {ca : Nat → ClassId} {p : Program} {l : Launch} {e : Env} {s : State} {m : MethodId} {args : Array Value} {below : List Frame} {meth : Method} {c : Code} {res : (Int32 × mz_St)} (E : mz_En SX 80 mz_cl dC dI ad ca p s m meth c prog_1_method_2_code 5 "MacroHouse" (some (.int))) (n : Nat) (k : Nat) : ∀ (x1 : Int32) (x2 : Int32) (x3 : Int32) (t : mz_St), f_MH_put_4 n k x1 x2 x3 t = some res → ∀ (H : Heap) (locs : List Loc) (ls : Array Slot), mz_Wd mz_tC 80 mz_cl dC dI ad en ca s t H locs → lv_has ls 5 [(0, .ref (ad 0)), (1, .int x1), (2, .int x2), (3, .int x3)] → W p l e (r_MH_put) s m args below meth c H locs 0 0 (MQ below (mz_Q SX mz_tC 80 mz_cl dC dI ad en ca (some (.int res.1)) res.2) args s 0 0 (mz_A ad 80)) (F0 m 4 ls []) := by
  obtain ⟨hx, hb, hml, hown, hcx, -, -, hSX, -, -, hSK⟩ := id E
  induction k with
  | zero => intro x1 x2 x3 t hf; exact absurd hf (by unfold f_MH_put_4; exact fun h => nomatch h)
  | succ k ih =>
    intro x1 x2 x3 t hf H locs ls w hl
    unfold f_MH_put_4 at hf
    refine lv_iload_n hx hb d_MH_put_4 rfl (lv_at hl 3 rfl) ?_
    refine lv_bipush (v := (32 : Int32)) hx hb d_MH_put_5 (by decide) ?_
    refine lv_icmp_ge (tgt := 61) hx hb d_MH_put_7 (by decide) (fun hc1 => ?_) (fun hc1 => ?_)
    · have hf := mz_t hc1 hf
      refine lv_aload_n hx hb d_MH_put_61 rfl (lv_at hl 0 rfl) ?_
      refine mz_get E w 0 0 (v := .ref (ad 1)) (by decide) rfl rfl ii_0 (by decide) (Nat.le_of_ble_eq_true rfl) k_424 rfl d_MH_put_62 ?_
      refine mz_get E w 1 3 (v := .int (mz_gI t 1 3)) (by decide) rfl rfl ii_1 (by decide) (Nat.le_of_ble_eq_true rfl) k_44 rfl d_MH_put_65 ?_
      refine lv_iload_n hx hb d_MH_put_68 rfl (lv_at hl 2 rfl) ?_
      refine lv_iadd hx hb d_MH_put_69 ?_
      refine lv_sipush (v := (3000 : Int32)) hx hb d_MH_put_70 (by decide) ?_
      refine lv_icmp_le (tgt := 86) hx hb d_MH_put_73 (by decide) (fun hc2 => ?_) (fun hc2 => ?_)
      · have hf := mz_t hc2 hf
        refine lv_iconst (v := (0 : Int32)) hx hb d_MH_put_86 (by decide) ?_
        refine lv_istore_n (lv' := [(3, .int (0 : Int32)), (0, .ref (ad 0)), (1, .int x1), (2, .int x2)]) hx hb d_MH_put_87 rfl hl (by decide) rfl (fun ls hl => ?_)
        exact b_MH_put_88 E n n x1 (0 : Int32) t hf _ _ _ w (lv_sub hl [1, 2, 0] rfl)
      · have hf := mz_f hc2 hf
        exact nomatch hf
    · have hf := mz_f hc1 hf
      refine lv_iload_n hx hb d_MH_put_10 rfl (lv_at hl 1 rfl) ?_
      refine lv_iload_n hx hb d_MH_put_11 rfl (lv_at hl 3 rfl) ?_
      refine lv_iushr (v := (x1.toUInt32 >>> (x3.toUInt32 &&& Int32.toUInt32 31)).toInt32) hx hb d_MH_put_12 rfl ?_
      refine lv_sipush (v := (255 : Int32)) hx hb d_MH_put_13 (by decide) ?_
      refine lv_iand hx hb d_MH_put_16 ?_
      refine lv_istore (lv' := [(4, .int ((x1.toUInt32 >>> (x3.toUInt32 &&& Int32.toUInt32 31)).toInt32 &&& (255 : Int32))), (0, .ref (ad 0)), (1, .int x1), (2, .int x2), (3, .int x3)]) hx hb d_MH_put_17 hl (by decide) rfl (fun ls hl => ?_)
      refine lv_iload hx hb d_MH_put_19 (lv_at hl 0 rfl) ?_
      refine lv_if_eq (tgt := 42) hx hb d_MH_put_21 (by decide) (fun hc8 => ?_) (fun hc8 => ?_)
      · have hf := mz_t hc8 hf
        exact b_MH_put_42 E n (f_MH_put_4 n k) ih x1 x2 x3 ((x1.toUInt32 >>> (x3.toUInt32 &&& Int32.toUInt32 31)).toInt32 &&& (255 : Int32)) t hf _ _ _ w (lv_sub hl [1, 2, 3, 4, 0] rfl)
      · have hf := mz_f hc8 hf
        refine lv_iload hx hb d_MH_put_24 (lv_at hl 0 rfl) ?_
        obtain ⟨q10, hq11, hf⟩ := mz_bd hf
        refine mz_callS E w (As := [.int ((x1.toUInt32 >>> (x3.toUInt32 &&& Int32.toUInt32 31)).toInt32 &&& (255 : Int32))]) (rest := []) (c_SI_mayStand hSK l n ((x1.toUInt32 >>> (x3.toUInt32 &&& Int32.toUInt32 31)).toInt32 &&& (255 : Int32)) t q10 hq11) k_1019 k_2 k_1017 k_1018 hm_SI_mayStand ⟨⟨rfl, rfl⟩, Nat.le_of_ble_eq_true rfl, Nat.le_of_ble_eq_true rfl⟩ rfl hl.1 rfl (Nat.le_of_ble_eq_true rfl) d_MH_put_26 ⟨Nat.zero_le _, Nat.zero_le _⟩ (st1 := [.int q10.1]) rfl (fun H locs w => ?_)
        refine lv_if_ne (tgt := 42) hx hb d_MH_put_29 (by decide) (fun hc12 => ?_) (fun hc12 => ?_)
        · have hf := mz_f hc12 hf
          exact b_MH_put_42 E n (f_MH_put_4 n k) ih x1 x2 x3 ((x1.toUInt32 >>> (x3.toUInt32 &&& Int32.toUInt32 31)).toInt32 &&& (255 : Int32)) q10.2 hf _ _ _ w (lv_sub hl [1, 2, 3, 4, 0] rfl)
        · have hf := mz_t hc12 hf
          exact nomatch hf
set_option maxRecDepth 100000 in
set_option maxHeartbeats 4000000 in
theorem c_MH_put {SX : State → Heap → Prop} {dC : Nat → ClassId} {dI : Nat → Nat → Nat} {ad en : Nat → Nat} {ca : Nat → ClassId} (hSK : mz_SK SX ad 80) (l : Launch) (n : Nat) (x1 : Int32) (t : mz_St) (res : (Int32 × mz_St)) (hf : f_MH_put n x1 t = some res) : mz_C SX mz_tC 80 mz_cl dC dI ad en ca l y_MH_put prog_1_method_2_code 5 (some (.int)) (r_MH_put) [.ref (ad 0), .int x1] t (some (.int res.1)) res.2 := by
  unfold f_MH_put at hf
  refine mz_met hSK (by decide) (Nat.le_of_ble_eq_true rfl) ?_
  intro p e s m args below meth c ls E w hl
  obtain ⟨hx, hb, hml, hown, hcx, -, -, hSX, -, -, -⟩ := id E
  have hl : lv_has ls 5 [(0, .ref (ad 0)), (1, .int x1)] := hl
  refine lv_iconst (v := (0 : Int32)) hx hb d_MH_put_0 (by decide) ?_
  refine lv_istore_n (lv' := [(2, .int (0 : Int32)), (0, .ref (ad 0)), (1, .int x1)]) hx hb d_MH_put_1 rfl hl (by decide) rfl (fun ls hl => ?_)
  refine lv_iconst (v := (0 : Int32)) hx hb d_MH_put_2 (by decide) ?_
  refine lv_istore_n (lv' := [(3, .int (0 : Int32)), (2, .int (0 : Int32)), (0, .ref (ad 0)), (1, .int x1)]) hx hb d_MH_put_3 rfl hl (by decide) rfl (fun ls hl => ?_)
  exact b_MH_put_4 E n n x1 (0 : Int32) (0 : Int32) t hf _ _ _ w (lv_sub hl [2, 3, 1, 0] rfl)

/-! MacroHouse.end(I)V -/
abbrev r_MH_end : Room := { frames := 0, cells := 0, slots := 0, locals := 0 }
def f_MH_end_15 (n : Nat) (t : mz_St) : Option mz_St := none
def f_MH_end (n : Nat) (x1 : Int32) (t : mz_St) : Option mz_St := if x1 < 0 then (f_MH_end_15 n  t) else (if x1 ≤ (mz_gI t 1 3) then (mz_let (mz_pI t 1 3 x1) fun t3 => some t3) else (f_MH_end_15 n  t))
set_option maxRecDepth 100000 in
set_option maxHeartbeats 4000000 in
theorem b_MH_end_15 {SX : State → Heap → Prop} {dC : Nat → ClassId} {dI : Nat → Nat → Nat} {ad en : Nat → Nat} {ca : Nat → ClassId} {p : Program} {l : Launch} {e : Env} {s : State} {m : MethodId} {args : Array Value} {below : List Frame} {meth : Method} {c : Code} {res : mz_St} (E : mz_En SX 80 mz_cl dC dI ad ca p s m meth c prog_1_method_3_code 2 "MacroHouse" none) (n : Nat) : ∀ (t : mz_St), f_MH_end_15 n t = some res → ∀ (H : Heap) (locs : List Loc) (ls : Array Slot), mz_Wd mz_tC 80 mz_cl dC dI ad en ca s t H locs → lv_has ls 2 [] → W p l e (r_MH_end) s m args below meth c H locs 0 0 (MQ below (mz_Q SX mz_tC 80 mz_cl dC dI ad en ca none res) args s 0 0 (mz_A ad 80)) (F0 m 15 ls []) := by
  obtain ⟨hx, hb, hml, hown, hcx, -, -, hSX, -, -, hSK⟩ := id E
  intro t hf H locs ls w hl
  unfold f_MH_end_15 at hf
  exact nomatch hf
set_option maxRecDepth 100000 in
set_option maxHeartbeats 4000000 in
theorem c_MH_end {SX : State → Heap → Prop} {dC : Nat → ClassId} {dI : Nat → Nat → Nat} {ad en : Nat → Nat} {ca : Nat → ClassId} (hSK : mz_SK SX ad 80) (l : Launch) (n : Nat) (x1 : Int32) (t : mz_St) (res : mz_St) (hf : f_MH_end n x1 t = some res) : mz_C SX mz_tC 80 mz_cl dC dI ad en ca l y_MH_end prog_1_method_3_code 2 none (r_MH_end) [.ref (ad 0), .int x1] t none res := by
  unfold f_MH_end at hf
  refine mz_met hSK (by decide) (Nat.le_of_ble_eq_true rfl) ?_
  intro p e s m args below meth c ls E w hl
  obtain ⟨hx, hb, hml, hown, hcx, -, -, hSX, -, -, -⟩ := id E
  have hl : lv_has ls 2 [(0, .ref (ad 0)), (1, .int x1)] := hl
  refine lv_iload_n hx hb d_MH_end_0 rfl (lv_at hl 1 rfl) ?_
  refine lv_if_lt (tgt := 15) hx hb d_MH_end_1 (by decide) (fun hc1 => ?_) (fun hc1 => ?_)
  · have hf := mz_t hc1 hf
    exact b_MH_end_15 E n  t hf _ _ _ w (lv_sub hl [] rfl)
  · have hf := mz_f hc1 hf
    refine lv_iload_n hx hb d_MH_end_4 rfl (lv_at hl 1 rfl) ?_
    refine lv_aload_n hx hb d_MH_end_5 rfl (lv_at hl 0 rfl) ?_
    refine mz_get E w 0 0 (v := .ref (ad 1)) (by decide) rfl rfl ii_0 (by decide) (Nat.le_of_ble_eq_true rfl) k_424 rfl d_MH_end_6 ?_
    refine mz_get E w 1 3 (v := .int (mz_gI t 1 3)) (by decide) rfl rfl ii_1 (by decide) (Nat.le_of_ble_eq_true rfl) k_44 rfl d_MH_end_9 ?_
    refine lv_icmp_le (tgt := 25) hx hb d_MH_end_12 (by decide) (fun hc2 => ?_) (fun hc2 => ?_)
    · have hf := mz_t hc2 hf
      refine lv_aload_n hx hb d_MH_end_25 rfl (lv_at hl 0 rfl) ?_
      refine mz_get E w 0 0 (v := .ref (ad 1)) (by decide) rfl rfl ii_0 (by decide) (Nat.le_of_ble_eq_true rfl) k_424 rfl d_MH_end_26 ?_
      refine lv_iload_n hx hb d_MH_end_29 rfl (lv_at hl 1 rfl) ?_
      refine mz_put E w 1 3 (v := x1) (by decide) rfl rfl ii_1 tk_1 nm_1 (by decide) (Nat.le_of_ble_eq_true rfl) k_44 rfl (tk_1 3 (by decide)) rfl rfl rfl d_MH_end_30 (fun H locs w => ?_)
      obtain ⟨t3, e_t3, hf⟩ := mz_lt hf
      rw [← e_t3] at w
      obtain rfl := Option.some.inj hf
      exact mz_vret E w rfl d_MH_end_33
    · have hf := mz_f hc2 hf
      exact b_MH_end_15 E n  t hf _ _ _ w (lv_sub hl [] rfl)

/-! MacroHouse.about(I)I -/
abbrev r_MH_about : Room := { frames := 0, cells := 0, slots := 0, locals := 0 }
def f_MH_about (n : Nat) (x1 : Int32) (t : mz_St) : Option (Int32 × mz_St) := if x1 = (0 : Int32) then (some ((mz_gI t 5 7), t)) else (if x1 = (1 : Int32) then (some ((mz_gI t 5 8), t)) else (if x1 = (2 : Int32) then (some ((mz_gI t 5 9), t)) else (if x1 = (3 : Int32) then (some ((mz_gI t 5 10), t)) else (if x1 = (4 : Int32) then (some ((mz_gI t 27 4), t)) else (if x1 = (5 : Int32) then (some ((mz_gI t 15 4), t)) else (if x1 = (6 : Int32) then (some ((mz_gI t 32 5), t)) else (if x1 = (7 : Int32) then (some ((mz_gI t 32 6), t)) else (if x1 = (8 : Int32) then (some ((mz_gI t 30 5), t)) else none))))))))
set_option maxRecDepth 100000 in
set_option maxHeartbeats 4000000 in
theorem c_MH_about {SX : State → Heap → Prop} {dC : Nat → ClassId} {dI : Nat → Nat → Nat} {ad en : Nat → Nat} {ca : Nat → ClassId} (hSK : mz_SK SX ad 80) (l : Launch) (n : Nat) (x1 : Int32) (t : mz_St) (res : (Int32 × mz_St)) (hf : f_MH_about n x1 t = some res) : mz_C SX mz_tC 80 mz_cl dC dI ad en ca l y_MH_about prog_1_method_5_code 2 (some (.int)) (r_MH_about) [.ref (ad 0), .int x1] t (some (.int res.1)) res.2 := by
  unfold f_MH_about at hf
  refine mz_met hSK (by decide) (Nat.le_of_ble_eq_true rfl) ?_
  intro p e s m args below meth c ls E w hl
  obtain ⟨hx, hb, hml, hown, hcx, -, -, hSX, -, -, -⟩ := id E
  have hl : lv_has ls 2 [(0, .ref (ad 0)), (1, .int x1)] := hl
  refine lv_iload_n hx hb d_MH_about_0 rfl (lv_at hl 1 rfl) ?_
  by_cases hc1 : x1 = (0 : Int32)
  · have hf := mz_t hc1 hf
    refine lv_tableIn (off := 51) (tgt := 52) hx hb d_MH_about_1 (by rw [hc1]; decide) (by rw [hc1]; decide) (by rw [hc1]; rfl) (by decide) ?_
    refine lv_aload_n hx hb d_MH_about_52 rfl (lv_at hl 0 rfl) ?_
    refine mz_get E w 0 1 (v := .ref (ad 5)) (by decide) rfl rfl ii_0 (by decide) (Nat.le_of_ble_eq_true rfl) k_425 rfl d_MH_about_53 ?_
    refine mz_get E w 5 7 (v := .int (mz_gI t 5 7)) (by decide) rfl rfl ii_2 (by decide) (Nat.le_of_ble_eq_true rfl) k_382 rfl d_MH_about_56 ?_
    obtain rfl := Option.some.inj hf
    exact mz_iret E w rfl d_MH_about_59
  · have hf := mz_f hc1 hf
    by_cases hc2 : x1 = (1 : Int32)
    · have hf := mz_t hc2 hf
      refine lv_tableIn (off := 59) (tgt := 60) hx hb d_MH_about_1 (by rw [hc2]; decide) (by rw [hc2]; decide) (by rw [hc2]; rfl) (by decide) ?_
      refine lv_aload_n hx hb d_MH_about_60 rfl (lv_at hl 0 rfl) ?_
      refine mz_get E w 0 1 (v := .ref (ad 5)) (by decide) rfl rfl ii_0 (by decide) (Nat.le_of_ble_eq_true rfl) k_425 rfl d_MH_about_61 ?_
      refine mz_get E w 5 8 (v := .int (mz_gI t 5 8)) (by decide) rfl rfl ii_2 (by decide) (Nat.le_of_ble_eq_true rfl) k_384 rfl d_MH_about_64 ?_
      obtain rfl := Option.some.inj hf
      exact mz_iret E w rfl d_MH_about_67
    · have hf := mz_f hc2 hf
      by_cases hc3 : x1 = (2 : Int32)
      · have hf := mz_t hc3 hf
        refine lv_tableIn (off := 67) (tgt := 68) hx hb d_MH_about_1 (by rw [hc3]; decide) (by rw [hc3]; decide) (by rw [hc3]; rfl) (by decide) ?_
        refine lv_aload_n hx hb d_MH_about_68 rfl (lv_at hl 0 rfl) ?_
        refine mz_get E w 0 1 (v := .ref (ad 5)) (by decide) rfl rfl ii_0 (by decide) (Nat.le_of_ble_eq_true rfl) k_425 rfl d_MH_about_69 ?_
        refine mz_get E w 5 9 (v := .int (mz_gI t 5 9)) (by decide) rfl rfl ii_2 (by decide) (Nat.le_of_ble_eq_true rfl) k_386 rfl d_MH_about_72 ?_
        obtain rfl := Option.some.inj hf
        exact mz_iret E w rfl d_MH_about_75
      · have hf := mz_f hc3 hf
        by_cases hc4 : x1 = (3 : Int32)
        · have hf := mz_t hc4 hf
          refine lv_tableIn (off := 75) (tgt := 76) hx hb d_MH_about_1 (by rw [hc4]; decide) (by rw [hc4]; decide) (by rw [hc4]; rfl) (by decide) ?_
          refine lv_aload_n hx hb d_MH_about_76 rfl (lv_at hl 0 rfl) ?_
          refine mz_get E w 0 1 (v := .ref (ad 5)) (by decide) rfl rfl ii_0 (by decide) (Nat.le_of_ble_eq_true rfl) k_425 rfl d_MH_about_77 ?_
          refine mz_get E w 5 10 (v := .int (mz_gI t 5 10)) (by decide) rfl rfl ii_2 (by decide) (Nat.le_of_ble_eq_true rfl) k_388 rfl d_MH_about_80 ?_
          obtain rfl := Option.some.inj hf
          exact mz_iret E w rfl d_MH_about_83
        · have hf := mz_f hc4 hf
          by_cases hc5 : x1 = (4 : Int32)
          · have hf := mz_t hc5 hf
            refine lv_tableIn (off := 83) (tgt := 84) hx hb d_MH_about_1 (by rw [hc5]; decide) (by rw [hc5]; decide) (by rw [hc5]; rfl) (by decide) ?_
            refine lv_aload_n hx hb d_MH_about_84 rfl (lv_at hl 0 rfl) ?_
            refine mz_get E w 0 1 (v := .ref (ad 5)) (by decide) rfl rfl ii_0 (by decide) (Nat.le_of_ble_eq_true rfl) k_425 rfl d_MH_about_85 ?_
            refine mz_get E w 5 4 (v := .ref (ad 18)) (by decide) rfl rfl ii_2 (by decide) (Nat.le_of_ble_eq_true rfl) k_376 rfl d_MH_about_88 ?_
            refine mz_get E w 18 1 (v := .ref (ad 27)) (by decide) rfl rfl ii_7 (by decide) (Nat.le_of_ble_eq_true rfl) k_222 rfl d_MH_about_91 ?_
            refine mz_get E w 27 4 (v := .int (mz_gI t 27 4)) (by decide) rfl rfl ii_6 (by decide) (Nat.le_of_ble_eq_true rfl) k_149 rfl d_MH_about_94 ?_
            obtain rfl := Option.some.inj hf
            exact mz_iret E w rfl d_MH_about_97
          · have hf := mz_f hc5 hf
            by_cases hc6 : x1 = (5 : Int32)
            · have hf := mz_t hc6 hf
              refine lv_tableIn (off := 97) (tgt := 98) hx hb d_MH_about_1 (by rw [hc6]; decide) (by rw [hc6]; decide) (by rw [hc6]; rfl) (by decide) ?_
              refine lv_aload_n hx hb d_MH_about_98 rfl (lv_at hl 0 rfl) ?_
              refine mz_get E w 0 1 (v := .ref (ad 5)) (by decide) rfl rfl ii_0 (by decide) (Nat.le_of_ble_eq_true rfl) k_425 rfl d_MH_about_99 ?_
              refine mz_get E w 5 3 (v := .ref (ad 13)) (by decide) rfl rfl ii_2 (by decide) (Nat.le_of_ble_eq_true rfl) k_374 rfl d_MH_about_102 ?_
              refine mz_get E w 13 0 (v := .ref (ad 15)) (by decide) rfl rfl ii_5 (by decide) (Nat.le_of_ble_eq_true rfl) k_163 rfl d_MH_about_105 ?_
              refine mz_get E w 15 4 (v := .int (mz_gI t 15 4)) (by decide) rfl rfl ii_6 (by decide) (Nat.le_of_ble_eq_true rfl) k_149 rfl d_MH_about_108 ?_
              obtain rfl := Option.some.inj hf
              exact mz_iret E w rfl d_MH_about_111
            · have hf := mz_f hc6 hf
              by_cases hc7 : x1 = (6 : Int32)
              · have hf := mz_t hc7 hf
                refine lv_tableIn (off := 111) (tgt := 112) hx hb d_MH_about_1 (by rw [hc7]; decide) (by rw [hc7]; decide) (by rw [hc7]; rfl) (by decide) ?_
                refine lv_aload_n hx hb d_MH_about_112 rfl (lv_at hl 0 rfl) ?_
                refine mz_get E w 0 1 (v := .ref (ad 5)) (by decide) rfl rfl ii_0 (by decide) (Nat.le_of_ble_eq_true rfl) k_425 rfl d_MH_about_113 ?_
                refine mz_get E w 5 6 (v := .ref (ad 32)) (by decide) rfl rfl ii_2 (by decide) (Nat.le_of_ble_eq_true rfl) k_380 rfl d_MH_about_116 ?_
                refine mz_get E w 32 5 (v := .int (mz_gI t 32 5)) (by decide) rfl rfl ii_9 (by decide) (Nat.le_of_ble_eq_true rfl) k_106 rfl d_MH_about_119 ?_
                obtain rfl := Option.some.inj hf
                exact mz_iret E w rfl d_MH_about_122
              · have hf := mz_f hc7 hf
                by_cases hc8 : x1 = (7 : Int32)
                · have hf := mz_t hc8 hf
                  refine lv_tableIn (off := 122) (tgt := 123) hx hb d_MH_about_1 (by rw [hc8]; decide) (by rw [hc8]; decide) (by rw [hc8]; rfl) (by decide) ?_
                  refine lv_aload_n hx hb d_MH_about_123 rfl (lv_at hl 0 rfl) ?_
                  refine mz_get E w 0 1 (v := .ref (ad 5)) (by decide) rfl rfl ii_0 (by decide) (Nat.le_of_ble_eq_true rfl) k_425 rfl d_MH_about_124 ?_
                  refine mz_get E w 5 6 (v := .ref (ad 32)) (by decide) rfl rfl ii_2 (by decide) (Nat.le_of_ble_eq_true rfl) k_380 rfl d_MH_about_127 ?_
                  refine mz_get E w 32 6 (v := .int (mz_gI t 32 6)) (by decide) rfl rfl ii_9 (by decide) (Nat.le_of_ble_eq_true rfl) k_108 rfl d_MH_about_130 ?_
                  obtain rfl := Option.some.inj hf
                  exact mz_iret E w rfl d_MH_about_133
                · have hf := mz_f hc8 hf
                  by_cases hc9 : x1 = (8 : Int32)
                  · have hf := mz_t hc9 hf
                    refine lv_tableIn (off := 133) (tgt := 134) hx hb d_MH_about_1 (by rw [hc9]; decide) (by rw [hc9]; decide) (by rw [hc9]; rfl) (by decide) ?_
                    refine lv_aload_n hx hb d_MH_about_134 rfl (lv_at hl 0 rfl) ?_
                    refine mz_get E w 0 1 (v := .ref (ad 5)) (by decide) rfl rfl ii_0 (by decide) (Nat.le_of_ble_eq_true rfl) k_425 rfl d_MH_about_135 ?_
                    refine mz_get E w 5 5 (v := .ref (ad 30)) (by decide) rfl rfl ii_2 (by decide) (Nat.le_of_ble_eq_true rfl) k_378 rfl d_MH_about_138 ?_
                    refine mz_get E w 30 5 (v := .int (mz_gI t 30 5)) (by decide) rfl rfl ii_8 (by decide) (Nat.le_of_ble_eq_true rfl) k_338 rfl d_MH_about_141 ?_
                    obtain rfl := Option.some.inj hf
                    exact mz_iret E w rfl d_MH_about_144
                  · have hf := mz_f hc9 hf
                    refine lv_tableOut (tgt := 145) hx hb d_MH_about_1 (by have := lv_neT (a := 0) hc1 rfl; have := lv_neT (a := 1) hc2 rfl; have := lv_neT (a := 2) hc3 rfl; have := lv_neT (a := 3) hc4 rfl; have := lv_neT (a := 4) hc5 rfl; have := lv_neT (a := 5) hc6 rfl; have := lv_neT (a := 6) hc7 rfl; have := lv_neT (a := 7) hc8 rfl; have := lv_neT (a := 8) hc9 rfl; omega) (by decide) ?_
                    exact nomatch hf

/-! MacroHouse.line(II)I -/
abbrev r_MH_line : Room := { frames := 2, cells := 0, slots := 0, locals := 45 }
def f_MH_line_18 (n : Nat) (t : mz_St) : Option (Int32 × mz_St) := none
def f_MH_line (n : Nat) (x1 : Int32) (x2 : Int32) (t : mz_St) : Option (Int32 × mz_St) := if x1 < 0 then (f_MH_line_18 n  t) else (if x1 < (mz_gI t 32 5) then (if 0 ≤ x2 then ((f_OU_tell n x1 x2 t).bind fun q4 => some (q4.1, q4.2)) else none) else (f_MH_line_18 n  t))
set_option maxRecDepth 100000 in
set_option maxHeartbeats 4000000 in
theorem b_MH_line_18 {SX : State → Heap → Prop} {dC : Nat → ClassId} {dI : Nat → Nat → Nat} {ad en : Nat → Nat} {ca : Nat → ClassId} {p : Program} {l : Launch} {e : Env} {s : State} {m : MethodId} {args : Array Value} {below : List Frame} {meth : Method} {c : Code} {res : (Int32 × mz_St)} (E : mz_En SX 80 mz_cl dC dI ad ca p s m meth c prog_1_method_6_code 3 "MacroHouse" (some (.int))) (n : Nat) : ∀ (t : mz_St), f_MH_line_18 n t = some res → ∀ (H : Heap) (locs : List Loc) (ls : Array Slot), mz_Wd mz_tC 80 mz_cl dC dI ad en ca s t H locs → lv_has ls 3 [] → W p l e (r_MH_line) s m args below meth c H locs 0 0 (MQ below (mz_Q SX mz_tC 80 mz_cl dC dI ad en ca (some (.int res.1)) res.2) args s 0 0 (mz_A ad 80)) (F0 m 18 ls []) := by
  obtain ⟨hx, hb, hml, hown, hcx, -, -, hSX, -, -, hSK⟩ := id E
  intro t hf H locs ls w hl
  unfold f_MH_line_18 at hf
  exact nomatch hf
set_option maxRecDepth 100000 in
set_option maxHeartbeats 4000000 in
theorem c_MH_line {SX : State → Heap → Prop} {dC : Nat → ClassId} {dI : Nat → Nat → Nat} {ad en : Nat → Nat} {ca : Nat → ClassId} (hSK : mz_SK SX ad 80) (l : Launch) (n : Nat) (x1 : Int32) (x2 : Int32) (t : mz_St) (res : (Int32 × mz_St)) (hf : f_MH_line n x1 x2 t = some res) : mz_C SX mz_tC 80 mz_cl dC dI ad en ca l y_MH_line prog_1_method_6_code 3 (some (.int)) (r_MH_line) [.ref (ad 0), .int x1, .int x2] t (some (.int res.1)) res.2 := by
  unfold f_MH_line at hf
  refine mz_met hSK (by decide) (Nat.le_of_ble_eq_true rfl) ?_
  intro p e s m args below meth c ls E w hl
  obtain ⟨hx, hb, hml, hown, hcx, -, -, hSX, -, -, -⟩ := id E
  have hl : lv_has ls 3 [(0, .ref (ad 0)), (1, .int x1), (2, .int x2)] := hl
  refine lv_iload_n hx hb d_MH_line_0 rfl (lv_at hl 1 rfl) ?_
  refine lv_if_lt (tgt := 18) hx hb d_MH_line_1 (by decide) (fun hc1 => ?_) (fun hc1 => ?_)
  · have hf := mz_t hc1 hf
    exact b_MH_line_18 E n  t hf _ _ _ w (lv_sub hl [] rfl)
  · have hf := mz_f hc1 hf
    refine lv_iload_n hx hb d_MH_line_4 rfl (lv_at hl 1 rfl) ?_
    refine lv_aload_n hx hb d_MH_line_5 rfl (lv_at hl 0 rfl) ?_
    refine mz_get E w 0 1 (v := .ref (ad 5)) (by decide) rfl rfl ii_0 (by decide) (Nat.le_of_ble_eq_true rfl) k_425 rfl d_MH_line_6 ?_
    refine mz_get E w 5 6 (v := .ref (ad 32)) (by decide) rfl rfl ii_2 (by decide) (Nat.le_of_ble_eq_true rfl) k_380 rfl d_MH_line_9 ?_
    refine mz_get E w 32 5 (v := .int (mz_gI t 32 5)) (by decide) rfl rfl ii_9 (by decide) (Nat.le_of_ble_eq_true rfl) k_106 rfl d_MH_line_12 ?_
    refine lv_icmp_lt (tgt := 28) hx hb d_MH_line_15 (by decide) (fun hc2 => ?_) (fun hc2 => ?_)
    · have hf := mz_t hc2 hf
      refine lv_iload_n hx hb d_MH_line_28 rfl (lv_at hl 2 rfl) ?_
      refine lv_if_ge (tgt := 42) hx hb d_MH_line_29 (by decide) (fun hc3 => ?_) (fun hc3 => ?_)
      · have hf := mz_t hc3 hf
        refine lv_aload_n hx hb d_MH_line_42 rfl (lv_at hl 0 rfl) ?_
        refine mz_get E w 0 1 (v := .ref (ad 5)) (by decide) rfl rfl ii_0 (by decide) (Nat.le_of_ble_eq_true rfl) k_425 rfl d_MH_line_43 ?_
        refine mz_get E w 5 6 (v := .ref (ad 32)) (by decide) rfl rfl ii_2 (by decide) (Nat.le_of_ble_eq_true rfl) k_380 rfl d_MH_line_46 ?_
        refine lv_iload_n hx hb d_MH_line_49 rfl (lv_at hl 1 rfl) ?_
        refine lv_iload_n hx hb d_MH_line_50 rfl (lv_at hl 2 rfl) ?_
        obtain ⟨q4, hq5, hf⟩ := mz_bd hf
        refine mz_callV E w (k := 32) (As := [.int x1, .int x2]) (rest := []) (c_OU_tell hSK l n x1 x2 t q4 hq5) (by decide) rfl rfl k_1148 k_5 k_1145 k_1146 k_1147 hm_OU_tell ⟨⟨rfl, rfl⟩, Nat.le_of_ble_eq_true rfl, Nat.le_of_ble_eq_true rfl⟩ rfl hl.1 rfl (Nat.le_of_ble_eq_true rfl) d_MH_line_51 ⟨Nat.zero_le _, Nat.zero_le _⟩ (st1 := [.int q4.1]) rfl (fun H locs w => ?_)
        obtain rfl := Option.some.inj hf
        exact mz_iret E w rfl d_MH_line_54
      · have hf := mz_f hc3 hf
        exact nomatch hf
    · have hf := mz_f hc2 hf
      exact b_MH_line_18 E n  t hf _ _ _ w (lv_sub hl [] rfl)

/-! MacroHouse.constant(II)I -/
abbrev r_MH_constant : Room := { frames := 2, cells := 0, slots := 0, locals := 44 }
def f_MH_constant_21 (n : Nat) (t : mz_St) : Option (Int32 × mz_St) := none
def f_MH_constant (n : Nat) (x1 : Int32) (x2 : Int32) (t : mz_St) : Option (Int32 × mz_St) := if x1 < 0 then (f_MH_constant_21 n  t) else (if x1 < (mz_gI t 15 4) then (if 0 ≤ x2 then (if x2 = 0 then ((f_CN_numberOf n x1 t).bind fun q7 => some (q7.1, q7.2)) else ((f_NA_sign_c n x1 (x2 - (1 : Int32)) t).bind fun q5 => some (q5.1, q5.2))) else none) else (f_MH_constant_21 n  t))
set_option maxRecDepth 100000 in
set_option maxHeartbeats 4000000 in
theorem b_MH_constant_21 {SX : State → Heap → Prop} {dC : Nat → ClassId} {dI : Nat → Nat → Nat} {ad en : Nat → Nat} {ca : Nat → ClassId} {p : Program} {l : Launch} {e : Env} {s : State} {m : MethodId} {args : Array Value} {below : List Frame} {meth : Method} {c : Code} {res : (Int32 × mz_St)} (E : mz_En SX 80 mz_cl dC dI ad ca p s m meth c prog_1_method_7_code 3 "MacroHouse" (some (.int))) (n : Nat) : ∀ (t : mz_St), f_MH_constant_21 n t = some res → ∀ (H : Heap) (locs : List Loc) (ls : Array Slot), mz_Wd mz_tC 80 mz_cl dC dI ad en ca s t H locs → lv_has ls 3 [] → W p l e (r_MH_constant) s m args below meth c H locs 0 0 (MQ below (mz_Q SX mz_tC 80 mz_cl dC dI ad en ca (some (.int res.1)) res.2) args s 0 0 (mz_A ad 80)) (F0 m 21 ls []) := by
  obtain ⟨hx, hb, hml, hown, hcx, -, -, hSX, -, -, hSK⟩ := id E
  intro t hf H locs ls w hl
  unfold f_MH_constant_21 at hf
  exact nomatch hf
set_option maxRecDepth 100000 in
set_option maxHeartbeats 4000000 in
theorem c_MH_constant {SX : State → Heap → Prop} {dC : Nat → ClassId} {dI : Nat → Nat → Nat} {ad en : Nat → Nat} {ca : Nat → ClassId} (hSK : mz_SK SX ad 80) (l : Launch) (n : Nat) (x1 : Int32) (x2 : Int32) (t : mz_St) (res : (Int32 × mz_St)) (hf : f_MH_constant n x1 x2 t = some res) : mz_C SX mz_tC 80 mz_cl dC dI ad en ca l y_MH_constant prog_1_method_7_code 3 (some (.int)) (r_MH_constant) [.ref (ad 0), .int x1, .int x2] t (some (.int res.1)) res.2 := by
  unfold f_MH_constant at hf
  refine mz_met hSK (by decide) (Nat.le_of_ble_eq_true rfl) ?_
  intro p e s m args below meth c ls E w hl
  obtain ⟨hx, hb, hml, hown, hcx, -, -, hSX, -, -, -⟩ := id E
  have hl : lv_has ls 3 [(0, .ref (ad 0)), (1, .int x1), (2, .int x2)] := hl
  refine lv_iload_n hx hb d_MH_constant_0 rfl (lv_at hl 1 rfl) ?_
  refine lv_if_lt (tgt := 21) hx hb d_MH_constant_1 (by decide) (fun hc1 => ?_) (fun hc1 => ?_)
  · have hf := mz_t hc1 hf
    exact b_MH_constant_21 E n  t hf _ _ _ w (lv_sub hl [] rfl)
  · have hf := mz_f hc1 hf
    refine lv_iload_n hx hb d_MH_constant_4 rfl (lv_at hl 1 rfl) ?_
    refine lv_aload_n hx hb d_MH_constant_5 rfl (lv_at hl 0 rfl) ?_
    refine mz_get E w 0 1 (v := .ref (ad 5)) (by decide) rfl rfl ii_0 (by decide) (Nat.le_of_ble_eq_true rfl) k_425 rfl d_MH_constant_6 ?_
    refine mz_get E w 5 3 (v := .ref (ad 13)) (by decide) rfl rfl ii_2 (by decide) (Nat.le_of_ble_eq_true rfl) k_374 rfl d_MH_constant_9 ?_
    refine mz_get E w 13 0 (v := .ref (ad 15)) (by decide) rfl rfl ii_5 (by decide) (Nat.le_of_ble_eq_true rfl) k_163 rfl d_MH_constant_12 ?_
    refine mz_get E w 15 4 (v := .int (mz_gI t 15 4)) (by decide) rfl rfl ii_6 (by decide) (Nat.le_of_ble_eq_true rfl) k_149 rfl d_MH_constant_15 ?_
    refine lv_icmp_lt (tgt := 31) hx hb d_MH_constant_18 (by decide) (fun hc2 => ?_) (fun hc2 => ?_)
    · have hf := mz_t hc2 hf
      refine lv_iload_n hx hb d_MH_constant_31 rfl (lv_at hl 2 rfl) ?_
      refine lv_if_ge (tgt := 45) hx hb d_MH_constant_32 (by decide) (fun hc3 => ?_) (fun hc3 => ?_)
      · have hf := mz_t hc3 hf
        refine lv_iload_n hx hb d_MH_constant_45 rfl (lv_at hl 2 rfl) ?_
        refine lv_if_ne (tgt := 63) hx hb d_MH_constant_46 (by decide) (fun hc4 => ?_) (fun hc4 => ?_)
        · have hf := mz_f hc4 hf
          refine lv_aload_n hx hb d_MH_constant_63 rfl (lv_at hl 0 rfl) ?_
          refine mz_get E w 0 1 (v := .ref (ad 5)) (by decide) rfl rfl ii_0 (by decide) (Nat.le_of_ble_eq_true rfl) k_425 rfl d_MH_constant_64 ?_
          refine mz_get E w 5 3 (v := .ref (ad 13)) (by decide) rfl rfl ii_2 (by decide) (Nat.le_of_ble_eq_true rfl) k_374 rfl d_MH_constant_67 ?_
          refine mz_get E w 13 0 (v := .ref (ad 15)) (by decide) rfl rfl ii_5 (by decide) (Nat.le_of_ble_eq_true rfl) k_163 rfl d_MH_constant_70 ?_
          refine lv_iload_n hx hb d_MH_constant_73 rfl (lv_at hl 1 rfl) ?_
          refine lv_iload_n hx hb d_MH_constant_74 rfl (lv_at hl 2 rfl) ?_
          refine lv_iconst (v := (1 : Int32)) hx hb d_MH_constant_75 (by decide) ?_
          refine lv_isub hx hb d_MH_constant_76 ?_
          obtain ⟨q5, hq6, hf⟩ := mz_bd hf
          refine mz_callV E w (k := 15) (As := [.int x1, .int (x2 - (1 : Int32))]) (rest := []) (c_NA_sign_c hSK l n x1 (x2 - (1 : Int32)) t q5 hq6) (by decide) rfl rfl k_897 k_9 k_1162 k_895 k_896 hm_NA_sign ⟨⟨rfl, rfl⟩, Nat.le_of_ble_eq_true rfl, Nat.le_of_ble_eq_true rfl⟩ rfl hl.1 rfl (Nat.le_of_ble_eq_true rfl) d_MH_constant_77 ⟨Nat.zero_le _, Nat.zero_le _⟩ (st1 := [.int q5.1]) rfl (fun H locs w => ?_)
          obtain rfl := Option.some.inj hf
          exact mz_iret E w rfl d_MH_constant_80
        · have hf := mz_t hc4 hf
          refine lv_aload_n hx hb d_MH_constant_49 rfl (lv_at hl 0 rfl) ?_
          refine mz_get E w 0 1 (v := .ref (ad 5)) (by decide) rfl rfl ii_0 (by decide) (Nat.le_of_ble_eq_true rfl) k_425 rfl d_MH_constant_50 ?_
          refine mz_get E w 5 3 (v := .ref (ad 13)) (by decide) rfl rfl ii_2 (by decide) (Nat.le_of_ble_eq_true rfl) k_374 rfl d_MH_constant_53 ?_
          refine lv_iload_n hx hb d_MH_constant_56 rfl (lv_at hl 1 rfl) ?_
          obtain ⟨q7, hq8, hf⟩ := mz_bd hf
          refine mz_callV E w (k := 13) (As := [.int x1]) (rest := []) (c_CN_numberOf hSK l n x1 t q7 hq8) (by decide) rfl rfl k_846 k_8 k_1161 k_844 k_845 hm_CN_numberOf ⟨⟨rfl, rfl⟩, Nat.le_of_ble_eq_true rfl, Nat.le_of_ble_eq_true rfl⟩ rfl hl.1 rfl (Nat.le_of_ble_eq_true rfl) d_MH_constant_57 ⟨Nat.zero_le _, Nat.zero_le _⟩ (st1 := [.int q7.1]) rfl (fun H locs w => ?_)
          refine lv_goto (tgt := 80) hx hb d_MH_constant_60 (by decide) ?_
          obtain rfl := Option.some.inj hf
          exact mz_iret E w rfl d_MH_constant_80
      · have hf := mz_f hc3 hf
        exact nomatch hf
    · have hf := mz_f hc2 hf
      exact b_MH_constant_21 E n  t hf _ _ _ w (lv_sub hl [] rfl)

/-! MacroHouse.macro(II)I -/
abbrev r_MH_macro : Room := { frames := 3, cells := 0, slots := 0, locals := 66 }
def f_MH_macro_21 (n : Nat) (t : mz_St) : Option (Int32 × mz_St) := none
def f_MH_macro (n : Nat) (x1 : Int32) (x2 : Int32) (t : mz_St) : Option (Int32 × mz_St) := if x1 < 0 then (f_MH_macro_21 n  t) else (if x1 < (mz_gI t 27 4) then (if 0 ≤ x2 then ((f_MA_tell n x1 x2 t).bind fun q4 => some (q4.1, q4.2)) else none) else (f_MH_macro_21 n  t))
set_option maxRecDepth 100000 in
set_option maxHeartbeats 4000000 in
theorem b_MH_macro_21 {SX : State → Heap → Prop} {dC : Nat → ClassId} {dI : Nat → Nat → Nat} {ad en : Nat → Nat} {ca : Nat → ClassId} {p : Program} {l : Launch} {e : Env} {s : State} {m : MethodId} {args : Array Value} {below : List Frame} {meth : Method} {c : Code} {res : (Int32 × mz_St)} (E : mz_En SX 80 mz_cl dC dI ad ca p s m meth c prog_1_method_8_code 3 "MacroHouse" (some (.int))) (n : Nat) : ∀ (t : mz_St), f_MH_macro_21 n t = some res → ∀ (H : Heap) (locs : List Loc) (ls : Array Slot), mz_Wd mz_tC 80 mz_cl dC dI ad en ca s t H locs → lv_has ls 3 [] → W p l e (r_MH_macro) s m args below meth c H locs 0 0 (MQ below (mz_Q SX mz_tC 80 mz_cl dC dI ad en ca (some (.int res.1)) res.2) args s 0 0 (mz_A ad 80)) (F0 m 21 ls []) := by
  obtain ⟨hx, hb, hml, hown, hcx, -, -, hSX, -, -, hSK⟩ := id E
  intro t hf H locs ls w hl
  unfold f_MH_macro_21 at hf
  exact nomatch hf
set_option maxRecDepth 100000 in
set_option maxHeartbeats 4000000 in
theorem c_MH_macro {SX : State → Heap → Prop} {dC : Nat → ClassId} {dI : Nat → Nat → Nat} {ad en : Nat → Nat} {ca : Nat → ClassId} (hSK : mz_SK SX ad 80) (l : Launch) (n : Nat) (x1 : Int32) (x2 : Int32) (t : mz_St) (res : (Int32 × mz_St)) (hf : f_MH_macro n x1 x2 t = some res) : mz_C SX mz_tC 80 mz_cl dC dI ad en ca l y_MH_macro prog_1_method_8_code 3 (some (.int)) (r_MH_macro) [.ref (ad 0), .int x1, .int x2] t (some (.int res.1)) res.2 := by
  unfold f_MH_macro at hf
  refine mz_met hSK (by decide) (Nat.le_of_ble_eq_true rfl) ?_
  intro p e s m args below meth c ls E w hl
  obtain ⟨hx, hb, hml, hown, hcx, -, -, hSX, -, -, -⟩ := id E
  have hl : lv_has ls 3 [(0, .ref (ad 0)), (1, .int x1), (2, .int x2)] := hl
  refine lv_iload_n hx hb d_MH_macro_0 rfl (lv_at hl 1 rfl) ?_
  refine lv_if_lt (tgt := 21) hx hb d_MH_macro_1 (by decide) (fun hc1 => ?_) (fun hc1 => ?_)
  · have hf := mz_t hc1 hf
    exact b_MH_macro_21 E n  t hf _ _ _ w (lv_sub hl [] rfl)
  · have hf := mz_f hc1 hf
    refine lv_iload_n hx hb d_MH_macro_4 rfl (lv_at hl 1 rfl) ?_
    refine lv_aload_n hx hb d_MH_macro_5 rfl (lv_at hl 0 rfl) ?_
    refine mz_get E w 0 1 (v := .ref (ad 5)) (by decide) rfl rfl ii_0 (by decide) (Nat.le_of_ble_eq_true rfl) k_425 rfl d_MH_macro_6 ?_
    refine mz_get E w 5 4 (v := .ref (ad 18)) (by decide) rfl rfl ii_2 (by decide) (Nat.le_of_ble_eq_true rfl) k_376 rfl d_MH_macro_9 ?_
    refine mz_get E w 18 1 (v := .ref (ad 27)) (by decide) rfl rfl ii_7 (by decide) (Nat.le_of_ble_eq_true rfl) k_222 rfl d_MH_macro_12 ?_
    refine mz_get E w 27 4 (v := .int (mz_gI t 27 4)) (by decide) rfl rfl ii_6 (by decide) (Nat.le_of_ble_eq_true rfl) k_149 rfl d_MH_macro_15 ?_
    refine lv_icmp_lt (tgt := 31) hx hb d_MH_macro_18 (by decide) (fun hc2 => ?_) (fun hc2 => ?_)
    · have hf := mz_t hc2 hf
      refine lv_iload_n hx hb d_MH_macro_31 rfl (lv_at hl 2 rfl) ?_
      refine lv_if_ge (tgt := 45) hx hb d_MH_macro_32 (by decide) (fun hc3 => ?_) (fun hc3 => ?_)
      · have hf := mz_t hc3 hf
        refine lv_aload_n hx hb d_MH_macro_45 rfl (lv_at hl 0 rfl) ?_
        refine mz_get E w 0 1 (v := .ref (ad 5)) (by decide) rfl rfl ii_0 (by decide) (Nat.le_of_ble_eq_true rfl) k_425 rfl d_MH_macro_46 ?_
        refine mz_get E w 5 4 (v := .ref (ad 18)) (by decide) rfl rfl ii_2 (by decide) (Nat.le_of_ble_eq_true rfl) k_376 rfl d_MH_macro_49 ?_
        refine lv_iload_n hx hb d_MH_macro_52 rfl (lv_at hl 1 rfl) ?_
        refine lv_iload_n hx hb d_MH_macro_53 rfl (lv_at hl 2 rfl) ?_
        obtain ⟨q4, hq5, hf⟩ := mz_bd hf
        refine mz_callV E w (k := 18) (As := [.int x1, .int x2]) (rest := []) (c_MA_tell hSK l n x1 x2 t q4 hq5) (by decide) rfl rfl k_1174 k_12 k_1171 k_1172 k_1173 hm_MA_tell ⟨⟨rfl, rfl⟩, Nat.le_of_ble_eq_true rfl, Nat.le_of_ble_eq_true rfl⟩ rfl hl.1 rfl (Nat.le_of_ble_eq_true rfl) d_MH_macro_54 ⟨Nat.zero_le _, Nat.zero_le _⟩ (st1 := [.int q4.1]) rfl (fun H locs w => ?_)
        obtain rfl := Option.some.inj hf
        exact mz_iret E w rfl d_MH_macro_57
      · have hf := mz_f hc3 hf
        exact nomatch hf
    · have hf := mz_f hc2 hf
      exact b_MH_macro_21 E n  t hf _ _ _ w (lv_sub hl [] rfl)
