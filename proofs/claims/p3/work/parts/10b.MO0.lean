/-! MacroHouseModel.thrown()I -/
abbrev r_MO_thrown : Room := { frames := 0, cells := 0, slots := 0, locals := 0 }
def f_MO_thrown (n : Nat) (t : mz_St) : Option (Int32 × mz_St) := some ((mz_gI t 0 0), t)
set_option maxRecDepth 100000 in
set_option maxHeartbeats 4000000 in
theorem c_MO_thrown {SX : State → Heap → Prop} {dC : Nat → ClassId} {dI : Nat → Nat → Nat} {ad en : Nat → Nat} {ca : Nat → ClassId} (hSK : mz_SK SX ad 55) (l : Launch) (n : Nat) (t : mz_St) (res : (Int32 × mz_St)) (hf : f_MO_thrown n t = some res) : mz_C SX mz_tM 55 mz_cl dC dI ad en ca l y_MO_thrown prog_15_method_2_code 1 (some (.int)) (r_MO_thrown) [.ref (ad 0)] t (some (.int res.1)) res.2 := by
  unfold f_MO_thrown at hf
  refine mz_met hSK (by decide) (Nat.le_of_ble_eq_true rfl) ?_
  intro p e s m args below meth c ls E w hl
  obtain ⟨hx, hb, hml, hown, hcx, -, -, hSX, -, -, -⟩ := id E
  have hl : lv_has ls 1 [(0, .ref (ad 0))] := hl
  refine lv_aload_n hx hb d_MO_thrown_0 rfl (lv_at hl 0 rfl) ?_
  refine mz_get E w 0 0 (v := .int (mz_gI t 0 0)) (by decide) rfl rfl ii_11 (by decide) (Nat.le_of_ble_eq_true rfl) k_1183 rfl d_MO_thrown_1 ?_
  obtain rfl := Option.some.inj hf
  exact mz_iret E w rfl d_MO_thrown_4

/-! MacroHouseModel.in(III)Z -/
abbrev r_MO_in : Room := { frames := 0, cells := 0, slots := 0, locals := 0 }
def f_MO_in (n : Nat) (x0 : Int32) (x1 : Int32) (x2 : Int32) (t : mz_St) : Option (Int32 × mz_St) := if x0 < x1 then (some ((0 : Int32), t)) else (if x2 < x0 then (some ((0 : Int32), t)) else (some ((1 : Int32), t)))
set_option maxRecDepth 100000 in
set_option maxHeartbeats 4000000 in
theorem c_MO_in {SX : State → Heap → Prop} {dC : Nat → ClassId} {dI : Nat → Nat → Nat} {ad en : Nat → Nat} {ca : Nat → ClassId} (hSK : mz_SK SX ad 55) (l : Launch) (n : Nat) (x0 : Int32) (x1 : Int32) (x2 : Int32) (t : mz_St) (res : (Int32 × mz_St)) (hf : f_MO_in n x0 x1 x2 t = some res) : mz_C SX mz_tM 55 mz_cl dC dI ad en ca l y_MO_in prog_15_method_4_code 3 (some (.boolean)) (r_MO_in) [.int x0, .int x1, .int x2] t (some (.int res.1)) res.2 := by
  unfold f_MO_in at hf
  refine mz_met hSK (by decide) (Nat.le_of_ble_eq_true rfl) ?_
  intro p e s m args below meth c ls E w hl
  obtain ⟨hx, hb, hml, hown, hcx, -, -, hSX, -, -, -⟩ := id E
  have hl : lv_has ls 3 [(0, .int x0), (1, .int x1), (2, .int x2)] := hl
  refine lv_iload_n hx hb d_MO_in_0 rfl (lv_at hl 0 rfl) ?_
  refine lv_iload_n hx hb d_MO_in_1 rfl (lv_at hl 1 rfl) ?_
  refine lv_icmp_lt (tgt := 14) hx hb d_MO_in_2 (by decide) (fun hc1 => ?_) (fun hc1 => ?_)
  · have hf := mz_t hc1 hf
    refine lv_iconst (v := (0 : Int32)) hx hb d_MO_in_14 (by decide) ?_
    obtain rfl := Option.some.inj hf
    exact mz_zret E w (by decide) rfl d_MO_in_15
  · have hf := mz_f hc1 hf
    refine lv_iload_n hx hb d_MO_in_5 rfl (lv_at hl 0 rfl) ?_
    refine lv_iload_n hx hb d_MO_in_6 rfl (lv_at hl 2 rfl) ?_
    refine lv_icmp_gt (tgt := 14) hx hb d_MO_in_7 (by decide) (fun hc2 => ?_) (fun hc2 => ?_)
    · have hf := mz_t hc2 hf
      refine lv_iconst (v := (0 : Int32)) hx hb d_MO_in_14 (by decide) ?_
      obtain rfl := Option.some.inj hf
      exact mz_zret E w (by decide) rfl d_MO_in_15
    · have hf := mz_f hc2 hf
      refine lv_iconst (v := (1 : Int32)) hx hb d_MO_in_10 (by decide) ?_
      refine lv_goto (tgt := 15) hx hb d_MO_in_11 (by decide) ?_
      obtain rfl := Option.some.inj hf
      exact mz_zret E w (by decide) rfl d_MO_in_15

/-! MacroHouseModel.refuse(ZZ)Z -/
abbrev r_MO_refuse : Room := { frames := 0, cells := 0, slots := 0, locals := 0 }
def f_MO_refuse_18 (n : Nat) (s1 : Int32) (t : mz_St) : Option (Int32 × mz_St) := mz_let (mz_pI t 0 0 s1) fun t3 => if (mz_gI t3 0 0) ≤ 0 then (some ((0 : Int32), t3)) else (some ((1 : Int32), t3))
def f_MO_refuse (n : Nat) (x1 : Int32) (x2 : Int32) (t : mz_St) : Option (Int32 × mz_St) := if x1 = 0 then (if x2 = 0 then (f_MO_refuse_18 n (0 : Int32) t) else (f_MO_refuse_18 n (2 : Int32) t)) else (f_MO_refuse_18 n (1 : Int32) t)
set_option maxRecDepth 100000 in
set_option maxHeartbeats 4000000 in
theorem b_MO_refuse_18 {SX : State → Heap → Prop} {dC : Nat → ClassId} {dI : Nat → Nat → Nat} {ad en : Nat → Nat} {ca : Nat → ClassId} {p : Program} {l : Launch} {e : Env} {s : State} {m : MethodId} {args : Array Value} {below : List Frame} {meth : Method} {c : Code} {res : (Int32 × mz_St)} (E : mz_En SX 55 mz_cl dC dI ad ca p s m meth c prog_15_method_3_code 3 "MacroHouseModel" (some (.boolean))) (n : Nat) : ∀ (s1 : Int32) (t : mz_St), f_MO_refuse_18 n s1 t = some res → ∀ (H : Heap) (locs : List Loc) (ls : Array Slot), mz_Wd mz_tM 55 mz_cl dC dI ad en ca s t H locs → lv_has ls 3 [(0, .ref (ad 0))] → W p l e (r_MO_refuse) s m args below meth c H locs 0 0 (MQ below (mz_Q SX mz_tM 55 mz_cl dC dI ad en ca (some (.int res.1)) res.2) args s 0 0 (mz_A ad 55)) (F0 m 18 ls [.int s1, .ref (ad 0)]) := by
  obtain ⟨hx, hb, hml, hown, hcx, -, -, hSX, -, -, hSK⟩ := id E
  intro s1 t hf H locs ls w hl
  unfold f_MO_refuse_18 at hf
  refine mz_put E w 0 0 (v := s1) (by decide) rfl rfl ii_11 tk_11 nm_11 (by decide) (Nat.le_of_ble_eq_true rfl) k_1183 rfl (tk_11 0 (by decide)) rfl rfl rfl d_MO_refuse_18 (fun H locs w => ?_)
  obtain ⟨t3, e_t3, hf⟩ := mz_lt hf
  rw [← e_t3] at w
  refine lv_aload_n hx hb d_MO_refuse_21 rfl (lv_at hl 0 rfl) ?_
  refine mz_get E w 0 0 (v := .int (mz_gI t3 0 0)) (by decide) rfl rfl ii_11 (by decide) (Nat.le_of_ble_eq_true rfl) k_1183 rfl d_MO_refuse_22 ?_
  refine lv_if_le (tgt := 32) hx hb d_MO_refuse_25 (by decide) (fun hc4 => ?_) (fun hc4 => ?_)
  · have hf := mz_t hc4 hf
    refine lv_iconst (v := (0 : Int32)) hx hb d_MO_refuse_32 (by decide) ?_
    obtain rfl := Option.some.inj hf
    exact mz_zret E w (by decide) rfl d_MO_refuse_33
  · have hf := mz_f hc4 hf
    refine lv_iconst (v := (1 : Int32)) hx hb d_MO_refuse_28 (by decide) ?_
    refine lv_goto (tgt := 33) hx hb d_MO_refuse_29 (by decide) ?_
    obtain rfl := Option.some.inj hf
    exact mz_zret E w (by decide) rfl d_MO_refuse_33
set_option maxRecDepth 100000 in
set_option maxHeartbeats 4000000 in
theorem c_MO_refuse {SX : State → Heap → Prop} {dC : Nat → ClassId} {dI : Nat → Nat → Nat} {ad en : Nat → Nat} {ca : Nat → ClassId} (hSK : mz_SK SX ad 55) (l : Launch) (n : Nat) (x1 : Int32) (x2 : Int32) (t : mz_St) (res : (Int32 × mz_St)) (hf : f_MO_refuse n x1 x2 t = some res) : mz_C SX mz_tM 55 mz_cl dC dI ad en ca l y_MO_refuse prog_15_method_3_code 3 (some (.boolean)) (r_MO_refuse) [.ref (ad 0), .int x1, .int x2] t (some (.int res.1)) res.2 := by
  unfold f_MO_refuse at hf
  refine mz_met hSK (by decide) (Nat.le_of_ble_eq_true rfl) ?_
  intro p e s m args below meth c ls E w hl
  obtain ⟨hx, hb, hml, hown, hcx, -, -, hSX, -, -, -⟩ := id E
  have hl : lv_has ls 3 [(0, .ref (ad 0)), (1, .int x1), (2, .int x2)] := hl
  refine lv_aload_n hx hb d_MO_refuse_0 rfl (lv_at hl 0 rfl) ?_
  refine lv_iload_n hx hb d_MO_refuse_1 rfl (lv_at hl 1 rfl) ?_
  refine lv_if_eq (tgt := 9) hx hb d_MO_refuse_2 (by decide) (fun hc1 => ?_) (fun hc1 => ?_)
  · have hf := mz_t hc1 hf
    refine lv_iload_n hx hb d_MO_refuse_9 rfl (lv_at hl 2 rfl) ?_
    refine lv_if_eq (tgt := 17) hx hb d_MO_refuse_10 (by decide) (fun hc2 => ?_) (fun hc2 => ?_)
    · have hf := mz_t hc2 hf
      refine lv_iconst (v := (0 : Int32)) hx hb d_MO_refuse_17 (by decide) ?_
      exact b_MO_refuse_18 E n (0 : Int32) t hf _ _ _ w (lv_sub hl [0] rfl)
    · have hf := mz_f hc2 hf
      refine lv_iconst (v := (2 : Int32)) hx hb d_MO_refuse_13 (by decide) ?_
      refine lv_goto (tgt := 18) hx hb d_MO_refuse_14 (by decide) ?_
      exact b_MO_refuse_18 E n (2 : Int32) t hf _ _ _ w (lv_sub hl [0] rfl)
  · have hf := mz_f hc1 hf
    refine lv_iconst (v := (1 : Int32)) hx hb d_MO_refuse_5 (by decide) ?_
    refine lv_goto (tgt := 18) hx hb d_MO_refuse_6 (by decide) ?_
    exact b_MO_refuse_18 E n (1 : Int32) t hf _ _ _ w (lv_sub hl [0] rfl)

/-! MacroHouseModel.put(I)I -/
abbrev r_MO_put : Room := { frames := 1, cells := 0, slots := 0, locals := 22 }
def f_MO_put_162 (n : Nat) (K119 : Int32 → Int32 → mz_St → Option (Int32 × mz_St)) (x1 : Int32) (x4 : Int32) (t : mz_St) : Option (Int32 × mz_St) := K119 x1 (x4 + (8 : Int32)) t
def f_MO_put_119 (n : Nat) : Nat → Int32 → Int32 → mz_St → Option (Int32 × mz_St)
  | 0, _, _, _ => none
  | k + 1, x1, x4, t => if (32 : Int32) ≤ x4 then (some ((mz_gI t 0 2), t)) else (if ((x1 >>> (x4 &&& 31)) &&& (255 : Int32)) ≤ 0 then (f_MO_put_162 n (f_MO_put_119 n k) x1 x4 t) else (if ¬ ((mz_gI t 0 2) < 0 ∨ 3000 ≤ (mz_gI t 0 2).toNatClampNeg) then (mz_let (mz_pI t 1 (mz_gI t 0 2).toNatClampNeg ((x1 >>> (x4 &&& 31)) &&& (255 : Int32))) fun t10 => mz_let (mz_pI t10 0 2 ((mz_gI t10 0 2) + (1 : Int32))) fun t11 => f_MO_put_162 n (f_MO_put_119 n k) x1 x4 t11) else none))
def f_MO_put_108 (n : Nat) (x1 : Int32) (s1 : Int32) (s2 : Int32) (t : mz_St) : Option (Int32 × mz_St) := (f_MO_refuse n s1 s2 t).bind fun q4 => if q4.1 = 0 then (f_MO_put_119 n n x1 (0 : Int32) q4.2) else (some ((0 : Int32), q4.2))
def f_MO_put_107 (n : Nat) (x1 : Int32) (s1 : Int32) (t : mz_St) : Option (Int32 × mz_St) := f_MO_put_108 n x1 s1 (0 : Int32) t
def f_MO_put_87 (n : Nat) (x1 : Int32) (x2 : Int32) (x3 : Int32) (s1 : Int32) (t : mz_St) : Option (Int32 × mz_St) := if x3 = 0 then (f_MO_put_107 n x1 s1 t) else (if ((mz_gI t 0 2) + x2) ≤ (3000 : Int32) then (f_MO_put_107 n x1 s1 t) else (f_MO_put_108 n x1 s1 (1 : Int32) t))
def f_MO_put_70 (n : Nat) (K7 : Int32 → Int32 → Int32 → Int32 → mz_St → Option (Int32 × mz_St)) (x1 : Int32) (x3 : Int32) (x4 : Int32) (s0 : Int32) (t : mz_St) : Option (Int32 × mz_St) := K7 x1 s0 x3 (x4 + (8 : Int32)) t
def f_MO_put_57 (n : Nat) (K7 : Int32 → Int32 → Int32 → Int32 → mz_St → Option (Int32 × mz_St)) (x1 : Int32) (x2 : Int32) (x4 : Int32) (x5 : Int32) (s0 : Int32) (t : mz_St) : Option (Int32 × mz_St) := if x5 ≤ 0 then (f_MO_put_70 n K7 x1 s0 x4 x2 t) else (f_MO_put_70 n K7 x1 s0 x4 (x2 + (1 : Int32)) t)
def f_MO_put_56 (n : Nat) (K7 : Int32 → Int32 → Int32 → Int32 → mz_St → Option (Int32 × mz_St)) (x1 : Int32) (x2 : Int32) (x4 : Int32) (x5 : Int32) (t : mz_St) : Option (Int32 × mz_St) := f_MO_put_57 n K7 x1 x2 x4 x5 (0 : Int32) t
def f_MO_put_52 (n : Nat) (K7 : Int32 → Int32 → Int32 → Int32 → mz_St → Option (Int32 × mz_St)) (x1 : Int32) (x2 : Int32) (x4 : Int32) (x5 : Int32) (t : mz_St) : Option (Int32 × mz_St) := f_MO_put_57 n K7 x1 x2 x4 x5 (1 : Int32) t
def f_MO_put_7 (n : Nat) : Nat → Int32 → Int32 → Int32 → Int32 → mz_St → Option (Int32 × mz_St)
  | 0, _, _, _, _, _ => none
  | k + 1, x1, x2, x3, x4, t => if (32 : Int32) ≤ x4 then (if x3 = 0 then (f_MO_put_87 n x1 x2 x3 (1 : Int32) t) else (f_MO_put_87 n x1 x2 x3 (0 : Int32) t)) else (if x3 = 0 then (f_MO_put_56 n (f_MO_put_7 n k) x1 x2 x4 ((x1 >>> (x4 &&& 31)) &&& (255 : Int32)) t) else (if ((x1 >>> (x4 &&& 31)) &&& (255 : Int32)) = 0 then (f_MO_put_52 n (f_MO_put_7 n k) x1 x2 x4 ((x1 >>> (x4 &&& 31)) &&& (255 : Int32)) t) else (if ((x1 >>> (x4 &&& 31)) &&& (255 : Int32)) = (10 : Int32) then (f_MO_put_52 n (f_MO_put_7 n k) x1 x2 x4 ((x1 >>> (x4 &&& 31)) &&& (255 : Int32)) t) else ((f_MO_in n ((x1 >>> (x4 &&& 31)) &&& (255 : Int32)) (32 : Int32) (126 : Int32) t).bind fun q17 => if q17.1 = 0 then (f_MO_put_56 n (f_MO_put_7 n k) x1 x2 x4 ((x1 >>> (x4 &&& 31)) &&& (255 : Int32)) q17.2) else (f_MO_put_52 n (f_MO_put_7 n k) x1 x2 x4 ((x1 >>> (x4 &&& 31)) &&& (255 : Int32)) q17.2)))))
def f_MO_put (n : Nat) (x1 : Int32) (t : mz_St) : Option (Int32 × mz_St) := f_MO_put_7 n n x1 (0 : Int32) (1 : Int32) (0 : Int32) t
set_option maxRecDepth 100000 in
set_option maxHeartbeats 4000000 in
theorem b_MO_put_162 {SX : State → Heap → Prop} {dC : Nat → ClassId} {dI : Nat → Nat → Nat} {ad en : Nat → Nat} {ca : Nat → ClassId} {p : Program} {l : Launch} {e : Env} {s : State} {m : MethodId} {args : Array Value} {below : List Frame} {meth : Method} {c : Code} {res : (Int32 × mz_St)} (E : mz_En SX 55 mz_cl dC dI ad ca p s m meth c prog_15_method_5_code 6 "MacroHouseModel" (some (.int))) (n : Nat) (K119 : Int32 → Int32 → mz_St → Option (Int32 × mz_St)) (hK119 : ∀ (x1 : Int32) (x4 : Int32) (t : mz_St), K119 x1 x4 t = some res → ∀ (H : Heap) (locs : List Loc) (ls : Array Slot), mz_Wd mz_tM 55 mz_cl dC dI ad en ca s t H locs → lv_has ls 6 [(0, .ref (ad 0)), (1, .int x1), (4, .int x4)] → W p l e (r_MO_put) s m args below meth c H locs 0 0 (MQ below (mz_Q SX mz_tM 55 mz_cl dC dI ad en ca (some (.int res.1)) res.2) args s 0 0 (mz_A ad 55)) (F0 m 119 ls [])) : ∀ (x1 : Int32) (x4 : Int32) (t : mz_St), f_MO_put_162 n K119 x1 x4 t = some res → ∀ (H : Heap) (locs : List Loc) (ls : Array Slot), mz_Wd mz_tM 55 mz_cl dC dI ad en ca s t H locs → lv_has ls 6 [(0, .ref (ad 0)), (1, .int x1), (4, .int x4)] → W p l e (r_MO_put) s m args below meth c H locs 0 0 (MQ below (mz_Q SX mz_tM 55 mz_cl dC dI ad en ca (some (.int res.1)) res.2) args s 0 0 (mz_A ad 55)) (F0 m 162 ls []) := by
  obtain ⟨hx, hb, hml, hown, hcx, -, -, hSX, -, -, hSK⟩ := id E
  intro x1 x4 t hf H locs ls w hl
  unfold f_MO_put_162 at hf
  refine lv_iinc (v := (x4 + (8 : Int32))) (lv' := [(4, .int (x4 + (8 : Int32))), (0, .ref (ad 0)), (1, .int x1)]) hx hb d_MO_put_162 hl (k := 2) rfl rfl (by decide) rfl (fun ls hl => ?_)
  refine lv_goto (tgt := 119) hx hb d_MO_put_165 (by decide) ?_
  exact hK119 x1 (x4 + (8 : Int32)) t hf _ _ _ w (lv_sub hl [1, 2, 0] rfl)
set_option maxRecDepth 100000 in
set_option maxHeartbeats 4000000 in
theorem b_MO_put_119 {SX : State → Heap → Prop} {dC : Nat → ClassId} {dI : Nat → Nat → Nat} {ad en : Nat → Nat} {ca : Nat → ClassId} {p : Program} {l : Launch} {e : Env} {s : State} {m : MethodId} {args : Array Value} {below : List Frame} {meth : Method} {c : Code} {res : (Int32 × mz_St)} (E : mz_En SX 55 mz_cl dC dI ad ca p s m meth c prog_15_method_5_code 6 "MacroHouseModel" (some (.int))) (n : Nat) (k : Nat) : ∀ (x1 : Int32) (x4 : Int32) (t : mz_St), f_MO_put_119 n k x1 x4 t = some res → ∀ (H : Heap) (locs : List Loc) (ls : Array Slot), mz_Wd mz_tM 55 mz_cl dC dI ad en ca s t H locs → lv_has ls 6 [(0, .ref (ad 0)), (1, .int x1), (4, .int x4)] → W p l e (r_MO_put) s m args below meth c H locs 0 0 (MQ below (mz_Q SX mz_tM 55 mz_cl dC dI ad en ca (some (.int res.1)) res.2) args s 0 0 (mz_A ad 55)) (F0 m 119 ls []) := by
  obtain ⟨hx, hb, hml, hown, hcx, -, -, hSX, -, -, hSK⟩ := id E
  induction k with
  | zero => intro x1 x4 t hf; exact absurd hf (by unfold f_MO_put_119; exact fun h => nomatch h)
  | succ k ih =>
    intro x1 x4 t hf H locs ls w hl
    unfold f_MO_put_119 at hf
    refine lv_iload hx hb d_MO_put_119 (lv_at hl 2 rfl) ?_
    refine lv_bipush (v := (32 : Int32)) hx hb d_MO_put_121 (by decide) ?_
    refine lv_icmp_ge (tgt := 168) hx hb d_MO_put_123 (by decide) (fun hc7 => ?_) (fun hc7 => ?_)
    · have hf := mz_t hc7 hf
      refine lv_aload_n hx hb d_MO_put_168 rfl (lv_at hl 0 rfl) ?_
      refine mz_get E w 0 2 (v := .int (mz_gI t 0 2)) (by decide) rfl rfl ii_11 (by decide) (Nat.le_of_ble_eq_true rfl) k_1185 rfl d_MO_put_169 ?_
      obtain rfl := Option.some.inj hf
      exact mz_iret E w rfl d_MO_put_172
    · have hf := mz_f hc7 hf
      refine lv_iload_n hx hb d_MO_put_126 rfl (lv_at hl 1 rfl) ?_
      refine lv_iload hx hb d_MO_put_127 (lv_at hl 2 rfl) ?_
      refine lv_ishr hx hb d_MO_put_129 ?_
      refine lv_sipush (v := (255 : Int32)) hx hb d_MO_put_130 (by decide) ?_
      refine lv_iand hx hb d_MO_put_133 ?_
      refine lv_istore (lv' := [(5, .int ((x1 >>> (x4 &&& 31)) &&& (255 : Int32))), (0, .ref (ad 0)), (1, .int x1), (4, .int x4)]) hx hb d_MO_put_134 hl (by decide) rfl (fun ls hl => ?_)
      refine lv_iload hx hb d_MO_put_136 (lv_at hl 0 rfl) ?_
      refine lv_if_le (tgt := 162) hx hb d_MO_put_138 (by decide) (fun hc8 => ?_) (fun hc8 => ?_)
      · have hf := mz_t hc8 hf
        exact b_MO_put_162 E n (f_MO_put_119 n k) ih x1 x4 t hf _ _ _ w (lv_sub hl [1, 2, 3] rfl)
      · have hf := mz_f hc8 hf
        refine lv_aload_n hx hb d_MO_put_141 rfl (lv_at hl 1 rfl) ?_
        refine mz_get E w 0 1 (v := .ref (ad 1)) (by decide) rfl rfl ii_11 (by decide) (Nat.le_of_ble_eq_true rfl) k_1184 rfl d_MO_put_142 ?_
        refine lv_aload_n hx hb d_MO_put_145 rfl (lv_at hl 1 rfl) ?_
        refine mz_get E w 0 2 (v := .int (mz_gI t 0 2)) (by decide) rfl rfl ii_11 (by decide) (Nat.le_of_ble_eq_true rfl) k_1185 rfl d_MO_put_146 ?_
        refine lv_iload hx hb d_MO_put_149 (lv_at hl 0 rfl) ?_
        obtain ⟨hi9, hf⟩ := mz_gd hf
        refine mz_iast E w 1 (x := ((x1 >>> (x4 &&& 31)) &&& (255 : Int32))) (by decide) rfl hi9 d_MO_put_151 (fun H locs w => ?_)
        obtain ⟨t10, e_t10, hf⟩ := mz_lt hf
        rw [← e_t10] at w
        refine lv_aload_n hx hb d_MO_put_152 rfl (lv_at hl 1 rfl) ?_
        refine lv_dup hx hb d_MO_put_153 rfl ?_
        refine mz_get E w 0 2 (v := .int (mz_gI t10 0 2)) (by decide) rfl rfl ii_11 (by decide) (Nat.le_of_ble_eq_true rfl) k_1185 rfl d_MO_put_154 ?_
        refine lv_iconst (v := (1 : Int32)) hx hb d_MO_put_157 (by decide) ?_
        refine lv_iadd hx hb d_MO_put_158 ?_
        refine mz_put E w 0 2 (v := ((mz_gI t10 0 2) + (1 : Int32))) (by decide) rfl rfl ii_11 tk_11 nm_11 (by decide) (Nat.le_of_ble_eq_true rfl) k_1185 rfl (tk_11 2 (by decide)) rfl rfl rfl d_MO_put_159 (fun H locs w => ?_)
        obtain ⟨t11, e_t11, hf⟩ := mz_lt hf
        rw [← e_t11] at w
        exact b_MO_put_162 E n (f_MO_put_119 n k) ih x1 x4 t11 hf _ _ _ w (lv_sub hl [1, 2, 3] rfl)
set_option maxRecDepth 100000 in
set_option maxHeartbeats 4000000 in
theorem b_MO_put_108 {SX : State → Heap → Prop} {dC : Nat → ClassId} {dI : Nat → Nat → Nat} {ad en : Nat → Nat} {ca : Nat → ClassId} {p : Program} {l : Launch} {e : Env} {s : State} {m : MethodId} {args : Array Value} {below : List Frame} {meth : Method} {c : Code} {res : (Int32 × mz_St)} (E : mz_En SX 55 mz_cl dC dI ad ca p s m meth c prog_15_method_5_code 6 "MacroHouseModel" (some (.int))) (n : Nat) : ∀ (x1 : Int32) (s1 : Int32) (s2 : Int32) (t : mz_St), f_MO_put_108 n x1 s1 s2 t = some res → ∀ (H : Heap) (locs : List Loc) (ls : Array Slot), mz_Wd mz_tM 55 mz_cl dC dI ad en ca s t H locs → lv_has ls 6 [(0, .ref (ad 0)), (1, .int x1)] → W p l e (r_MO_put) s m args below meth c H locs 0 0 (MQ below (mz_Q SX mz_tM 55 mz_cl dC dI ad en ca (some (.int res.1)) res.2) args s 0 0 (mz_A ad 55)) (F0 m 108 ls [.int s2, .int s1, .ref (ad 0)]) := by
  obtain ⟨hx, hb, hml, hown, hcx, -, -, hSX, -, -, hSK⟩ := id E
  intro x1 s1 s2 t hf H locs ls w hl
  unfold f_MO_put_108 at hf
  obtain ⟨q4, hq5, hf⟩ := mz_bd hf
  refine mz_callV E w (k := 0) (As := [.int s1, .int s2]) (rest := []) (c_MO_refuse hSK l n s1 s2 t q4 hq5) (by decide) rfl rfl k_1439 k_15 k_1436 k_1438 ks_48 hm_MO_refuse ⟨⟨rfl, rfl⟩, Nat.le_of_ble_eq_true rfl, Nat.le_of_ble_eq_true rfl⟩ rfl hl.1 rfl (Nat.le_of_ble_eq_true rfl) d_MO_put_108 ⟨Nat.zero_le _, Nat.zero_le _⟩ (st1 := [.int q4.1]) rfl (fun H locs w => ?_)
  refine lv_if_eq (tgt := 116) hx hb d_MO_put_111 (by decide) (fun hc6 => ?_) (fun hc6 => ?_)
  · have hf := mz_t hc6 hf
    refine lv_iconst (v := (0 : Int32)) hx hb d_MO_put_116 (by decide) ?_
    refine lv_istore (lv' := [(4, .int (0 : Int32)), (0, .ref (ad 0)), (1, .int x1)]) hx hb d_MO_put_117 hl (by decide) rfl (fun ls hl => ?_)
    exact b_MO_put_119 E n n x1 (0 : Int32) q4.2 hf _ _ _ w (lv_sub hl [1, 2, 0] rfl)
  · have hf := mz_f hc6 hf
    refine lv_iconst (v := (0 : Int32)) hx hb d_MO_put_114 (by decide) ?_
    obtain rfl := Option.some.inj hf
    exact mz_iret E w rfl d_MO_put_115
set_option maxRecDepth 100000 in
set_option maxHeartbeats 4000000 in
theorem b_MO_put_107 {SX : State → Heap → Prop} {dC : Nat → ClassId} {dI : Nat → Nat → Nat} {ad en : Nat → Nat} {ca : Nat → ClassId} {p : Program} {l : Launch} {e : Env} {s : State} {m : MethodId} {args : Array Value} {below : List Frame} {meth : Method} {c : Code} {res : (Int32 × mz_St)} (E : mz_En SX 55 mz_cl dC dI ad ca p s m meth c prog_15_method_5_code 6 "MacroHouseModel" (some (.int))) (n : Nat) : ∀ (x1 : Int32) (s1 : Int32) (t : mz_St), f_MO_put_107 n x1 s1 t = some res → ∀ (H : Heap) (locs : List Loc) (ls : Array Slot), mz_Wd mz_tM 55 mz_cl dC dI ad en ca s t H locs → lv_has ls 6 [(0, .ref (ad 0)), (1, .int x1)] → W p l e (r_MO_put) s m args below meth c H locs 0 0 (MQ below (mz_Q SX mz_tM 55 mz_cl dC dI ad en ca (some (.int res.1)) res.2) args s 0 0 (mz_A ad 55)) (F0 m 107 ls [.int s1, .ref (ad 0)]) := by
  obtain ⟨hx, hb, hml, hown, hcx, -, -, hSX, -, -, hSK⟩ := id E
  intro x1 s1 t hf H locs ls w hl
  unfold f_MO_put_107 at hf
  refine lv_iconst (v := (0 : Int32)) hx hb d_MO_put_107 (by decide) ?_
  exact b_MO_put_108 E n x1 s1 (0 : Int32) t hf _ _ _ w (lv_sub hl [0, 1] rfl)
set_option maxRecDepth 100000 in
set_option maxHeartbeats 4000000 in
theorem b_MO_put_87 {SX : State → Heap → Prop} {dC : Nat → ClassId} {dI : Nat → Nat → Nat} {ad en : Nat → Nat} {ca : Nat → ClassId} {p : Program} {l : Launch} {e : Env} {s : State} {m : MethodId} {args : Array Value} {below : List Frame} {meth : Method} {c : Code} {res : (Int32 × mz_St)} (E : mz_En SX 55 mz_cl dC dI ad ca p s m meth c prog_15_method_5_code 6 "MacroHouseModel" (some (.int))) (n : Nat) : ∀ (x1 : Int32) (x2 : Int32) (x3 : Int32) (s1 : Int32) (t : mz_St), f_MO_put_87 n x1 x2 x3 s1 t = some res → ∀ (H : Heap) (locs : List Loc) (ls : Array Slot), mz_Wd mz_tM 55 mz_cl dC dI ad en ca s t H locs → lv_has ls 6 [(0, .ref (ad 0)), (1, .int x1), (2, .int x2), (3, .int x3)] → W p l e (r_MO_put) s m args below meth c H locs 0 0 (MQ below (mz_Q SX mz_tM 55 mz_cl dC dI ad en ca (some (.int res.1)) res.2) args s 0 0 (mz_A ad 55)) (F0 m 87 ls [.int s1, .ref (ad 0)]) := by
  obtain ⟨hx, hb, hml, hown, hcx, -, -, hSX, -, -, hSK⟩ := id E
  intro x1 x2 x3 s1 t hf H locs ls w hl
  unfold f_MO_put_87 at hf
  refine lv_iload_n hx hb d_MO_put_87 rfl (lv_at hl 3 rfl) ?_
  refine lv_if_eq (tgt := 107) hx hb d_MO_put_88 (by decide) (fun hc3 => ?_) (fun hc3 => ?_)
  · have hf := mz_t hc3 hf
    exact b_MO_put_107 E n x1 s1 t hf _ _ _ w (lv_sub hl [0, 1] rfl)
  · have hf := mz_f hc3 hf
    refine lv_aload_n hx hb d_MO_put_91 rfl (lv_at hl 0 rfl) ?_
    refine mz_get E w 0 2 (v := .int (mz_gI t 0 2)) (by decide) rfl rfl ii_11 (by decide) (Nat.le_of_ble_eq_true rfl) k_1185 rfl d_MO_put_92 ?_
    refine lv_iload_n hx hb d_MO_put_95 rfl (lv_at hl 2 rfl) ?_
    refine lv_iadd hx hb d_MO_put_96 ?_
    refine lv_sipush (v := (3000 : Int32)) hx hb d_MO_put_97 (by decide) ?_
    refine lv_icmp_le (tgt := 107) hx hb d_MO_put_100 (by decide) (fun hc12 => ?_) (fun hc12 => ?_)
    · have hf := mz_t hc12 hf
      exact b_MO_put_107 E n x1 s1 t hf _ _ _ w (lv_sub hl [0, 1] rfl)
    · have hf := mz_f hc12 hf
      refine lv_iconst (v := (1 : Int32)) hx hb d_MO_put_103 (by decide) ?_
      refine lv_goto (tgt := 108) hx hb d_MO_put_104 (by decide) ?_
      exact b_MO_put_108 E n x1 s1 (1 : Int32) t hf _ _ _ w (lv_sub hl [0, 1] rfl)
set_option maxRecDepth 100000 in
set_option maxHeartbeats 4000000 in
theorem b_MO_put_70 {SX : State → Heap → Prop} {dC : Nat → ClassId} {dI : Nat → Nat → Nat} {ad en : Nat → Nat} {ca : Nat → ClassId} {p : Program} {l : Launch} {e : Env} {s : State} {m : MethodId} {args : Array Value} {below : List Frame} {meth : Method} {c : Code} {res : (Int32 × mz_St)} (E : mz_En SX 55 mz_cl dC dI ad ca p s m meth c prog_15_method_5_code 6 "MacroHouseModel" (some (.int))) (n : Nat) (K7 : Int32 → Int32 → Int32 → Int32 → mz_St → Option (Int32 × mz_St)) (hK7 : ∀ (x1 : Int32) (x2 : Int32) (x3 : Int32) (x4 : Int32) (t : mz_St), K7 x1 x2 x3 x4 t = some res → ∀ (H : Heap) (locs : List Loc) (ls : Array Slot), mz_Wd mz_tM 55 mz_cl dC dI ad en ca s t H locs → lv_has ls 6 [(0, .ref (ad 0)), (1, .int x1), (2, .int x2), (3, .int x3), (4, .int x4)] → W p l e (r_MO_put) s m args below meth c H locs 0 0 (MQ below (mz_Q SX mz_tM 55 mz_cl dC dI ad en ca (some (.int res.1)) res.2) args s 0 0 (mz_A ad 55)) (F0 m 7 ls [])) : ∀ (x1 : Int32) (x3 : Int32) (x4 : Int32) (s0 : Int32) (t : mz_St), f_MO_put_70 n K7 x1 x3 x4 s0 t = some res → ∀ (H : Heap) (locs : List Loc) (ls : Array Slot), mz_Wd mz_tM 55 mz_cl dC dI ad en ca s t H locs → lv_has ls 6 [(0, .ref (ad 0)), (1, .int x1), (3, .int x3), (4, .int x4)] → W p l e (r_MO_put) s m args below meth c H locs 0 0 (MQ below (mz_Q SX mz_tM 55 mz_cl dC dI ad en ca (some (.int res.1)) res.2) args s 0 0 (mz_A ad 55)) (F0 m 70 ls [.int s0]) := by
  obtain ⟨hx, hb, hml, hown, hcx, -, -, hSX, -, -, hSK⟩ := id E
  intro x1 x3 x4 s0 t hf H locs ls w hl
  unfold f_MO_put_70 at hf
  refine lv_istore_n (lv' := [(2, .int s0), (0, .ref (ad 0)), (1, .int x1), (3, .int x3), (4, .int x4)]) hx hb d_MO_put_70 rfl hl (by decide) rfl (fun ls hl => ?_)
  refine lv_iinc (v := (x4 + (8 : Int32))) (lv' := [(4, .int (x4 + (8 : Int32))), (2, .int s0), (0, .ref (ad 0)), (1, .int x1), (3, .int x3)]) hx hb d_MO_put_71 hl (k := 4) rfl rfl (by decide) rfl (fun ls hl => ?_)
  refine lv_goto (tgt := 7) hx hb d_MO_put_74 (by decide) ?_
  exact hK7 x1 s0 x3 (x4 + (8 : Int32)) t hf _ _ _ w (lv_sub hl [2, 3, 1, 4, 0] rfl)
set_option maxRecDepth 100000 in
set_option maxHeartbeats 4000000 in
theorem b_MO_put_57 {SX : State → Heap → Prop} {dC : Nat → ClassId} {dI : Nat → Nat → Nat} {ad en : Nat → Nat} {ca : Nat → ClassId} {p : Program} {l : Launch} {e : Env} {s : State} {m : MethodId} {args : Array Value} {below : List Frame} {meth : Method} {c : Code} {res : (Int32 × mz_St)} (E : mz_En SX 55 mz_cl dC dI ad ca p s m meth c prog_15_method_5_code 6 "MacroHouseModel" (some (.int))) (n : Nat) (K7 : Int32 → Int32 → Int32 → Int32 → mz_St → Option (Int32 × mz_St)) (hK7 : ∀ (x1 : Int32) (x2 : Int32) (x3 : Int32) (x4 : Int32) (t : mz_St), K7 x1 x2 x3 x4 t = some res → ∀ (H : Heap) (locs : List Loc) (ls : Array Slot), mz_Wd mz_tM 55 mz_cl dC dI ad en ca s t H locs → lv_has ls 6 [(0, .ref (ad 0)), (1, .int x1), (2, .int x2), (3, .int x3), (4, .int x4)] → W p l e (r_MO_put) s m args below meth c H locs 0 0 (MQ below (mz_Q SX mz_tM 55 mz_cl dC dI ad en ca (some (.int res.1)) res.2) args s 0 0 (mz_A ad 55)) (F0 m 7 ls [])) : ∀ (x1 : Int32) (x2 : Int32) (x4 : Int32) (x5 : Int32) (s0 : Int32) (t : mz_St), f_MO_put_57 n K7 x1 x2 x4 x5 s0 t = some res → ∀ (H : Heap) (locs : List Loc) (ls : Array Slot), mz_Wd mz_tM 55 mz_cl dC dI ad en ca s t H locs → lv_has ls 6 [(0, .ref (ad 0)), (1, .int x1), (2, .int x2), (4, .int x4), (5, .int x5)] → W p l e (r_MO_put) s m args below meth c H locs 0 0 (MQ below (mz_Q SX mz_tM 55 mz_cl dC dI ad en ca (some (.int res.1)) res.2) args s 0 0 (mz_A ad 55)) (F0 m 57 ls [.int s0]) := by
  obtain ⟨hx, hb, hml, hown, hcx, -, -, hSX, -, -, hSK⟩ := id E
  intro x1 x2 x4 x5 s0 t hf H locs ls w hl
  unfold f_MO_put_57 at hf
  refine lv_istore_n (lv' := [(3, .int s0), (0, .ref (ad 0)), (1, .int x1), (2, .int x2), (4, .int x4), (5, .int x5)]) hx hb d_MO_put_57 rfl hl (by decide) rfl (fun ls hl => ?_)
  refine lv_iload hx hb d_MO_put_58 (lv_at hl 5 rfl) ?_
  refine lv_if_le (tgt := 69) hx hb d_MO_put_60 (by decide) (fun hc14 => ?_) (fun hc14 => ?_)
  · have hf := mz_t hc14 hf
    refine lv_iload_n hx hb d_MO_put_69 rfl (lv_at hl 3 rfl) ?_
    exact b_MO_put_70 E n K7 hK7 x1 s0 x4 x2 t hf _ _ _ w (lv_sub hl [1, 2, 0, 4] rfl)
  · have hf := mz_f hc14 hf
    refine lv_iload_n hx hb d_MO_put_63 rfl (lv_at hl 3 rfl) ?_
    refine lv_iconst (v := (1 : Int32)) hx hb d_MO_put_64 (by decide) ?_
    refine lv_iadd hx hb d_MO_put_65 ?_
    refine lv_goto (tgt := 70) hx hb d_MO_put_66 (by decide) ?_
    exact b_MO_put_70 E n K7 hK7 x1 s0 x4 (x2 + (1 : Int32)) t hf _ _ _ w (lv_sub hl [1, 2, 0, 4] rfl)
set_option maxRecDepth 100000 in
set_option maxHeartbeats 4000000 in
theorem b_MO_put_56 {SX : State → Heap → Prop} {dC : Nat → ClassId} {dI : Nat → Nat → Nat} {ad en : Nat → Nat} {ca : Nat → ClassId} {p : Program} {l : Launch} {e : Env} {s : State} {m : MethodId} {args : Array Value} {below : List Frame} {meth : Method} {c : Code} {res : (Int32 × mz_St)} (E : mz_En SX 55 mz_cl dC dI ad ca p s m meth c prog_15_method_5_code 6 "MacroHouseModel" (some (.int))) (n : Nat) (K7 : Int32 → Int32 → Int32 → Int32 → mz_St → Option (Int32 × mz_St)) (hK7 : ∀ (x1 : Int32) (x2 : Int32) (x3 : Int32) (x4 : Int32) (t : mz_St), K7 x1 x2 x3 x4 t = some res → ∀ (H : Heap) (locs : List Loc) (ls : Array Slot), mz_Wd mz_tM 55 mz_cl dC dI ad en ca s t H locs → lv_has ls 6 [(0, .ref (ad 0)), (1, .int x1), (2, .int x2), (3, .int x3), (4, .int x4)] → W p l e (r_MO_put) s m args below meth c H locs 0 0 (MQ below (mz_Q SX mz_tM 55 mz_cl dC dI ad en ca (some (.int res.1)) res.2) args s 0 0 (mz_A ad 55)) (F0 m 7 ls [])) : ∀ (x1 : Int32) (x2 : Int32) (x4 : Int32) (x5 : Int32) (t : mz_St), f_MO_put_56 n K7 x1 x2 x4 x5 t = some res → ∀ (H : Heap) (locs : List Loc) (ls : Array Slot), mz_Wd mz_tM 55 mz_cl dC dI ad en ca s t H locs → lv_has ls 6 [(0, .ref (ad 0)), (1, .int x1), (2, .int x2), (4, .int x4), (5, .int x5)] → W p l e (r_MO_put) s m args below meth c H locs 0 0 (MQ below (mz_Q SX mz_tM 55 mz_cl dC dI ad en ca (some (.int res.1)) res.2) args s 0 0 (mz_A ad 55)) (F0 m 56 ls []) := by
  obtain ⟨hx, hb, hml, hown, hcx, -, -, hSX, -, -, hSK⟩ := id E
  intro x1 x2 x4 x5 t hf H locs ls w hl
  unfold f_MO_put_56 at hf
  refine lv_iconst (v := (0 : Int32)) hx hb d_MO_put_56 (by decide) ?_
  exact b_MO_put_57 E n K7 hK7 x1 x2 x4 x5 (0 : Int32) t hf _ _ _ w (lv_sub hl [0, 1, 2, 3, 4] rfl)
set_option maxRecDepth 100000 in
set_option maxHeartbeats 4000000 in
theorem b_MO_put_52 {SX : State → Heap → Prop} {dC : Nat → ClassId} {dI : Nat → Nat → Nat} {ad en : Nat → Nat} {ca : Nat → ClassId} {p : Program} {l : Launch} {e : Env} {s : State} {m : MethodId} {args : Array Value} {below : List Frame} {meth : Method} {c : Code} {res : (Int32 × mz_St)} (E : mz_En SX 55 mz_cl dC dI ad ca p s m meth c prog_15_method_5_code 6 "MacroHouseModel" (some (.int))) (n : Nat) (K7 : Int32 → Int32 → Int32 → Int32 → mz_St → Option (Int32 × mz_St)) (hK7 : ∀ (x1 : Int32) (x2 : Int32) (x3 : Int32) (x4 : Int32) (t : mz_St), K7 x1 x2 x3 x4 t = some res → ∀ (H : Heap) (locs : List Loc) (ls : Array Slot), mz_Wd mz_tM 55 mz_cl dC dI ad en ca s t H locs → lv_has ls 6 [(0, .ref (ad 0)), (1, .int x1), (2, .int x2), (3, .int x3), (4, .int x4)] → W p l e (r_MO_put) s m args below meth c H locs 0 0 (MQ below (mz_Q SX mz_tM 55 mz_cl dC dI ad en ca (some (.int res.1)) res.2) args s 0 0 (mz_A ad 55)) (F0 m 7 ls [])) : ∀ (x1 : Int32) (x2 : Int32) (x4 : Int32) (x5 : Int32) (t : mz_St), f_MO_put_52 n K7 x1 x2 x4 x5 t = some res → ∀ (H : Heap) (locs : List Loc) (ls : Array Slot), mz_Wd mz_tM 55 mz_cl dC dI ad en ca s t H locs → lv_has ls 6 [(0, .ref (ad 0)), (1, .int x1), (2, .int x2), (4, .int x4), (5, .int x5)] → W p l e (r_MO_put) s m args below meth c H locs 0 0 (MQ below (mz_Q SX mz_tM 55 mz_cl dC dI ad en ca (some (.int res.1)) res.2) args s 0 0 (mz_A ad 55)) (F0 m 52 ls []) := by
  obtain ⟨hx, hb, hml, hown, hcx, -, -, hSX, -, -, hSK⟩ := id E
  intro x1 x2 x4 x5 t hf H locs ls w hl
  unfold f_MO_put_52 at hf
  refine lv_iconst (v := (1 : Int32)) hx hb d_MO_put_52 (by decide) ?_
  refine lv_goto (tgt := 57) hx hb d_MO_put_53 (by decide) ?_
  exact b_MO_put_57 E n K7 hK7 x1 x2 x4 x5 (1 : Int32) t hf _ _ _ w (lv_sub hl [0, 1, 2, 3, 4] rfl)
set_option maxRecDepth 100000 in
set_option maxHeartbeats 4000000 in
theorem b_MO_put_7 {SX : State → Heap → Prop} {dC : Nat → ClassId} {dI : Nat → Nat → Nat} {ad en : Nat → Nat} {ca : Nat → ClassId} {p : Program} {l : Launch} {e : Env} {s : State} {m : MethodId} {args : Array Value} {below : List Frame} {meth : Method} {c : Code} {res : (Int32 × mz_St)} (E : mz_En SX 55 mz_cl dC dI ad ca p s m meth c prog_15_method_5_code 6 "MacroHouseModel" (some (.int))) (n : Nat) (k : Nat) : ∀ (x1 : Int32) (x2 : Int32) (x3 : Int32) (x4 : Int32) (t : mz_St), f_MO_put_7 n k x1 x2 x3 x4 t = some res → ∀ (H : Heap) (locs : List Loc) (ls : Array Slot), mz_Wd mz_tM 55 mz_cl dC dI ad en ca s t H locs → lv_has ls 6 [(0, .ref (ad 0)), (1, .int x1), (2, .int x2), (3, .int x3), (4, .int x4)] → W p l e (r_MO_put) s m args below meth c H locs 0 0 (MQ below (mz_Q SX mz_tM 55 mz_cl dC dI ad en ca (some (.int res.1)) res.2) args s 0 0 (mz_A ad 55)) (F0 m 7 ls []) := by
  obtain ⟨hx, hb, hml, hown, hcx, -, -, hSX, -, -, hSK⟩ := id E
  induction k with
  | zero => intro x1 x2 x3 x4 t hf; exact absurd hf (by unfold f_MO_put_7; exact fun h => nomatch h)
  | succ k ih =>
    intro x1 x2 x3 x4 t hf H locs ls w hl
    unfold f_MO_put_7 at hf
    refine lv_iload hx hb d_MO_put_7 (lv_at hl 4 rfl) ?_
    refine lv_bipush (v := (32 : Int32)) hx hb d_MO_put_9 (by decide) ?_
    refine lv_icmp_ge (tgt := 77) hx hb d_MO_put_11 (by decide) (fun hc1 => ?_) (fun hc1 => ?_)
    · have hf := mz_t hc1 hf
      refine lv_aload_n hx hb d_MO_put_77 rfl (lv_at hl 0 rfl) ?_
      refine lv_iload_n hx hb d_MO_put_78 rfl (lv_at hl 3 rfl) ?_
      refine lv_if_ne (tgt := 86) hx hb d_MO_put_79 (by decide) (fun hc2 => ?_) (fun hc2 => ?_)
      · have hf := mz_f hc2 hf
        refine lv_iconst (v := (0 : Int32)) hx hb d_MO_put_86 (by decide) ?_
        exact b_MO_put_87 E n x1 x2 x3 (0 : Int32) t hf _ _ _ w (lv_sub hl [0, 1, 2, 3] rfl)
      · have hf := mz_t hc2 hf
        refine lv_iconst (v := (1 : Int32)) hx hb d_MO_put_82 (by decide) ?_
        refine lv_goto (tgt := 87) hx hb d_MO_put_83 (by decide) ?_
        exact b_MO_put_87 E n x1 x2 x3 (1 : Int32) t hf _ _ _ w (lv_sub hl [0, 1, 2, 3] rfl)
    · have hf := mz_f hc1 hf
      refine lv_iload_n hx hb d_MO_put_14 rfl (lv_at hl 1 rfl) ?_
      refine lv_iload hx hb d_MO_put_15 (lv_at hl 4 rfl) ?_
      refine lv_ishr hx hb d_MO_put_17 ?_
      refine lv_sipush (v := (255 : Int32)) hx hb d_MO_put_18 (by decide) ?_
      refine lv_iand hx hb d_MO_put_21 ?_
      refine lv_istore (lv' := [(5, .int ((x1 >>> (x4 &&& 31)) &&& (255 : Int32))), (0, .ref (ad 0)), (1, .int x1), (2, .int x2), (3, .int x3), (4, .int x4)]) hx hb d_MO_put_22 hl (by decide) rfl (fun ls hl => ?_)
      refine lv_iload_n hx hb d_MO_put_24 rfl (lv_at hl 4 rfl) ?_
      refine lv_if_eq (tgt := 56) hx hb d_MO_put_25 (by decide) (fun hc13 => ?_) (fun hc13 => ?_)
      · have hf := mz_t hc13 hf
        exact b_MO_put_56 E n (f_MO_put_7 n k) ih x1 x2 x4 ((x1 >>> (x4 &&& 31)) &&& (255 : Int32)) t hf _ _ _ w (lv_sub hl [1, 2, 3, 5, 0] rfl)
      · have hf := mz_f hc13 hf
        refine lv_iload hx hb d_MO_put_28 (lv_at hl 0 rfl) ?_
        refine lv_if_eq (tgt := 52) hx hb d_MO_put_30 (by decide) (fun hc15 => ?_) (fun hc15 => ?_)
        · have hf := mz_t hc15 hf
          exact b_MO_put_52 E n (f_MO_put_7 n k) ih x1 x2 x4 ((x1 >>> (x4 &&& 31)) &&& (255 : Int32)) t hf _ _ _ w (lv_sub hl [1, 2, 3, 5, 0] rfl)
        · have hf := mz_f hc15 hf
          refine lv_iload hx hb d_MO_put_33 (lv_at hl 0 rfl) ?_
          refine lv_bipush (v := (10 : Int32)) hx hb d_MO_put_35 (by decide) ?_
          refine lv_icmp_eq (tgt := 52) hx hb d_MO_put_37 (by decide) (fun hc16 => ?_) (fun hc16 => ?_)
          · have hf := mz_t hc16 hf
            exact b_MO_put_52 E n (f_MO_put_7 n k) ih x1 x2 x4 ((x1 >>> (x4 &&& 31)) &&& (255 : Int32)) t hf _ _ _ w (lv_sub hl [1, 2, 3, 5, 0] rfl)
          · have hf := mz_f hc16 hf
            refine lv_iload hx hb d_MO_put_40 (lv_at hl 0 rfl) ?_
            refine lv_bipush (v := (32 : Int32)) hx hb d_MO_put_42 (by decide) ?_
            refine lv_bipush (v := (126 : Int32)) hx hb d_MO_put_44 (by decide) ?_
            obtain ⟨q17, hq18, hf⟩ := mz_bd hf
            refine mz_callS E w (As := [.int ((x1 >>> (x4 &&& 31)) &&& (255 : Int32)), .int (32 : Int32), .int (126 : Int32)]) (rest := []) (c_MO_in hSK l n ((x1 >>> (x4 &&& 31)) &&& (255 : Int32)) (32 : Int32) (126 : Int32) t q17 hq18) k_1435 k_15 k_1433 k_1434 hm_MO_in ⟨⟨rfl, rfl⟩, Nat.le_of_ble_eq_true rfl, Nat.le_of_ble_eq_true rfl⟩ rfl hl.1 rfl (Nat.le_of_ble_eq_true rfl) d_MO_put_46 ⟨Nat.zero_le _, Nat.zero_le _⟩ (st1 := [.int q17.1]) rfl (fun H locs w => ?_)
            refine lv_if_eq (tgt := 56) hx hb d_MO_put_49 (by decide) (fun hc19 => ?_) (fun hc19 => ?_)
            · have hf := mz_t hc19 hf
              exact b_MO_put_56 E n (f_MO_put_7 n k) ih x1 x2 x4 ((x1 >>> (x4 &&& 31)) &&& (255 : Int32)) q17.2 hf _ _ _ w (lv_sub hl [1, 2, 3, 5, 0] rfl)
            · have hf := mz_f hc19 hf
              exact b_MO_put_52 E n (f_MO_put_7 n k) ih x1 x2 x4 ((x1 >>> (x4 &&& 31)) &&& (255 : Int32)) q17.2 hf _ _ _ w (lv_sub hl [1, 2, 3, 5, 0] rfl)
set_option maxRecDepth 100000 in
set_option maxHeartbeats 4000000 in
theorem c_MO_put {SX : State → Heap → Prop} {dC : Nat → ClassId} {dI : Nat → Nat → Nat} {ad en : Nat → Nat} {ca : Nat → ClassId} (hSK : mz_SK SX ad 55) (l : Launch) (n : Nat) (x1 : Int32) (t : mz_St) (res : (Int32 × mz_St)) (hf : f_MO_put n x1 t = some res) : mz_C SX mz_tM 55 mz_cl dC dI ad en ca l y_MO_put prog_15_method_5_code 6 (some (.int)) (r_MO_put) [.ref (ad 0), .int x1] t (some (.int res.1)) res.2 := by
  unfold f_MO_put at hf
  refine mz_met hSK (by decide) (Nat.le_of_ble_eq_true rfl) ?_
  intro p e s m args below meth c ls E w hl
  obtain ⟨hx, hb, hml, hown, hcx, -, -, hSX, -, -, -⟩ := id E
  have hl : lv_has ls 6 [(0, .ref (ad 0)), (1, .int x1)] := hl
  refine lv_iconst (v := (0 : Int32)) hx hb d_MO_put_0 (by decide) ?_
  refine lv_istore_n (lv' := [(2, .int (0 : Int32)), (0, .ref (ad 0)), (1, .int x1)]) hx hb d_MO_put_1 rfl hl (by decide) rfl (fun ls hl => ?_)
  refine lv_iconst (v := (1 : Int32)) hx hb d_MO_put_2 (by decide) ?_
  refine lv_istore_n (lv' := [(3, .int (1 : Int32)), (2, .int (0 : Int32)), (0, .ref (ad 0)), (1, .int x1)]) hx hb d_MO_put_3 rfl hl (by decide) rfl (fun ls hl => ?_)
  refine lv_iconst (v := (0 : Int32)) hx hb d_MO_put_4 (by decide) ?_
  refine lv_istore (lv' := [(4, .int (0 : Int32)), (3, .int (1 : Int32)), (2, .int (0 : Int32)), (0, .ref (ad 0)), (1, .int x1)]) hx hb d_MO_put_5 hl (by decide) rfl (fun ls hl => ?_)
  exact b_MO_put_7 E n n x1 (0 : Int32) (1 : Int32) (0 : Int32) t hf _ _ _ w (lv_sub hl [3, 4, 2, 1, 0] rfl)

/-! MacroHouseModel.end(I)V -/
abbrev r_MO_end : Room := { frames := 1, cells := 0, slots := 0, locals := 22 }
def f_MO_end_18 (n : Nat) (x1 : Int32) (s1 : Int32) (t : mz_St) : Option mz_St := (f_MO_refuse n s1 (0 : Int32) t).bind fun q4 => if q4.1 = 0 then (mz_let (mz_pI q4.2 0 2 x1) fun t7 => some t7) else (some q4.2)
def f_MO_end (n : Nat) (x1 : Int32) (t : mz_St) : Option mz_St := (f_MO_in n x1 (0 : Int32) (mz_gI t 0 2) t).bind fun q1 => if q1.1 = 0 then (f_MO_end_18 n x1 (1 : Int32) q1.2) else (f_MO_end_18 n x1 (0 : Int32) q1.2)
set_option maxRecDepth 100000 in
set_option maxHeartbeats 4000000 in
theorem b_MO_end_18 {SX : State → Heap → Prop} {dC : Nat → ClassId} {dI : Nat → Nat → Nat} {ad en : Nat → Nat} {ca : Nat → ClassId} {p : Program} {l : Launch} {e : Env} {s : State} {m : MethodId} {args : Array Value} {below : List Frame} {meth : Method} {c : Code} {res : mz_St} (E : mz_En SX 55 mz_cl dC dI ad ca p s m meth c prog_15_method_6_code 2 "MacroHouseModel" none) (n : Nat) : ∀ (x1 : Int32) (s1 : Int32) (t : mz_St), f_MO_end_18 n x1 s1 t = some res → ∀ (H : Heap) (locs : List Loc) (ls : Array Slot), mz_Wd mz_tM 55 mz_cl dC dI ad en ca s t H locs → lv_has ls 2 [(0, .ref (ad 0)), (1, .int x1)] → W p l e (r_MO_end) s m args below meth c H locs 0 0 (MQ below (mz_Q SX mz_tM 55 mz_cl dC dI ad en ca none res) args s 0 0 (mz_A ad 55)) (F0 m 18 ls [.int s1, .ref (ad 0)]) := by
  obtain ⟨hx, hb, hml, hown, hcx, -, -, hSX, -, -, hSK⟩ := id E
  intro x1 s1 t hf H locs ls w hl
  unfold f_MO_end_18 at hf
  refine lv_iconst (v := (0 : Int32)) hx hb d_MO_end_18 (by decide) ?_
  obtain ⟨q4, hq5, hf⟩ := mz_bd hf
  refine mz_callV E w (k := 0) (As := [.int s1, .int (0 : Int32)]) (rest := []) (c_MO_refuse hSK l n s1 (0 : Int32) t q4 hq5) (by decide) rfl rfl k_1439 k_15 k_1436 k_1438 ks_48 hm_MO_refuse ⟨⟨rfl, rfl⟩, Nat.le_of_ble_eq_true rfl, Nat.le_of_ble_eq_true rfl⟩ rfl hl.1 rfl (Nat.le_of_ble_eq_true rfl) d_MO_end_19 ⟨Nat.zero_le _, Nat.zero_le _⟩ (st1 := [.int q4.1]) rfl (fun H locs w => ?_)
  refine lv_if_ne (tgt := 30) hx hb d_MO_end_22 (by decide) (fun hc6 => ?_) (fun hc6 => ?_)
  · have hf := mz_f hc6 hf
    obtain rfl := Option.some.inj hf
    exact mz_vret E w rfl d_MO_end_30
  · have hf := mz_t hc6 hf
    refine lv_aload_n hx hb d_MO_end_25 rfl (lv_at hl 0 rfl) ?_
    refine lv_iload_n hx hb d_MO_end_26 rfl (lv_at hl 1 rfl) ?_
    refine mz_put E w 0 2 (v := x1) (by decide) rfl rfl ii_11 tk_11 nm_11 (by decide) (Nat.le_of_ble_eq_true rfl) k_1185 rfl (tk_11 2 (by decide)) rfl rfl rfl d_MO_end_27 (fun H locs w => ?_)
    obtain ⟨t7, e_t7, hf⟩ := mz_lt hf
    rw [← e_t7] at w
    obtain rfl := Option.some.inj hf
    exact mz_vret E w rfl d_MO_end_30
set_option maxRecDepth 100000 in
set_option maxHeartbeats 4000000 in
theorem c_MO_end {SX : State → Heap → Prop} {dC : Nat → ClassId} {dI : Nat → Nat → Nat} {ad en : Nat → Nat} {ca : Nat → ClassId} (hSK : mz_SK SX ad 55) (l : Launch) (n : Nat) (x1 : Int32) (t : mz_St) (res : mz_St) (hf : f_MO_end n x1 t = some res) : mz_C SX mz_tM 55 mz_cl dC dI ad en ca l y_MO_end prog_15_method_6_code 2 none (r_MO_end) [.ref (ad 0), .int x1] t none res := by
  unfold f_MO_end at hf
  refine mz_met hSK (by decide) (Nat.le_of_ble_eq_true rfl) ?_
  intro p e s m args below meth c ls E w hl
  obtain ⟨hx, hb, hml, hown, hcx, -, -, hSX, -, -, -⟩ := id E
  have hl : lv_has ls 2 [(0, .ref (ad 0)), (1, .int x1)] := hl
  refine lv_aload_n hx hb d_MO_end_0 rfl (lv_at hl 0 rfl) ?_
  refine lv_iload_n hx hb d_MO_end_1 rfl (lv_at hl 1 rfl) ?_
  refine lv_iconst (v := (0 : Int32)) hx hb d_MO_end_2 (by decide) ?_
  refine lv_aload_n hx hb d_MO_end_3 rfl (lv_at hl 0 rfl) ?_
  refine mz_get E w 0 2 (v := .int (mz_gI t 0 2)) (by decide) rfl rfl ii_11 (by decide) (Nat.le_of_ble_eq_true rfl) k_1185 rfl d_MO_end_4 ?_
  obtain ⟨q1, hq2, hf⟩ := mz_bd hf
  refine mz_callS E w (As := [.int x1, .int (0 : Int32), .int (mz_gI t 0 2)]) (rest := [.ref (ad 0)]) (c_MO_in hSK l n x1 (0 : Int32) (mz_gI t 0 2) t q1 hq2) k_1435 k_15 k_1433 k_1434 hm_MO_in ⟨⟨rfl, rfl⟩, Nat.le_of_ble_eq_true rfl, Nat.le_of_ble_eq_true rfl⟩ rfl hl.1 rfl (Nat.le_of_ble_eq_true rfl) d_MO_end_7 ⟨Nat.zero_le _, Nat.zero_le _⟩ (st1 := [.int q1.1, .ref (ad 0)]) rfl (fun H locs w => ?_)
  refine lv_if_ne (tgt := 17) hx hb d_MO_end_10 (by decide) (fun hc3 => ?_) (fun hc3 => ?_)
  · have hf := mz_f hc3 hf
    refine lv_iconst (v := (0 : Int32)) hx hb d_MO_end_17 (by decide) ?_
    exact b_MO_end_18 E n x1 (0 : Int32) q1.2 hf _ _ _ w (lv_sub hl [0, 1] rfl)
  · have hf := mz_t hc3 hf
    refine lv_iconst (v := (1 : Int32)) hx hb d_MO_end_13 (by decide) ?_
    refine lv_goto (tgt := 18) hx hb d_MO_end_14 (by decide) ?_
    exact b_MO_end_18 E n x1 (1 : Int32) q1.2 hf _ _ _ w (lv_sub hl [0, 1] rfl)

/-! MacroHouseModel.findLines()V -/
abbrev r_MO_findLines : Room := { frames := 0, cells := 0, slots := 0, locals := 0 }
def f_MO_findLines_152 (n : Nat) (K9 : Int32 → Int32 → mz_St → Option mz_St) (x1 : Int32) (x2 : Int32) (t : mz_St) : Option mz_St := K9 x1 (x2 + (1 : Int32)) t
def f_MO_findLines_117 (n : Nat) (K9 : Int32 → Int32 → mz_St → Option mz_St) (x2 : Int32) (x3 : Int32) (x4 : Int32) (t : mz_St) : Option mz_St := if ¬ ((mz_gI t 0 3) < 0 ∨ 3001 ≤ (mz_gI t 0 3).toNatClampNeg) then (mz_let (mz_pI t 2 (mz_gI t 0 3).toNatClampNeg x3) fun t8 => if ¬ ((mz_gI t8 0 3) < 0 ∨ 3001 ≤ (mz_gI t8 0 3).toNatClampNeg) then (mz_let (mz_pI t8 3 (mz_gI t8 0 3).toNatClampNeg x4) fun t10 => mz_let (mz_pI t10 0 3 ((mz_gI t10 0 3) + (1 : Int32))) fun t11 => f_MO_findLines_152 n K9 (x2 + (1 : Int32)) x2 t11) else none) else none
def f_MO_findLines_91 (n : Nat) (K9 : Int32 → Int32 → mz_St → Option mz_St) : Nat → Int32 → Int32 → Int32 → mz_St → Option mz_St
  | 0, _, _, _, _ => none
  | k + 1, x2, x3, x4, t => if x4 ≤ x3 then (f_MO_findLines_117 n K9 x2 x3 x4 t) else (if ¬ ((x4 - (1 : Int32)) < 0 ∨ 3000 ≤ (x4 - (1 : Int32)).toNatClampNeg) then (if (mz_gI t 1 (x4 - (1 : Int32)).toNatClampNeg) = (32 : Int32) then ((f_MO_findLines_91 n K9 k) x2 x3 (x4 + (-1 : Int32)) t) else (f_MO_findLines_117 n K9 x2 x3 x4 t)) else none)
def f_MO_findLines_68 (n : Nat) (K9 : Int32 → Int32 → mz_St → Option mz_St) : Nat → Int32 → Int32 → Int32 → mz_St → Option mz_St
  | 0, _, _, _, _ => none
  | k + 1, x2, x3, x4, t => if x4 ≤ x3 then (f_MO_findLines_91 n K9 n x2 x3 x4 t) else (if ¬ (x3 < 0 ∨ 3000 ≤ x3.toNatClampNeg) then (if (mz_gI t 1 x3.toNatClampNeg) = (32 : Int32) then ((f_MO_findLines_68 n K9 k) x2 (x3 + (1 : Int32)) x4 t) else (f_MO_findLines_91 n K9 n x2 x3 x4 t)) else none)
def f_MO_findLines_44 (n : Nat) (K9 : Int32 → Int32 → mz_St → Option mz_St) : Nat → Int32 → Int32 → Int32 → mz_St → Option mz_St
  | 0, _, _, _, _ => none
  | k + 1, x2, x3, x4, t => if x2 ≤ x4 then (f_MO_findLines_68 n K9 n x2 x3 x4 t) else (if ¬ (x4 < 0 ∨ 3000 ≤ x4.toNatClampNeg) then (if (mz_gI t 1 x4.toNatClampNeg) = (35 : Int32) then (f_MO_findLines_68 n K9 n x2 x3 x4 t) else ((f_MO_findLines_44 n K9 k) x2 x3 (x4 + (1 : Int32)) t)) else none)
def f_MO_findLines_39 (n : Nat) (K9 : Int32 → Int32 → mz_St → Option mz_St) (x1 : Int32) (x2 : Int32) (t : mz_St) : Option mz_St := f_MO_findLines_44 n K9 n x2 x1 x1 t
def f_MO_findLines_9 (n : Nat) : Nat → Int32 → Int32 → mz_St → Option mz_St
  | 0, _, _, _ => none
  | k + 1, x1, x2, t => if (mz_gI t 0 2) < x2 then (some t) else (if (mz_gI t 0 2) ≤ x2 then (f_MO_findLines_39 n (f_MO_findLines_9 n k) x1 x2 t) else (if ¬ (x2 < 0 ∨ 3000 ≤ x2.toNatClampNeg) then (if (mz_gI t 1 x2.toNatClampNeg) = (10 : Int32) then (f_MO_findLines_39 n (f_MO_findLines_9 n k) x1 x2 t) else (f_MO_findLines_152 n (f_MO_findLines_9 n k) x1 x2 t)) else none))
def f_MO_findLines (n : Nat) (t : mz_St) : Option mz_St := mz_let (mz_pI t 0 3 (0 : Int32)) fun t1 => f_MO_findLines_9 n n (0 : Int32) (0 : Int32) t1
set_option maxRecDepth 100000 in
set_option maxHeartbeats 4000000 in
theorem b_MO_findLines_152 {SX : State → Heap → Prop} {dC : Nat → ClassId} {dI : Nat → Nat → Nat} {ad en : Nat → Nat} {ca : Nat → ClassId} {p : Program} {l : Launch} {e : Env} {s : State} {m : MethodId} {args : Array Value} {below : List Frame} {meth : Method} {c : Code} {res : mz_St} (E : mz_En SX 55 mz_cl dC dI ad ca p s m meth c prog_15_method_7_code 5 "MacroHouseModel" none) (n : Nat) (K9 : Int32 → Int32 → mz_St → Option mz_St) (hK9 : ∀ (x1 : Int32) (x2 : Int32) (t : mz_St), K9 x1 x2 t = some res → ∀ (H : Heap) (locs : List Loc) (ls : Array Slot), mz_Wd mz_tM 55 mz_cl dC dI ad en ca s t H locs → lv_has ls 5 [(0, .ref (ad 0)), (1, .int x1), (2, .int x2)] → W p l e (r_MO_findLines) s m args below meth c H locs 0 0 (MQ below (mz_Q SX mz_tM 55 mz_cl dC dI ad en ca none res) args s 0 0 (mz_A ad 55)) (F0 m 9 ls [])) : ∀ (x1 : Int32) (x2 : Int32) (t : mz_St), f_MO_findLines_152 n K9 x1 x2 t = some res → ∀ (H : Heap) (locs : List Loc) (ls : Array Slot), mz_Wd mz_tM 55 mz_cl dC dI ad en ca s t H locs → lv_has ls 5 [(0, .ref (ad 0)), (1, .int x1), (2, .int x2)] → W p l e (r_MO_findLines) s m args below meth c H locs 0 0 (MQ below (mz_Q SX mz_tM 55 mz_cl dC dI ad en ca none res) args s 0 0 (mz_A ad 55)) (F0 m 152 ls []) := by
  obtain ⟨hx, hb, hml, hown, hcx, -, -, hSX, -, -, hSK⟩ := id E
  intro x1 x2 t hf H locs ls w hl
  unfold f_MO_findLines_152 at hf
  refine lv_iinc (v := (x2 + (1 : Int32))) (lv' := [(2, .int (x2 + (1 : Int32))), (0, .ref (ad 0)), (1, .int x1)]) hx hb d_MO_findLines_152 hl (k := 2) rfl rfl (by decide) rfl (fun ls hl => ?_)
  refine lv_goto (tgt := 9) hx hb d_MO_findLines_155 (by decide) ?_
  exact hK9 x1 (x2 + (1 : Int32)) t hf _ _ _ w (lv_sub hl [1, 2, 0] rfl)
set_option maxRecDepth 100000 in
set_option maxHeartbeats 4000000 in
theorem b_MO_findLines_117 {SX : State → Heap → Prop} {dC : Nat → ClassId} {dI : Nat → Nat → Nat} {ad en : Nat → Nat} {ca : Nat → ClassId} {p : Program} {l : Launch} {e : Env} {s : State} {m : MethodId} {args : Array Value} {below : List Frame} {meth : Method} {c : Code} {res : mz_St} (E : mz_En SX 55 mz_cl dC dI ad ca p s m meth c prog_15_method_7_code 5 "MacroHouseModel" none) (n : Nat) (K9 : Int32 → Int32 → mz_St → Option mz_St) (hK9 : ∀ (x1 : Int32) (x2 : Int32) (t : mz_St), K9 x1 x2 t = some res → ∀ (H : Heap) (locs : List Loc) (ls : Array Slot), mz_Wd mz_tM 55 mz_cl dC dI ad en ca s t H locs → lv_has ls 5 [(0, .ref (ad 0)), (1, .int x1), (2, .int x2)] → W p l e (r_MO_findLines) s m args below meth c H locs 0 0 (MQ below (mz_Q SX mz_tM 55 mz_cl dC dI ad en ca none res) args s 0 0 (mz_A ad 55)) (F0 m 9 ls [])) : ∀ (x2 : Int32) (x3 : Int32) (x4 : Int32) (t : mz_St), f_MO_findLines_117 n K9 x2 x3 x4 t = some res → ∀ (H : Heap) (locs : List Loc) (ls : Array Slot), mz_Wd mz_tM 55 mz_cl dC dI ad en ca s t H locs → lv_has ls 5 [(0, .ref (ad 0)), (2, .int x2), (3, .int x3), (4, .int x4)] → W p l e (r_MO_findLines) s m args below meth c H locs 0 0 (MQ below (mz_Q SX mz_tM 55 mz_cl dC dI ad en ca none res) args s 0 0 (mz_A ad 55)) (F0 m 117 ls []) := by
  obtain ⟨hx, hb, hml, hown, hcx, -, -, hSX, -, -, hSK⟩ := id E
  intro x2 x3 x4 t hf H locs ls w hl
  unfold f_MO_findLines_117 at hf
  refine lv_aload_n hx hb d_MO_findLines_117 rfl (lv_at hl 0 rfl) ?_
  refine mz_get E w 0 4 (v := .ref (ad 2)) (by decide) rfl rfl ii_11 (by decide) (Nat.le_of_ble_eq_true rfl) k_1187 rfl d_MO_findLines_118 ?_
  refine lv_aload_n hx hb d_MO_findLines_121 rfl (lv_at hl 0 rfl) ?_
  refine mz_get E w 0 3 (v := .int (mz_gI t 0 3)) (by decide) rfl rfl ii_11 (by decide) (Nat.le_of_ble_eq_true rfl) k_1186 rfl d_MO_findLines_122 ?_
  refine lv_iload_n hx hb d_MO_findLines_125 rfl (lv_at hl 2 rfl) ?_
  obtain ⟨hi7, hf⟩ := mz_gd hf
  refine mz_iast E w 2 (x := x3) (by decide) rfl hi7 d_MO_findLines_126 (fun H locs w => ?_)
  obtain ⟨t8, e_t8, hf⟩ := mz_lt hf
  rw [← e_t8] at w
  refine lv_aload_n hx hb d_MO_findLines_127 rfl (lv_at hl 0 rfl) ?_
  refine mz_get E w 0 5 (v := .ref (ad 3)) (by decide) rfl rfl ii_11 (by decide) (Nat.le_of_ble_eq_true rfl) k_1188 rfl d_MO_findLines_128 ?_
  refine lv_aload_n hx hb d_MO_findLines_131 rfl (lv_at hl 0 rfl) ?_
  refine mz_get E w 0 3 (v := .int (mz_gI t8 0 3)) (by decide) rfl rfl ii_11 (by decide) (Nat.le_of_ble_eq_true rfl) k_1186 rfl d_MO_findLines_132 ?_
  refine lv_iload hx hb d_MO_findLines_135 (lv_at hl 3 rfl) ?_
  obtain ⟨hi9, hf⟩ := mz_gd hf
  refine mz_iast E w 3 (x := x4) (by decide) rfl hi9 d_MO_findLines_137 (fun H locs w => ?_)
  obtain ⟨t10, e_t10, hf⟩ := mz_lt hf
  rw [← e_t10] at w
  refine lv_aload_n hx hb d_MO_findLines_138 rfl (lv_at hl 0 rfl) ?_
  refine lv_dup hx hb d_MO_findLines_139 rfl ?_
  refine mz_get E w 0 3 (v := .int (mz_gI t10 0 3)) (by decide) rfl rfl ii_11 (by decide) (Nat.le_of_ble_eq_true rfl) k_1186 rfl d_MO_findLines_140 ?_
  refine lv_iconst (v := (1 : Int32)) hx hb d_MO_findLines_143 (by decide) ?_
  refine lv_iadd hx hb d_MO_findLines_144 ?_
  refine mz_put E w 0 3 (v := ((mz_gI t10 0 3) + (1 : Int32))) (by decide) rfl rfl ii_11 tk_11 nm_11 (by decide) (Nat.le_of_ble_eq_true rfl) k_1186 rfl (tk_11 3 (by decide)) rfl rfl rfl d_MO_findLines_145 (fun H locs w => ?_)
  obtain ⟨t11, e_t11, hf⟩ := mz_lt hf
  rw [← e_t11] at w
  refine lv_iload_n hx hb d_MO_findLines_148 rfl (lv_at hl 1 rfl) ?_
  refine lv_iconst (v := (1 : Int32)) hx hb d_MO_findLines_149 (by decide) ?_
  refine lv_iadd hx hb d_MO_findLines_150 ?_
  refine lv_istore_n (lv' := [(1, .int (x2 + (1 : Int32))), (0, .ref (ad 0)), (2, .int x2), (3, .int x3), (4, .int x4)]) hx hb d_MO_findLines_151 rfl hl (by decide) rfl (fun ls hl => ?_)
  exact b_MO_findLines_152 E n K9 hK9 (x2 + (1 : Int32)) x2 t11 hf _ _ _ w (lv_sub hl [1, 0, 2] rfl)
set_option maxRecDepth 100000 in
set_option maxHeartbeats 4000000 in
theorem b_MO_findLines_91 {SX : State → Heap → Prop} {dC : Nat → ClassId} {dI : Nat → Nat → Nat} {ad en : Nat → Nat} {ca : Nat → ClassId} {p : Program} {l : Launch} {e : Env} {s : State} {m : MethodId} {args : Array Value} {below : List Frame} {meth : Method} {c : Code} {res : mz_St} (E : mz_En SX 55 mz_cl dC dI ad ca p s m meth c prog_15_method_7_code 5 "MacroHouseModel" none) (n : Nat) (K9 : Int32 → Int32 → mz_St → Option mz_St) (hK9 : ∀ (x1 : Int32) (x2 : Int32) (t : mz_St), K9 x1 x2 t = some res → ∀ (H : Heap) (locs : List Loc) (ls : Array Slot), mz_Wd mz_tM 55 mz_cl dC dI ad en ca s t H locs → lv_has ls 5 [(0, .ref (ad 0)), (1, .int x1), (2, .int x2)] → W p l e (r_MO_findLines) s m args below meth c H locs 0 0 (MQ below (mz_Q SX mz_tM 55 mz_cl dC dI ad en ca none res) args s 0 0 (mz_A ad 55)) (F0 m 9 ls [])) (k : Nat) : ∀ (x2 : Int32) (x3 : Int32) (x4 : Int32) (t : mz_St), f_MO_findLines_91 n K9 k x2 x3 x4 t = some res → ∀ (H : Heap) (locs : List Loc) (ls : Array Slot), mz_Wd mz_tM 55 mz_cl dC dI ad en ca s t H locs → lv_has ls 5 [(0, .ref (ad 0)), (2, .int x2), (3, .int x3), (4, .int x4)] → W p l e (r_MO_findLines) s m args below meth c H locs 0 0 (MQ below (mz_Q SX mz_tM 55 mz_cl dC dI ad en ca none res) args s 0 0 (mz_A ad 55)) (F0 m 91 ls []) := by
  obtain ⟨hx, hb, hml, hown, hcx, -, -, hSX, -, -, hSK⟩ := id E
  induction k with
  | zero => intro x2 x3 x4 t hf; exact absurd hf (by unfold f_MO_findLines_91; exact fun h => nomatch h)
  | succ k ih =>
    intro x2 x3 x4 t hf H locs ls w hl
    unfold f_MO_findLines_91 at hf
    refine lv_iload_n hx hb d_MO_findLines_91 rfl (lv_at hl 2 rfl) ?_
    refine lv_iload hx hb d_MO_findLines_92 (lv_at hl 3 rfl) ?_
    refine lv_icmp_ge (tgt := 117) hx hb d_MO_findLines_94 (by decide) (fun hc6 => ?_) (fun hc6 => ?_)
    · have hf := mz_t hc6 hf
      exact b_MO_findLines_117 E n K9 hK9 x2 x3 x4 t hf _ _ _ w (lv_sub hl [0, 1, 2, 3] rfl)
    · have hf := mz_f hc6 hf
      refine lv_aload_n hx hb d_MO_findLines_97 rfl (lv_at hl 0 rfl) ?_
      refine mz_get E w 0 1 (v := .ref (ad 1)) (by decide) rfl rfl ii_11 (by decide) (Nat.le_of_ble_eq_true rfl) k_1184 rfl d_MO_findLines_98 ?_
      refine lv_iload hx hb d_MO_findLines_101 (lv_at hl 3 rfl) ?_
      refine lv_iconst (v := (1 : Int32)) hx hb d_MO_findLines_103 (by decide) ?_
      refine lv_isub hx hb d_MO_findLines_104 ?_
      obtain ⟨hi12, hf⟩ := mz_gd hf
      refine mz_iald E w 1 (by decide) rfl hi12 d_MO_findLines_105 ?_
      refine lv_bipush (v := (32 : Int32)) hx hb d_MO_findLines_106 (by decide) ?_
      refine lv_icmp_ne (tgt := 117) hx hb d_MO_findLines_108 (by decide) (fun hc13 => ?_) (fun hc13 => ?_)
      · have hf := mz_f hc13 hf
        exact b_MO_findLines_117 E n K9 hK9 x2 x3 x4 t hf _ _ _ w (lv_sub hl [0, 1, 2, 3] rfl)
      · have hf := mz_t hc13 hf
        refine lv_iinc (v := (x4 + (-1 : Int32))) (lv' := [(4, .int (x4 + (-1 : Int32))), (0, .ref (ad 0)), (2, .int x2), (3, .int x3)]) hx hb d_MO_findLines_111 hl (k := 3) rfl rfl (by decide) rfl (fun ls hl => ?_)
        refine lv_goto (tgt := 91) hx hb d_MO_findLines_114 (by decide) ?_
        exact ih x2 x3 (x4 + (-1 : Int32)) t hf _ _ _ w (lv_sub hl [1, 2, 3, 0] rfl)
set_option maxRecDepth 100000 in
set_option maxHeartbeats 4000000 in
theorem b_MO_findLines_68 {SX : State → Heap → Prop} {dC : Nat → ClassId} {dI : Nat → Nat → Nat} {ad en : Nat → Nat} {ca : Nat → ClassId} {p : Program} {l : Launch} {e : Env} {s : State} {m : MethodId} {args : Array Value} {below : List Frame} {meth : Method} {c : Code} {res : mz_St} (E : mz_En SX 55 mz_cl dC dI ad ca p s m meth c prog_15_method_7_code 5 "MacroHouseModel" none) (n : Nat) (K9 : Int32 → Int32 → mz_St → Option mz_St) (hK9 : ∀ (x1 : Int32) (x2 : Int32) (t : mz_St), K9 x1 x2 t = some res → ∀ (H : Heap) (locs : List Loc) (ls : Array Slot), mz_Wd mz_tM 55 mz_cl dC dI ad en ca s t H locs → lv_has ls 5 [(0, .ref (ad 0)), (1, .int x1), (2, .int x2)] → W p l e (r_MO_findLines) s m args below meth c H locs 0 0 (MQ below (mz_Q SX mz_tM 55 mz_cl dC dI ad en ca none res) args s 0 0 (mz_A ad 55)) (F0 m 9 ls [])) (k : Nat) : ∀ (x2 : Int32) (x3 : Int32) (x4 : Int32) (t : mz_St), f_MO_findLines_68 n K9 k x2 x3 x4 t = some res → ∀ (H : Heap) (locs : List Loc) (ls : Array Slot), mz_Wd mz_tM 55 mz_cl dC dI ad en ca s t H locs → lv_has ls 5 [(0, .ref (ad 0)), (2, .int x2), (3, .int x3), (4, .int x4)] → W p l e (r_MO_findLines) s m args below meth c H locs 0 0 (MQ below (mz_Q SX mz_tM 55 mz_cl dC dI ad en ca none res) args s 0 0 (mz_A ad 55)) (F0 m 68 ls []) := by
  obtain ⟨hx, hb, hml, hown, hcx, -, -, hSX, -, -, hSK⟩ := id E
  induction k with
  | zero => intro x2 x3 x4 t hf; exact absurd hf (by unfold f_MO_findLines_68; exact fun h => nomatch h)
  | succ k ih =>
    intro x2 x3 x4 t hf H locs ls w hl
    unfold f_MO_findLines_68 at hf
    refine lv_iload_n hx hb d_MO_findLines_68 rfl (lv_at hl 2 rfl) ?_
    refine lv_iload hx hb d_MO_findLines_69 (lv_at hl 3 rfl) ?_
    refine lv_icmp_ge (tgt := 91) hx hb d_MO_findLines_71 (by decide) (fun hc5 => ?_) (fun hc5 => ?_)
    · have hf := mz_t hc5 hf
      exact b_MO_findLines_91 E n K9 hK9 n x2 x3 x4 t hf _ _ _ w (lv_sub hl [0, 1, 2, 3] rfl)
    · have hf := mz_f hc5 hf
      refine lv_aload_n hx hb d_MO_findLines_74 rfl (lv_at hl 0 rfl) ?_
      refine mz_get E w 0 1 (v := .ref (ad 1)) (by decide) rfl rfl ii_11 (by decide) (Nat.le_of_ble_eq_true rfl) k_1184 rfl d_MO_findLines_75 ?_
      refine lv_iload_n hx hb d_MO_findLines_78 rfl (lv_at hl 2 rfl) ?_
      obtain ⟨hi14, hf⟩ := mz_gd hf
      refine mz_iald E w 1 (by decide) rfl hi14 d_MO_findLines_79 ?_
      refine lv_bipush (v := (32 : Int32)) hx hb d_MO_findLines_80 (by decide) ?_
      refine lv_icmp_ne (tgt := 91) hx hb d_MO_findLines_82 (by decide) (fun hc15 => ?_) (fun hc15 => ?_)
      · have hf := mz_f hc15 hf
        exact b_MO_findLines_91 E n K9 hK9 n x2 x3 x4 t hf _ _ _ w (lv_sub hl [0, 1, 2, 3] rfl)
      · have hf := mz_t hc15 hf
        refine lv_iinc (v := (x3 + (1 : Int32))) (lv' := [(3, .int (x3 + (1 : Int32))), (0, .ref (ad 0)), (2, .int x2), (4, .int x4)]) hx hb d_MO_findLines_85 hl (k := 2) rfl rfl (by decide) rfl (fun ls hl => ?_)
        refine lv_goto (tgt := 68) hx hb d_MO_findLines_88 (by decide) ?_
        exact ih x2 (x3 + (1 : Int32)) x4 t hf _ _ _ w (lv_sub hl [1, 2, 0, 3] rfl)
set_option maxRecDepth 100000 in
set_option maxHeartbeats 4000000 in
theorem b_MO_findLines_44 {SX : State → Heap → Prop} {dC : Nat → ClassId} {dI : Nat → Nat → Nat} {ad en : Nat → Nat} {ca : Nat → ClassId} {p : Program} {l : Launch} {e : Env} {s : State} {m : MethodId} {args : Array Value} {below : List Frame} {meth : Method} {c : Code} {res : mz_St} (E : mz_En SX 55 mz_cl dC dI ad ca p s m meth c prog_15_method_7_code 5 "MacroHouseModel" none) (n : Nat) (K9 : Int32 → Int32 → mz_St → Option mz_St) (hK9 : ∀ (x1 : Int32) (x2 : Int32) (t : mz_St), K9 x1 x2 t = some res → ∀ (H : Heap) (locs : List Loc) (ls : Array Slot), mz_Wd mz_tM 55 mz_cl dC dI ad en ca s t H locs → lv_has ls 5 [(0, .ref (ad 0)), (1, .int x1), (2, .int x2)] → W p l e (r_MO_findLines) s m args below meth c H locs 0 0 (MQ below (mz_Q SX mz_tM 55 mz_cl dC dI ad en ca none res) args s 0 0 (mz_A ad 55)) (F0 m 9 ls [])) (k : Nat) : ∀ (x2 : Int32) (x3 : Int32) (x4 : Int32) (t : mz_St), f_MO_findLines_44 n K9 k x2 x3 x4 t = some res → ∀ (H : Heap) (locs : List Loc) (ls : Array Slot), mz_Wd mz_tM 55 mz_cl dC dI ad en ca s t H locs → lv_has ls 5 [(0, .ref (ad 0)), (2, .int x2), (3, .int x3), (4, .int x4)] → W p l e (r_MO_findLines) s m args below meth c H locs 0 0 (MQ below (mz_Q SX mz_tM 55 mz_cl dC dI ad en ca none res) args s 0 0 (mz_A ad 55)) (F0 m 44 ls []) := by
  obtain ⟨hx, hb, hml, hown, hcx, -, -, hSX, -, -, hSK⟩ := id E
  induction k with
  | zero => intro x2 x3 x4 t hf; exact absurd hf (by unfold f_MO_findLines_44; exact fun h => nomatch h)
  | succ k ih =>
    intro x2 x3 x4 t hf H locs ls w hl
    unfold f_MO_findLines_44 at hf
    refine lv_iload hx hb d_MO_findLines_44 (lv_at hl 3 rfl) ?_
    refine lv_iload_n hx hb d_MO_findLines_46 rfl (lv_at hl 1 rfl) ?_
    refine lv_icmp_ge (tgt := 68) hx hb d_MO_findLines_47 (by decide) (fun hc4 => ?_) (fun hc4 => ?_)
    · have hf := mz_t hc4 hf
      exact b_MO_findLines_68 E n K9 hK9 n x2 x3 x4 t hf _ _ _ w (lv_sub hl [0, 1, 2, 3] rfl)
    · have hf := mz_f hc4 hf
      refine lv_aload_n hx hb d_MO_findLines_50 rfl (lv_at hl 0 rfl) ?_
      refine mz_get E w 0 1 (v := .ref (ad 1)) (by decide) rfl rfl ii_11 (by decide) (Nat.le_of_ble_eq_true rfl) k_1184 rfl d_MO_findLines_51 ?_
      refine lv_iload hx hb d_MO_findLines_54 (lv_at hl 3 rfl) ?_
      obtain ⟨hi16, hf⟩ := mz_gd hf
      refine mz_iald E w 1 (by decide) rfl hi16 d_MO_findLines_56 ?_
      refine lv_bipush (v := (35 : Int32)) hx hb d_MO_findLines_57 (by decide) ?_
      refine lv_icmp_eq (tgt := 68) hx hb d_MO_findLines_59 (by decide) (fun hc17 => ?_) (fun hc17 => ?_)
      · have hf := mz_t hc17 hf
        exact b_MO_findLines_68 E n K9 hK9 n x2 x3 x4 t hf _ _ _ w (lv_sub hl [0, 1, 2, 3] rfl)
      · have hf := mz_f hc17 hf
        refine lv_iinc (v := (x4 + (1 : Int32))) (lv' := [(4, .int (x4 + (1 : Int32))), (0, .ref (ad 0)), (2, .int x2), (3, .int x3)]) hx hb d_MO_findLines_62 hl (k := 3) rfl rfl (by decide) rfl (fun ls hl => ?_)
        refine lv_goto (tgt := 44) hx hb d_MO_findLines_65 (by decide) ?_
        exact ih x2 x3 (x4 + (1 : Int32)) t hf _ _ _ w (lv_sub hl [1, 2, 3, 0] rfl)
set_option maxRecDepth 100000 in
set_option maxHeartbeats 4000000 in
theorem b_MO_findLines_39 {SX : State → Heap → Prop} {dC : Nat → ClassId} {dI : Nat → Nat → Nat} {ad en : Nat → Nat} {ca : Nat → ClassId} {p : Program} {l : Launch} {e : Env} {s : State} {m : MethodId} {args : Array Value} {below : List Frame} {meth : Method} {c : Code} {res : mz_St} (E : mz_En SX 55 mz_cl dC dI ad ca p s m meth c prog_15_method_7_code 5 "MacroHouseModel" none) (n : Nat) (K9 : Int32 → Int32 → mz_St → Option mz_St) (hK9 : ∀ (x1 : Int32) (x2 : Int32) (t : mz_St), K9 x1 x2 t = some res → ∀ (H : Heap) (locs : List Loc) (ls : Array Slot), mz_Wd mz_tM 55 mz_cl dC dI ad en ca s t H locs → lv_has ls 5 [(0, .ref (ad 0)), (1, .int x1), (2, .int x2)] → W p l e (r_MO_findLines) s m args below meth c H locs 0 0 (MQ below (mz_Q SX mz_tM 55 mz_cl dC dI ad en ca none res) args s 0 0 (mz_A ad 55)) (F0 m 9 ls [])) : ∀ (x1 : Int32) (x2 : Int32) (t : mz_St), f_MO_findLines_39 n K9 x1 x2 t = some res → ∀ (H : Heap) (locs : List Loc) (ls : Array Slot), mz_Wd mz_tM 55 mz_cl dC dI ad en ca s t H locs → lv_has ls 5 [(0, .ref (ad 0)), (1, .int x1), (2, .int x2)] → W p l e (r_MO_findLines) s m args below meth c H locs 0 0 (MQ below (mz_Q SX mz_tM 55 mz_cl dC dI ad en ca none res) args s 0 0 (mz_A ad 55)) (F0 m 39 ls []) := by
  obtain ⟨hx, hb, hml, hown, hcx, -, -, hSX, -, -, hSK⟩ := id E
  intro x1 x2 t hf H locs ls w hl
  unfold f_MO_findLines_39 at hf
  refine lv_iload_n hx hb d_MO_findLines_39 rfl (lv_at hl 1 rfl) ?_
  refine lv_istore_n (lv' := [(3, .int x1), (0, .ref (ad 0)), (1, .int x1), (2, .int x2)]) hx hb d_MO_findLines_40 rfl hl (by decide) rfl (fun ls hl => ?_)
  refine lv_iload_n hx hb d_MO_findLines_41 rfl (lv_at hl 2 rfl) ?_
  refine lv_istore (lv' := [(4, .int x1), (3, .int x1), (0, .ref (ad 0)), (1, .int x1), (2, .int x2)]) hx hb d_MO_findLines_42 hl (by decide) rfl (fun ls hl => ?_)
  exact b_MO_findLines_44 E n K9 hK9 n x2 x1 x1 t hf _ _ _ w (lv_sub hl [2, 4, 1, 0] rfl)
set_option maxRecDepth 100000 in
set_option maxHeartbeats 4000000 in
theorem b_MO_findLines_9 {SX : State → Heap → Prop} {dC : Nat → ClassId} {dI : Nat → Nat → Nat} {ad en : Nat → Nat} {ca : Nat → ClassId} {p : Program} {l : Launch} {e : Env} {s : State} {m : MethodId} {args : Array Value} {below : List Frame} {meth : Method} {c : Code} {res : mz_St} (E : mz_En SX 55 mz_cl dC dI ad ca p s m meth c prog_15_method_7_code 5 "MacroHouseModel" none) (n : Nat) (k : Nat) : ∀ (x1 : Int32) (x2 : Int32) (t : mz_St), f_MO_findLines_9 n k x1 x2 t = some res → ∀ (H : Heap) (locs : List Loc) (ls : Array Slot), mz_Wd mz_tM 55 mz_cl dC dI ad en ca s t H locs → lv_has ls 5 [(0, .ref (ad 0)), (1, .int x1), (2, .int x2)] → W p l e (r_MO_findLines) s m args below meth c H locs 0 0 (MQ below (mz_Q SX mz_tM 55 mz_cl dC dI ad en ca none res) args s 0 0 (mz_A ad 55)) (F0 m 9 ls []) := by
  obtain ⟨hx, hb, hml, hown, hcx, -, -, hSX, -, -, hSK⟩ := id E
  induction k with
  | zero => intro x1 x2 t hf; exact absurd hf (by unfold f_MO_findLines_9; exact fun h => nomatch h)
  | succ k ih =>
    intro x1 x2 t hf H locs ls w hl
    unfold f_MO_findLines_9 at hf
    refine lv_iload_n hx hb d_MO_findLines_9 rfl (lv_at hl 2 rfl) ?_
    refine lv_aload_n hx hb d_MO_findLines_10 rfl (lv_at hl 0 rfl) ?_
    refine mz_get E w 0 2 (v := .int (mz_gI t 0 2)) (by decide) rfl rfl ii_11 (by decide) (Nat.le_of_ble_eq_true rfl) k_1185 rfl d_MO_findLines_11 ?_
    refine lv_icmp_gt (tgt := 158) hx hb d_MO_findLines_14 (by decide) (fun hc2 => ?_) (fun hc2 => ?_)
    · have hf := mz_t hc2 hf
      obtain rfl := Option.some.inj hf
      exact mz_vret E w rfl d_MO_findLines_158
    · have hf := mz_f hc2 hf
      refine lv_iload_n hx hb d_MO_findLines_17 rfl (lv_at hl 2 rfl) ?_
      refine lv_aload_n hx hb d_MO_findLines_18 rfl (lv_at hl 0 rfl) ?_
      refine mz_get E w 0 2 (v := .int (mz_gI t 0 2)) (by decide) rfl rfl ii_11 (by decide) (Nat.le_of_ble_eq_true rfl) k_1185 rfl d_MO_findLines_19 ?_
      refine lv_icmp_ge (tgt := 39) hx hb d_MO_findLines_22 (by decide) (fun hc3 => ?_) (fun hc3 => ?_)
      · have hf := mz_t hc3 hf
        exact b_MO_findLines_39 E n (f_MO_findLines_9 n k) ih x1 x2 t hf _ _ _ w (lv_sub hl [0, 1, 2] rfl)
      · have hf := mz_f hc3 hf
        refine lv_aload_n hx hb d_MO_findLines_25 rfl (lv_at hl 0 rfl) ?_
        refine mz_get E w 0 1 (v := .ref (ad 1)) (by decide) rfl rfl ii_11 (by decide) (Nat.le_of_ble_eq_true rfl) k_1184 rfl d_MO_findLines_26 ?_
        refine lv_iload_n hx hb d_MO_findLines_29 rfl (lv_at hl 2 rfl) ?_
        obtain ⟨hi18, hf⟩ := mz_gd hf
        refine mz_iald E w 1 (by decide) rfl hi18 d_MO_findLines_30 ?_
        refine lv_bipush (v := (10 : Int32)) hx hb d_MO_findLines_31 (by decide) ?_
        refine lv_icmp_eq (tgt := 39) hx hb d_MO_findLines_33 (by decide) (fun hc19 => ?_) (fun hc19 => ?_)
        · have hf := mz_t hc19 hf
          exact b_MO_findLines_39 E n (f_MO_findLines_9 n k) ih x1 x2 t hf _ _ _ w (lv_sub hl [0, 1, 2] rfl)
        · have hf := mz_f hc19 hf
          refine lv_goto (tgt := 152) hx hb d_MO_findLines_36 (by decide) ?_
          exact b_MO_findLines_152 E n (f_MO_findLines_9 n k) ih x1 x2 t hf _ _ _ w (lv_sub hl [0, 1, 2] rfl)
set_option maxRecDepth 100000 in
set_option maxHeartbeats 4000000 in
theorem c_MO_findLines {SX : State → Heap → Prop} {dC : Nat → ClassId} {dI : Nat → Nat → Nat} {ad en : Nat → Nat} {ca : Nat → ClassId} (hSK : mz_SK SX ad 55) (l : Launch) (n : Nat) (t : mz_St) (res : mz_St) (hf : f_MO_findLines n t = some res) : mz_C SX mz_tM 55 mz_cl dC dI ad en ca l y_MO_findLines prog_15_method_7_code 5 none (r_MO_findLines) [.ref (ad 0)] t none res := by
  unfold f_MO_findLines at hf
  refine mz_met hSK (by decide) (Nat.le_of_ble_eq_true rfl) ?_
  intro p e s m args below meth c ls E w hl
  obtain ⟨hx, hb, hml, hown, hcx, -, -, hSX, -, -, -⟩ := id E
  have hl : lv_has ls 5 [(0, .ref (ad 0))] := hl
  refine lv_aload_n hx hb d_MO_findLines_0 rfl (lv_at hl 0 rfl) ?_
  refine lv_iconst (v := (0 : Int32)) hx hb d_MO_findLines_1 (by decide) ?_
  refine mz_put E w 0 3 (v := (0 : Int32)) (by decide) rfl rfl ii_11 tk_11 nm_11 (by decide) (Nat.le_of_ble_eq_true rfl) k_1186 rfl (tk_11 3 (by decide)) rfl rfl rfl d_MO_findLines_2 (fun H locs w => ?_)
  obtain ⟨t1, e_t1, hf⟩ := mz_lt hf
  rw [← e_t1] at w
  refine lv_iconst (v := (0 : Int32)) hx hb d_MO_findLines_5 (by decide) ?_
  refine lv_istore_n (lv' := [(1, .int (0 : Int32)), (0, .ref (ad 0))]) hx hb d_MO_findLines_6 rfl hl (by decide) rfl (fun ls hl => ?_)
  refine lv_iconst (v := (0 : Int32)) hx hb d_MO_findLines_7 (by decide) ?_
  refine lv_istore_n (lv' := [(2, .int (0 : Int32)), (1, .int (0 : Int32)), (0, .ref (ad 0))]) hx hb d_MO_findLines_8 rfl hl (by decide) rfl (fun ls hl => ?_)
  exact b_MO_findLines_9 E n n (0 : Int32) (0 : Int32) t1 hf _ _ _ w (lv_sub hl [2, 1, 0] rfl)

/-! MacroHouseModel.beginFrame(IIIIII)V -/
abbrev r_MO_beginFrame : Room := { frames := 0, cells := 0, slots := 0, locals := 0 }
def f_MO_beginFrame_133 (n : Nat) (s1 : Int32) (t : mz_St) : Option mz_St := mz_let (mz_pI t 0 10 s1) fun t21 => some t21
def f_MO_beginFrame (n : Nat) (x1 : Int32) (x2 : Int32) (x3 : Int32) (x4 : Int32) (x5 : Int32) (x6 : Int32) (t : mz_St) : Option mz_St := if ¬ ((mz_gI t 0 34) < 0 ∨ 14 ≤ (mz_gI t 0 34).toNatClampNeg) then (mz_let (mz_pI t 22 (mz_gI t 0 34).toNatClampNeg x1) fun t2 => if ¬ ((mz_gI t2 0 34) < 0 ∨ 14 ≤ (mz_gI t2 0 34).toNatClampNeg) then (mz_let (mz_pI t2 23 (mz_gI t2 0 34).toNatClampNeg x2) fun t4 => if ¬ ((mz_gI t4 0 34) < 0 ∨ 14 ≤ (mz_gI t4 0 34).toNatClampNeg) then (mz_let (mz_pI t4 24 (mz_gI t4 0 34).toNatClampNeg x3) fun t6 => if ¬ ((mz_gI t6 0 34) < 0 ∨ 14 ≤ (mz_gI t6 0 34).toNatClampNeg) then (mz_let (mz_pI t6 25 (mz_gI t6 0 34).toNatClampNeg x2) fun t8 => if ¬ ((mz_gI t8 0 34) < 0 ∨ 14 ≤ (mz_gI t8 0 34).toNatClampNeg) then (mz_let (mz_pI t8 26 (mz_gI t8 0 34).toNatClampNeg x4) fun t10 => if ¬ ((mz_gI t10 0 34) < 0 ∨ 14 ≤ (mz_gI t10 0 34).toNatClampNeg) then (mz_let (mz_pI t10 27 (mz_gI t10 0 34).toNatClampNeg (0 : Int32)) fun t12 => if ¬ ((mz_gI t12 0 34) < 0 ∨ 14 ≤ (mz_gI t12 0 34).toNatClampNeg) then (mz_let (mz_pI t12 30 (mz_gI t12 0 34).toNatClampNeg (mz_gI t12 0 53)) fun t14 => if ¬ ((mz_gI t14 0 34) < 0 ∨ 14 ≤ (mz_gI t14 0 34).toNatClampNeg) then (mz_let (mz_pI t14 31 (mz_gI t14 0 34).toNatClampNeg x5) fun t16 => if ¬ ((mz_gI t16 0 34) < 0 ∨ 14 ≤ (mz_gI t16 0 34).toNatClampNeg) then (mz_let (mz_pI t16 32 (mz_gI t16 0 34).toNatClampNeg x6) fun t18 => mz_let (mz_pI t18 0 34 ((mz_gI t18 0 34) + (1 : Int32))) fun t19 => if ((mz_gI t19 0 34) - (1 : Int32)) ≤ (mz_gI t19 0 10) then (f_MO_beginFrame_133 n (mz_gI t19 0 10) t19) else (f_MO_beginFrame_133 n ((mz_gI t19 0 34) - (1 : Int32)) t19)) else none) else none) else none) else none) else none) else none) else none) else none) else none
set_option maxRecDepth 100000 in
set_option maxHeartbeats 4000000 in
theorem b_MO_beginFrame_133 {SX : State → Heap → Prop} {dC : Nat → ClassId} {dI : Nat → Nat → Nat} {ad en : Nat → Nat} {ca : Nat → ClassId} {p : Program} {l : Launch} {e : Env} {s : State} {m : MethodId} {args : Array Value} {below : List Frame} {meth : Method} {c : Code} {res : mz_St} (E : mz_En SX 55 mz_cl dC dI ad ca p s m meth c prog_15_method_40_code 7 "MacroHouseModel" none) (n : Nat) : ∀ (s1 : Int32) (t : mz_St), f_MO_beginFrame_133 n s1 t = some res → ∀ (H : Heap) (locs : List Loc) (ls : Array Slot), mz_Wd mz_tM 55 mz_cl dC dI ad en ca s t H locs → lv_has ls 7 [] → W p l e (r_MO_beginFrame) s m args below meth c H locs 0 0 (MQ below (mz_Q SX mz_tM 55 mz_cl dC dI ad en ca none res) args s 0 0 (mz_A ad 55)) (F0 m 133 ls [.int s1, .ref (ad 0)]) := by
  obtain ⟨hx, hb, hml, hown, hcx, -, -, hSX, -, -, hSK⟩ := id E
  intro s1 t hf H locs ls w hl
  unfold f_MO_beginFrame_133 at hf
  refine mz_put E w 0 10 (v := s1) (by decide) rfl rfl ii_11 tk_11 nm_11 (by decide) (Nat.le_of_ble_eq_true rfl) k_1193 rfl (tk_11 10 (by decide)) rfl rfl rfl d_MO_beginFrame_133 (fun H locs w => ?_)
  obtain ⟨t21, e_t21, hf⟩ := mz_lt hf
  rw [← e_t21] at w
  obtain rfl := Option.some.inj hf
  exact mz_vret E w rfl d_MO_beginFrame_136
set_option maxRecDepth 100000 in
set_option maxHeartbeats 4000000 in
theorem c_MO_beginFrame {SX : State → Heap → Prop} {dC : Nat → ClassId} {dI : Nat → Nat → Nat} {ad en : Nat → Nat} {ca : Nat → ClassId} (hSK : mz_SK SX ad 55) (l : Launch) (n : Nat) (x1 : Int32) (x2 : Int32) (x3 : Int32) (x4 : Int32) (x5 : Int32) (x6 : Int32) (t : mz_St) (res : mz_St) (hf : f_MO_beginFrame n x1 x2 x3 x4 x5 x6 t = some res) : mz_C SX mz_tM 55 mz_cl dC dI ad en ca l y_MO_beginFrame prog_15_method_40_code 7 none (r_MO_beginFrame) [.ref (ad 0), .int x1, .int x2, .int x3, .int x4, .int x5, .int x6] t none res := by
  unfold f_MO_beginFrame at hf
  refine mz_met hSK (by decide) (Nat.le_of_ble_eq_true rfl) ?_
  intro p e s m args below meth c ls E w hl
  obtain ⟨hx, hb, hml, hown, hcx, -, -, hSX, -, -, -⟩ := id E
  have hl : lv_has ls 7 [(0, .ref (ad 0)), (1, .int x1), (2, .int x2), (3, .int x3), (4, .int x4), (5, .int x5), (6, .int x6)] := hl
  refine lv_aload_n hx hb d_MO_beginFrame_0 rfl (lv_at hl 0 rfl) ?_
  refine mz_get E w 0 35 (v := .ref (ad 22)) (by decide) rfl rfl ii_11 (by decide) (Nat.le_of_ble_eq_true rfl) k_1218 rfl d_MO_beginFrame_1 ?_
  refine lv_aload_n hx hb d_MO_beginFrame_4 rfl (lv_at hl 0 rfl) ?_
  refine mz_get E w 0 34 (v := .int (mz_gI t 0 34)) (by decide) rfl rfl ii_11 (by decide) (Nat.le_of_ble_eq_true rfl) k_1217 rfl d_MO_beginFrame_5 ?_
  refine lv_iload_n hx hb d_MO_beginFrame_8 rfl (lv_at hl 1 rfl) ?_
  obtain ⟨hi1, hf⟩ := mz_gd hf
  refine mz_iast E w 22 (x := x1) (by decide) rfl hi1 d_MO_beginFrame_9 (fun H locs w => ?_)
  obtain ⟨t2, e_t2, hf⟩ := mz_lt hf
  rw [← e_t2] at w
  refine lv_aload_n hx hb d_MO_beginFrame_10 rfl (lv_at hl 0 rfl) ?_
  refine mz_get E w 0 36 (v := .ref (ad 23)) (by decide) rfl rfl ii_11 (by decide) (Nat.le_of_ble_eq_true rfl) k_1219 rfl d_MO_beginFrame_11 ?_
  refine lv_aload_n hx hb d_MO_beginFrame_14 rfl (lv_at hl 0 rfl) ?_
  refine mz_get E w 0 34 (v := .int (mz_gI t2 0 34)) (by decide) rfl rfl ii_11 (by decide) (Nat.le_of_ble_eq_true rfl) k_1217 rfl d_MO_beginFrame_15 ?_
  refine lv_iload_n hx hb d_MO_beginFrame_18 rfl (lv_at hl 2 rfl) ?_
  obtain ⟨hi3, hf⟩ := mz_gd hf
  refine mz_iast E w 23 (x := x2) (by decide) rfl hi3 d_MO_beginFrame_19 (fun H locs w => ?_)
  obtain ⟨t4, e_t4, hf⟩ := mz_lt hf
  rw [← e_t4] at w
  refine lv_aload_n hx hb d_MO_beginFrame_20 rfl (lv_at hl 0 rfl) ?_
  refine mz_get E w 0 37 (v := .ref (ad 24)) (by decide) rfl rfl ii_11 (by decide) (Nat.le_of_ble_eq_true rfl) k_1220 rfl d_MO_beginFrame_21 ?_
  refine lv_aload_n hx hb d_MO_beginFrame_24 rfl (lv_at hl 0 rfl) ?_
  refine mz_get E w 0 34 (v := .int (mz_gI t4 0 34)) (by decide) rfl rfl ii_11 (by decide) (Nat.le_of_ble_eq_true rfl) k_1217 rfl d_MO_beginFrame_25 ?_
  refine lv_iload_n hx hb d_MO_beginFrame_28 rfl (lv_at hl 3 rfl) ?_
  obtain ⟨hi5, hf⟩ := mz_gd hf
  refine mz_iast E w 24 (x := x3) (by decide) rfl hi5 d_MO_beginFrame_29 (fun H locs w => ?_)
  obtain ⟨t6, e_t6, hf⟩ := mz_lt hf
  rw [← e_t6] at w
  refine lv_aload_n hx hb d_MO_beginFrame_30 rfl (lv_at hl 0 rfl) ?_
  refine mz_get E w 0 38 (v := .ref (ad 25)) (by decide) rfl rfl ii_11 (by decide) (Nat.le_of_ble_eq_true rfl) k_1221 rfl d_MO_beginFrame_31 ?_
  refine lv_aload_n hx hb d_MO_beginFrame_34 rfl (lv_at hl 0 rfl) ?_
  refine mz_get E w 0 34 (v := .int (mz_gI t6 0 34)) (by decide) rfl rfl ii_11 (by decide) (Nat.le_of_ble_eq_true rfl) k_1217 rfl d_MO_beginFrame_35 ?_
  refine lv_iload_n hx hb d_MO_beginFrame_38 rfl (lv_at hl 2 rfl) ?_
  obtain ⟨hi7, hf⟩ := mz_gd hf
  refine mz_iast E w 25 (x := x2) (by decide) rfl hi7 d_MO_beginFrame_39 (fun H locs w => ?_)
  obtain ⟨t8, e_t8, hf⟩ := mz_lt hf
  rw [← e_t8] at w
  refine lv_aload_n hx hb d_MO_beginFrame_40 rfl (lv_at hl 0 rfl) ?_
  refine mz_get E w 0 39 (v := .ref (ad 26)) (by decide) rfl rfl ii_11 (by decide) (Nat.le_of_ble_eq_true rfl) k_1222 rfl d_MO_beginFrame_41 ?_
  refine lv_aload_n hx hb d_MO_beginFrame_44 rfl (lv_at hl 0 rfl) ?_
  refine mz_get E w 0 34 (v := .int (mz_gI t8 0 34)) (by decide) rfl rfl ii_11 (by decide) (Nat.le_of_ble_eq_true rfl) k_1217 rfl d_MO_beginFrame_45 ?_
  refine lv_iload hx hb d_MO_beginFrame_48 (lv_at hl 4 rfl) ?_
  obtain ⟨hi9, hf⟩ := mz_gd hf
  refine mz_iast E w 26 (x := x4) (by decide) rfl hi9 d_MO_beginFrame_50 (fun H locs w => ?_)
  obtain ⟨t10, e_t10, hf⟩ := mz_lt hf
  rw [← e_t10] at w
  refine lv_aload_n hx hb d_MO_beginFrame_51 rfl (lv_at hl 0 rfl) ?_
  refine mz_get E w 0 40 (v := .ref (ad 27)) (by decide) rfl rfl ii_11 (by decide) (Nat.le_of_ble_eq_true rfl) k_1223 rfl d_MO_beginFrame_52 ?_
  refine lv_aload_n hx hb d_MO_beginFrame_55 rfl (lv_at hl 0 rfl) ?_
  refine mz_get E w 0 34 (v := .int (mz_gI t10 0 34)) (by decide) rfl rfl ii_11 (by decide) (Nat.le_of_ble_eq_true rfl) k_1217 rfl d_MO_beginFrame_56 ?_
  refine lv_iconst (v := (0 : Int32)) hx hb d_MO_beginFrame_59 (by decide) ?_
  obtain ⟨hi11, hf⟩ := mz_gd hf
  refine mz_iast E w 27 (x := (0 : Int32)) (by decide) rfl hi11 d_MO_beginFrame_60 (fun H locs w => ?_)
  obtain ⟨t12, e_t12, hf⟩ := mz_lt hf
  rw [← e_t12] at w
  refine lv_aload_n hx hb d_MO_beginFrame_61 rfl (lv_at hl 0 rfl) ?_
  refine mz_get E w 0 43 (v := .ref (ad 30)) (by decide) rfl rfl ii_11 (by decide) (Nat.le_of_ble_eq_true rfl) k_1226 rfl d_MO_beginFrame_62 ?_
  refine lv_aload_n hx hb d_MO_beginFrame_65 rfl (lv_at hl 0 rfl) ?_
  refine mz_get E w 0 34 (v := .int (mz_gI t12 0 34)) (by decide) rfl rfl ii_11 (by decide) (Nat.le_of_ble_eq_true rfl) k_1217 rfl d_MO_beginFrame_66 ?_
  refine lv_aload_n hx hb d_MO_beginFrame_69 rfl (lv_at hl 0 rfl) ?_
  refine mz_get E w 0 53 (v := .int (mz_gI t12 0 53)) (by decide) rfl rfl ii_11 (by decide) (Nat.le_of_ble_eq_true rfl) k_1236 rfl d_MO_beginFrame_70 ?_
  obtain ⟨hi13, hf⟩ := mz_gd hf
  refine mz_iast E w 30 (x := (mz_gI t12 0 53)) (by decide) rfl hi13 d_MO_beginFrame_73 (fun H locs w => ?_)
  obtain ⟨t14, e_t14, hf⟩ := mz_lt hf
  rw [← e_t14] at w
  refine lv_aload_n hx hb d_MO_beginFrame_74 rfl (lv_at hl 0 rfl) ?_
  refine mz_get E w 0 44 (v := .ref (ad 31)) (by decide) rfl rfl ii_11 (by decide) (Nat.le_of_ble_eq_true rfl) k_1227 rfl d_MO_beginFrame_75 ?_
  refine lv_aload_n hx hb d_MO_beginFrame_78 rfl (lv_at hl 0 rfl) ?_
  refine mz_get E w 0 34 (v := .int (mz_gI t14 0 34)) (by decide) rfl rfl ii_11 (by decide) (Nat.le_of_ble_eq_true rfl) k_1217 rfl d_MO_beginFrame_79 ?_
  refine lv_iload hx hb d_MO_beginFrame_82 (lv_at hl 5 rfl) ?_
  obtain ⟨hi15, hf⟩ := mz_gd hf
  refine mz_iast E w 31 (x := x5) (by decide) rfl hi15 d_MO_beginFrame_84 (fun H locs w => ?_)
  obtain ⟨t16, e_t16, hf⟩ := mz_lt hf
  rw [← e_t16] at w
  refine lv_aload_n hx hb d_MO_beginFrame_85 rfl (lv_at hl 0 rfl) ?_
  refine mz_get E w 0 45 (v := .ref (ad 32)) (by decide) rfl rfl ii_11 (by decide) (Nat.le_of_ble_eq_true rfl) k_1228 rfl d_MO_beginFrame_86 ?_
  refine lv_aload_n hx hb d_MO_beginFrame_89 rfl (lv_at hl 0 rfl) ?_
  refine mz_get E w 0 34 (v := .int (mz_gI t16 0 34)) (by decide) rfl rfl ii_11 (by decide) (Nat.le_of_ble_eq_true rfl) k_1217 rfl d_MO_beginFrame_90 ?_
  refine lv_iload hx hb d_MO_beginFrame_93 (lv_at hl 6 rfl) ?_
  obtain ⟨hi17, hf⟩ := mz_gd hf
  refine mz_iast E w 32 (x := x6) (by decide) rfl hi17 d_MO_beginFrame_95 (fun H locs w => ?_)
  obtain ⟨t18, e_t18, hf⟩ := mz_lt hf
  rw [← e_t18] at w
  refine lv_aload_n hx hb d_MO_beginFrame_96 rfl (lv_at hl 0 rfl) ?_
  refine lv_dup hx hb d_MO_beginFrame_97 rfl ?_
  refine mz_get E w 0 34 (v := .int (mz_gI t18 0 34)) (by decide) rfl rfl ii_11 (by decide) (Nat.le_of_ble_eq_true rfl) k_1217 rfl d_MO_beginFrame_98 ?_
  refine lv_iconst (v := (1 : Int32)) hx hb d_MO_beginFrame_101 (by decide) ?_
  refine lv_iadd hx hb d_MO_beginFrame_102 ?_
  refine mz_put E w 0 34 (v := ((mz_gI t18 0 34) + (1 : Int32))) (by decide) rfl rfl ii_11 tk_11 nm_11 (by decide) (Nat.le_of_ble_eq_true rfl) k_1217 rfl (tk_11 34 (by decide)) rfl rfl rfl d_MO_beginFrame_103 (fun H locs w => ?_)
  obtain ⟨t19, e_t19, hf⟩ := mz_lt hf
  rw [← e_t19] at w
  refine lv_aload_n hx hb d_MO_beginFrame_106 rfl (lv_at hl 0 rfl) ?_
  refine lv_aload_n hx hb d_MO_beginFrame_107 rfl (lv_at hl 0 rfl) ?_
  refine mz_get E w 0 34 (v := .int (mz_gI t19 0 34)) (by decide) rfl rfl ii_11 (by decide) (Nat.le_of_ble_eq_true rfl) k_1217 rfl d_MO_beginFrame_108 ?_
  refine lv_iconst (v := (1 : Int32)) hx hb d_MO_beginFrame_111 (by decide) ?_
  refine lv_isub hx hb d_MO_beginFrame_112 ?_
  refine lv_aload_n hx hb d_MO_beginFrame_113 rfl (lv_at hl 0 rfl) ?_
  refine mz_get E w 0 10 (v := .int (mz_gI t19 0 10)) (by decide) rfl rfl ii_11 (by decide) (Nat.le_of_ble_eq_true rfl) k_1193 rfl d_MO_beginFrame_114 ?_
  refine lv_icmp_le (tgt := 129) hx hb d_MO_beginFrame_117 (by decide) (fun hc20 => ?_) (fun hc20 => ?_)
  · have hf := mz_t hc20 hf
    refine lv_aload_n hx hb d_MO_beginFrame_129 rfl (lv_at hl 0 rfl) ?_
    refine mz_get E w 0 10 (v := .int (mz_gI t19 0 10)) (by decide) rfl rfl ii_11 (by decide) (Nat.le_of_ble_eq_true rfl) k_1193 rfl d_MO_beginFrame_130 ?_
    exact b_MO_beginFrame_133 E n (mz_gI t19 0 10) t19 hf _ _ _ w (lv_sub hl [] rfl)
  · have hf := mz_f hc20 hf
    refine lv_aload_n hx hb d_MO_beginFrame_120 rfl (lv_at hl 0 rfl) ?_
    refine mz_get E w 0 34 (v := .int (mz_gI t19 0 34)) (by decide) rfl rfl ii_11 (by decide) (Nat.le_of_ble_eq_true rfl) k_1217 rfl d_MO_beginFrame_121 ?_
    refine lv_iconst (v := (1 : Int32)) hx hb d_MO_beginFrame_124 (by decide) ?_
    refine lv_isub hx hb d_MO_beginFrame_125 ?_
    refine lv_goto (tgt := 133) hx hb d_MO_beginFrame_126 (by decide) ?_
    exact b_MO_beginFrame_133 E n ((mz_gI t19 0 34) - (1 : Int32)) t19 hf _ _ _ w (lv_sub hl [] rfl)

/-! MacroHouseModel.fail(II)V -/
abbrev r_MO_fail : Room := { frames := 0, cells := 0, slots := 0, locals := 0 }
def f_MO_fail (n : Nat) (x1 : Int32) (x2 : Int32) (t : mz_St) : Option mz_St := if (mz_gI t 0 6) = 0 then (mz_let (mz_pI t 0 6 x1) fun t2 => mz_let (mz_pI t2 0 7 x2) fun t3 => some t3) else (some t)
set_option maxRecDepth 100000 in
set_option maxHeartbeats 4000000 in
theorem c_MO_fail {SX : State → Heap → Prop} {dC : Nat → ClassId} {dI : Nat → Nat → Nat} {ad en : Nat → Nat} {ca : Nat → ClassId} (hSK : mz_SK SX ad 55) (l : Launch) (n : Nat) (x1 : Int32) (x2 : Int32) (t : mz_St) (res : mz_St) (hf : f_MO_fail n x1 x2 t = some res) : mz_C SX mz_tM 55 mz_cl dC dI ad en ca l y_MO_fail prog_15_method_8_code 3 none (r_MO_fail) [.ref (ad 0), .int x1, .int x2] t none res := by
  unfold f_MO_fail at hf
  refine mz_met hSK (by decide) (Nat.le_of_ble_eq_true rfl) ?_
  intro p e s m args below meth c ls E w hl
  obtain ⟨hx, hb, hml, hown, hcx, -, -, hSX, -, -, -⟩ := id E
  have hl : lv_has ls 3 [(0, .ref (ad 0)), (1, .int x1), (2, .int x2)] := hl
  refine lv_aload_n hx hb d_MO_fail_0 rfl (lv_at hl 0 rfl) ?_
  refine mz_get E w 0 6 (v := .int (mz_gI t 0 6)) (by decide) rfl rfl ii_11 (by decide) (Nat.le_of_ble_eq_true rfl) k_1189 rfl d_MO_fail_1 ?_
  refine lv_if_ne (tgt := 17) hx hb d_MO_fail_4 (by decide) (fun hc1 => ?_) (fun hc1 => ?_)
  · have hf := mz_f hc1 hf
    obtain rfl := Option.some.inj hf
    exact mz_vret E w rfl d_MO_fail_17
  · have hf := mz_t hc1 hf
    refine lv_aload_n hx hb d_MO_fail_7 rfl (lv_at hl 0 rfl) ?_
    refine lv_iload_n hx hb d_MO_fail_8 rfl (lv_at hl 1 rfl) ?_
    refine mz_put E w 0 6 (v := x1) (by decide) rfl rfl ii_11 tk_11 nm_11 (by decide) (Nat.le_of_ble_eq_true rfl) k_1189 rfl (tk_11 6 (by decide)) rfl rfl rfl d_MO_fail_9 (fun H locs w => ?_)
    obtain ⟨t2, e_t2, hf⟩ := mz_lt hf
    rw [← e_t2] at w
    refine lv_aload_n hx hb d_MO_fail_12 rfl (lv_at hl 0 rfl) ?_
    refine lv_iload_n hx hb d_MO_fail_13 rfl (lv_at hl 2 rfl) ?_
    refine mz_put E w 0 7 (v := x2) (by decide) rfl rfl ii_11 tk_11 nm_11 (by decide) (Nat.le_of_ble_eq_true rfl) k_1190 rfl (tk_11 7 (by decide)) rfl rfl rfl d_MO_fail_14 (fun H locs w => ?_)
    obtain ⟨t3, e_t3, hf⟩ := mz_lt hf
    rw [← e_t3] at w
    obtain rfl := Option.some.inj hf
    exact mz_vret E w rfl d_MO_fail_17

/-! MacroHouseModel.endFrame()V -/
abbrev r_MO_endFrame : Room := { frames := 0, cells := 0, slots := 0, locals := 0 }
def f_MO_endFrame (n : Nat) (t : mz_St) : Option mz_St := mz_let (mz_pI t 0 34 ((mz_gI t 0 34) - (1 : Int32))) fun t1 => if ¬ ((mz_gI t1 0 34) < 0 ∨ 14 ≤ (mz_gI t1 0 34).toNatClampNeg) then (mz_let (mz_pI t1 0 48 (mz_gI t1 31 (mz_gI t1 0 34).toNatClampNeg)) fun t3 => if ¬ ((mz_gI t3 0 34) < 0 ∨ 14 ≤ (mz_gI t3 0 34).toNatClampNeg) then (mz_let (mz_pI t3 0 51 (mz_gI t3 32 (mz_gI t3 0 34).toNatClampNeg)) fun t5 => some t5) else none) else none
set_option maxRecDepth 100000 in
set_option maxHeartbeats 4000000 in
theorem c_MO_endFrame {SX : State → Heap → Prop} {dC : Nat → ClassId} {dI : Nat → Nat → Nat} {ad en : Nat → Nat} {ca : Nat → ClassId} (hSK : mz_SK SX ad 55) (l : Launch) (n : Nat) (t : mz_St) (res : mz_St) (hf : f_MO_endFrame n t = some res) : mz_C SX mz_tM 55 mz_cl dC dI ad en ca l y_MO_endFrame prog_15_method_41_code 1 none (r_MO_endFrame) [.ref (ad 0)] t none res := by
  unfold f_MO_endFrame at hf
  refine mz_met hSK (by decide) (Nat.le_of_ble_eq_true rfl) ?_
  intro p e s m args below meth c ls E w hl
  obtain ⟨hx, hb, hml, hown, hcx, -, -, hSX, -, -, -⟩ := id E
  have hl : lv_has ls 1 [(0, .ref (ad 0))] := hl
  refine lv_aload_n hx hb d_MO_endFrame_0 rfl (lv_at hl 0 rfl) ?_
  refine lv_dup hx hb d_MO_endFrame_1 rfl ?_
  refine mz_get E w 0 34 (v := .int (mz_gI t 0 34)) (by decide) rfl rfl ii_11 (by decide) (Nat.le_of_ble_eq_true rfl) k_1217 rfl d_MO_endFrame_2 ?_
  refine lv_iconst (v := (1 : Int32)) hx hb d_MO_endFrame_5 (by decide) ?_
  refine lv_isub hx hb d_MO_endFrame_6 ?_
  refine mz_put E w 0 34 (v := ((mz_gI t 0 34) - (1 : Int32))) (by decide) rfl rfl ii_11 tk_11 nm_11 (by decide) (Nat.le_of_ble_eq_true rfl) k_1217 rfl (tk_11 34 (by decide)) rfl rfl rfl d_MO_endFrame_7 (fun H locs w => ?_)
  obtain ⟨t1, e_t1, hf⟩ := mz_lt hf
  rw [← e_t1] at w
  refine lv_aload_n hx hb d_MO_endFrame_10 rfl (lv_at hl 0 rfl) ?_
  refine lv_aload_n hx hb d_MO_endFrame_11 rfl (lv_at hl 0 rfl) ?_
  refine mz_get E w 0 44 (v := .ref (ad 31)) (by decide) rfl rfl ii_11 (by decide) (Nat.le_of_ble_eq_true rfl) k_1227 rfl d_MO_endFrame_12 ?_
  refine lv_aload_n hx hb d_MO_endFrame_15 rfl (lv_at hl 0 rfl) ?_
  refine mz_get E w 0 34 (v := .int (mz_gI t1 0 34)) (by decide) rfl rfl ii_11 (by decide) (Nat.le_of_ble_eq_true rfl) k_1217 rfl d_MO_endFrame_16 ?_
  obtain ⟨hi2, hf⟩ := mz_gd hf
  refine mz_iald E w 31 (by decide) rfl hi2 d_MO_endFrame_19 ?_
  refine mz_put E w 0 48 (v := (mz_gI t1 31 (mz_gI t1 0 34).toNatClampNeg)) (by decide) rfl rfl ii_11 tk_11 nm_11 (by decide) (Nat.le_of_ble_eq_true rfl) k_1231 rfl (tk_11 48 (by decide)) rfl rfl rfl d_MO_endFrame_20 (fun H locs w => ?_)
  obtain ⟨t3, e_t3, hf⟩ := mz_lt hf
  rw [← e_t3] at w
  refine lv_aload_n hx hb d_MO_endFrame_23 rfl (lv_at hl 0 rfl) ?_
  refine lv_aload_n hx hb d_MO_endFrame_24 rfl (lv_at hl 0 rfl) ?_
  refine mz_get E w 0 45 (v := .ref (ad 32)) (by decide) rfl rfl ii_11 (by decide) (Nat.le_of_ble_eq_true rfl) k_1228 rfl d_MO_endFrame_25 ?_
  refine lv_aload_n hx hb d_MO_endFrame_28 rfl (lv_at hl 0 rfl) ?_
  refine mz_get E w 0 34 (v := .int (mz_gI t3 0 34)) (by decide) rfl rfl ii_11 (by decide) (Nat.le_of_ble_eq_true rfl) k_1217 rfl d_MO_endFrame_29 ?_
  obtain ⟨hi4, hf⟩ := mz_gd hf
  refine mz_iald E w 32 (by decide) rfl hi4 d_MO_endFrame_32 ?_
  refine mz_put E w 0 51 (v := (mz_gI t3 32 (mz_gI t3 0 34).toNatClampNeg)) (by decide) rfl rfl ii_11 tk_11 nm_11 (by decide) (Nat.le_of_ble_eq_true rfl) k_1234 rfl (tk_11 51 (by decide)) rfl rfl rfl d_MO_endFrame_33 (fun H locs w => ?_)
  obtain ⟨t5, e_t5, hf⟩ := mz_lt hf
  rw [← e_t5] at w
  obtain rfl := Option.some.inj hf
  exact mz_vret E w rfl d_MO_endFrame_36

/-! MacroHouseModel.atEnd(I)V -/
abbrev r_MO_atEnd : Room := { frames := 1, cells := 0, slots := 0, locals := 22 }
def f_MO_atEnd (n : Nat) (x1 : Int32) (t : mz_St) : Option mz_St := if ¬ (x1 < 0 ∨ 14 ≤ x1.toNatClampNeg) then (if (mz_gI t 0 53) = (mz_gI t 30 x1.toNatClampNeg) then (if ¬ (x1 < 0 ∨ 14 ≤ x1.toNatClampNeg) then (if ¬ (x1 < 0 ∨ 14 ≤ x1.toNatClampNeg) then (mz_let (mz_pI t 26 x1.toNatClampNeg ((mz_gI t 26 x1.toNatClampNeg) - (1 : Int32))) fun t5 => if ¬ (x1 < 0 ∨ 14 ≤ x1.toNatClampNeg) then (if ¬ (x1 < 0 ∨ 14 ≤ x1.toNatClampNeg) then (mz_let (mz_pI t5 27 x1.toNatClampNeg ((mz_gI t5 27 x1.toNatClampNeg) + (1 : Int32))) fun t8 => if ¬ (x1 < 0 ∨ 14 ≤ x1.toNatClampNeg) then (if ¬ (x1 < 0 ∨ 14 ≤ x1.toNatClampNeg) then (mz_let (mz_pI t8 25 x1.toNatClampNeg (mz_gI t8 23 x1.toNatClampNeg)) fun t11 => if ¬ (x1 < 0 ∨ 14 ≤ x1.toNatClampNeg) then (if 0 < (mz_gI t11 26 x1.toNatClampNeg) then (some t11) else ((f_MO_endFrame n t11).bind fun q14 => some q14)) else none) else none) else none) else none) else none) else none) else none) else (if ¬ (((mz_gI t 0 53) - (1 : Int32)) < 0 ∨ 9 ≤ ((mz_gI t 0 53) - (1 : Int32)).toNatClampNeg) then ((f_MO_fail n (5 : Int32) (mz_gI t 42 ((mz_gI t 0 53) - (1 : Int32)).toNatClampNeg) t).bind fun q17 => some q17) else none)) else none
set_option maxRecDepth 100000 in
set_option maxHeartbeats 4000000 in
theorem c_MO_atEnd {SX : State → Heap → Prop} {dC : Nat → ClassId} {dI : Nat → Nat → Nat} {ad en : Nat → Nat} {ca : Nat → ClassId} (hSK : mz_SK SX ad 55) (l : Launch) (n : Nat) (x1 : Int32) (t : mz_St) (res : mz_St) (hf : f_MO_atEnd n x1 t = some res) : mz_C SX mz_tM 55 mz_cl dC dI ad en ca l y_MO_atEnd prog_15_method_42_code 2 none (r_MO_atEnd) [.ref (ad 0), .int x1] t none res := by
  unfold f_MO_atEnd at hf
  refine mz_met hSK (by decide) (Nat.le_of_ble_eq_true rfl) ?_
  intro p e s m args below meth c ls E w hl
  obtain ⟨hx, hb, hml, hown, hcx, -, -, hSX, -, -, -⟩ := id E
  have hl : lv_has ls 2 [(0, .ref (ad 0)), (1, .int x1)] := hl
  refine lv_aload_n hx hb d_MO_atEnd_0 rfl (lv_at hl 0 rfl) ?_
  refine mz_get E w 0 53 (v := .int (mz_gI t 0 53)) (by decide) rfl rfl ii_11 (by decide) (Nat.le_of_ble_eq_true rfl) k_1236 rfl d_MO_atEnd_1 ?_
  refine lv_aload_n hx hb d_MO_atEnd_4 rfl (lv_at hl 0 rfl) ?_
  refine mz_get E w 0 43 (v := .ref (ad 30)) (by decide) rfl rfl ii_11 (by decide) (Nat.le_of_ble_eq_true rfl) k_1226 rfl d_MO_atEnd_5 ?_
  refine lv_iload_n hx hb d_MO_atEnd_8 rfl (lv_at hl 1 rfl) ?_
  obtain ⟨hi1, hf⟩ := mz_gd hf
  refine mz_iald E w 30 (by decide) rfl hi1 d_MO_atEnd_9 ?_
  refine lv_icmp_eq (tgt := 30) hx hb d_MO_atEnd_10 (by decide) (fun hc2 => ?_) (fun hc2 => ?_)
  · have hf := mz_t hc2 hf
    refine lv_aload_n hx hb d_MO_atEnd_30 rfl (lv_at hl 0 rfl) ?_
    refine mz_get E w 0 39 (v := .ref (ad 26)) (by decide) rfl rfl ii_11 (by decide) (Nat.le_of_ble_eq_true rfl) k_1222 rfl d_MO_atEnd_31 ?_
    refine lv_iload_n hx hb d_MO_atEnd_34 rfl (lv_at hl 1 rfl) ?_
    refine lv_dup2_11 hx hb d_MO_atEnd_35 rfl rfl ?_
    obtain ⟨hi3, hf⟩ := mz_gd hf
    refine mz_iald E w 26 (by decide) rfl hi3 d_MO_atEnd_36 ?_
    refine lv_iconst (v := (1 : Int32)) hx hb d_MO_atEnd_37 (by decide) ?_
    refine lv_isub hx hb d_MO_atEnd_38 ?_
    obtain ⟨hi4, hf⟩ := mz_gd hf
    refine mz_iast E w 26 (x := ((mz_gI t 26 x1.toNatClampNeg) - (1 : Int32))) (by decide) rfl hi4 d_MO_atEnd_39 (fun H locs w => ?_)
    obtain ⟨t5, e_t5, hf⟩ := mz_lt hf
    rw [← e_t5] at w
    refine lv_aload_n hx hb d_MO_atEnd_40 rfl (lv_at hl 0 rfl) ?_
    refine mz_get E w 0 40 (v := .ref (ad 27)) (by decide) rfl rfl ii_11 (by decide) (Nat.le_of_ble_eq_true rfl) k_1223 rfl d_MO_atEnd_41 ?_
    refine lv_iload_n hx hb d_MO_atEnd_44 rfl (lv_at hl 1 rfl) ?_
    refine lv_dup2_11 hx hb d_MO_atEnd_45 rfl rfl ?_
    obtain ⟨hi6, hf⟩ := mz_gd hf
    refine mz_iald E w 27 (by decide) rfl hi6 d_MO_atEnd_46 ?_
    refine lv_iconst (v := (1 : Int32)) hx hb d_MO_atEnd_47 (by decide) ?_
    refine lv_iadd hx hb d_MO_atEnd_48 ?_
    obtain ⟨hi7, hf⟩ := mz_gd hf
    refine mz_iast E w 27 (x := ((mz_gI t5 27 x1.toNatClampNeg) + (1 : Int32))) (by decide) rfl hi7 d_MO_atEnd_49 (fun H locs w => ?_)
    obtain ⟨t8, e_t8, hf⟩ := mz_lt hf
    rw [← e_t8] at w
    refine lv_aload_n hx hb d_MO_atEnd_50 rfl (lv_at hl 0 rfl) ?_
    refine mz_get E w 0 38 (v := .ref (ad 25)) (by decide) rfl rfl ii_11 (by decide) (Nat.le_of_ble_eq_true rfl) k_1221 rfl d_MO_atEnd_51 ?_
    refine lv_iload_n hx hb d_MO_atEnd_54 rfl (lv_at hl 1 rfl) ?_
    refine lv_aload_n hx hb d_MO_atEnd_55 rfl (lv_at hl 0 rfl) ?_
    refine mz_get E w 0 36 (v := .ref (ad 23)) (by decide) rfl rfl ii_11 (by decide) (Nat.le_of_ble_eq_true rfl) k_1219 rfl d_MO_atEnd_56 ?_
    refine lv_iload_n hx hb d_MO_atEnd_59 rfl (lv_at hl 1 rfl) ?_
    obtain ⟨hi9, hf⟩ := mz_gd hf
    refine mz_iald E w 23 (by decide) rfl hi9 d_MO_atEnd_60 ?_
    obtain ⟨hi10, hf⟩ := mz_gd hf
    refine mz_iast E w 25 (x := (mz_gI t8 23 x1.toNatClampNeg)) (by decide) rfl hi10 d_MO_atEnd_61 (fun H locs w => ?_)
    obtain ⟨t11, e_t11, hf⟩ := mz_lt hf
    rw [← e_t11] at w
    refine lv_aload_n hx hb d_MO_atEnd_62 rfl (lv_at hl 0 rfl) ?_
    refine mz_get E w 0 39 (v := .ref (ad 26)) (by decide) rfl rfl ii_11 (by decide) (Nat.le_of_ble_eq_true rfl) k_1222 rfl d_MO_atEnd_63 ?_
    refine lv_iload_n hx hb d_MO_atEnd_66 rfl (lv_at hl 1 rfl) ?_
    obtain ⟨hi12, hf⟩ := mz_gd hf
    refine mz_iald E w 26 (by decide) rfl hi12 d_MO_atEnd_67 ?_
    refine lv_if_gt (tgt := 75) hx hb d_MO_atEnd_68 (by decide) (fun hc13 => ?_) (fun hc13 => ?_)
    · have hf := mz_t hc13 hf
      obtain rfl := Option.some.inj hf
      exact mz_vret E w rfl d_MO_atEnd_75
    · have hf := mz_f hc13 hf
      refine lv_aload_n hx hb d_MO_atEnd_71 rfl (lv_at hl 0 rfl) ?_
      obtain ⟨q14, hq15, hf⟩ := mz_bd hf
      refine mz_callV E w (k := 0) (As := []) (rest := []) (c_MO_endFrame hSK l n t11 q14 hq15) (by decide) rfl rfl k_1471 k_15 k_1468 k_1470 ks_54 hm_MO_endFrame ⟨⟨rfl, rfl⟩, Nat.le_of_ble_eq_true rfl, Nat.le_of_ble_eq_true rfl⟩ rfl hl.1 rfl (Nat.le_of_ble_eq_true rfl) d_MO_atEnd_72 ⟨Nat.zero_le _, Nat.zero_le _⟩ (st1 := []) rfl (fun H locs w => ?_)
      obtain rfl := Option.some.inj hf
      exact mz_vret E w rfl d_MO_atEnd_75
  · have hf := mz_f hc2 hf
    refine lv_aload_n hx hb d_MO_atEnd_13 rfl (lv_at hl 0 rfl) ?_
    refine lv_iconst (v := (5 : Int32)) hx hb d_MO_atEnd_14 (by decide) ?_
    refine lv_aload_n hx hb d_MO_atEnd_15 rfl (lv_at hl 0 rfl) ?_
    refine mz_get E w 0 58 (v := .ref (ad 42)) (by decide) rfl rfl ii_11 (by decide) (Nat.le_of_ble_eq_true rfl) k_1241 rfl d_MO_atEnd_16 ?_
    refine lv_aload_n hx hb d_MO_atEnd_19 rfl (lv_at hl 0 rfl) ?_
    refine mz_get E w 0 53 (v := .int (mz_gI t 0 53)) (by decide) rfl rfl ii_11 (by decide) (Nat.le_of_ble_eq_true rfl) k_1236 rfl d_MO_atEnd_20 ?_
    refine lv_iconst (v := (1 : Int32)) hx hb d_MO_atEnd_23 (by decide) ?_
    refine lv_isub hx hb d_MO_atEnd_24 ?_
    obtain ⟨hi16, hf⟩ := mz_gd hf
    refine mz_iald E w 42 (by decide) rfl hi16 d_MO_atEnd_25 ?_
    obtain ⟨q17, hq18, hf⟩ := mz_bd hf
    refine mz_callV E w (k := 0) (As := [.int (5 : Int32), .int (mz_gI t 42 ((mz_gI t 0 53) - (1 : Int32)).toNatClampNeg)]) (rest := []) (c_MO_fail hSK l n (5 : Int32) (mz_gI t 42 ((mz_gI t 0 53) - (1 : Int32)).toNatClampNeg) t q17 hq18) (by decide) rfl rfl k_1467 k_15 k_1464 k_1466 ks_53 hm_MO_fail ⟨⟨rfl, rfl⟩, Nat.le_of_ble_eq_true rfl, Nat.le_of_ble_eq_true rfl⟩ rfl hl.1 rfl (Nat.le_of_ble_eq_true rfl) d_MO_atEnd_26 ⟨Nat.zero_le _, Nat.zero_le _⟩ (st1 := []) rfl (fun H locs w => ?_)
    obtain rfl := Option.some.inj hf
    exact mz_vret E w rfl d_MO_atEnd_29

/-! MacroHouseModel.look(I)V -/
abbrev r_MO_look : Room := { frames := 1, cells := 0, slots := 0, locals := 22 }
def f_MO_look_46 (n : Nat) (s1 : Int32) (s2 : Int32) (t : mz_St) : Option mz_St := (f_MO_fail n s1 s2 t).bind fun q5 => some q5
def f_MO_look (n : Nat) (x1 : Int32) (t : mz_St) : Option mz_St := mz_let (mz_pI t 0 8 ((mz_gI t 0 8) + (1 : Int32))) fun t1 => if (mz_gI t1 0 8) ≤ (4000 : Int32) then (some t1) else (mz_let (mz_pI t1 0 8 (4000 : Int32)) fun t3 => if (mz_gI t3 0 34) = (1 : Int32) then (f_MO_look_46 n (6 : Int32) x1 t3) else (f_MO_look_46 n (6 : Int32) (mz_gI t3 0 63) t3))
set_option maxRecDepth 100000 in
set_option maxHeartbeats 4000000 in
theorem b_MO_look_46 {SX : State → Heap → Prop} {dC : Nat → ClassId} {dI : Nat → Nat → Nat} {ad en : Nat → Nat} {ca : Nat → ClassId} {p : Program} {l : Launch} {e : Env} {s : State} {m : MethodId} {args : Array Value} {below : List Frame} {meth : Method} {c : Code} {res : mz_St} (E : mz_En SX 55 mz_cl dC dI ad ca p s m meth c prog_15_method_14_code 2 "MacroHouseModel" none) (n : Nat) : ∀ (s1 : Int32) (s2 : Int32) (t : mz_St), f_MO_look_46 n s1 s2 t = some res → ∀ (H : Heap) (locs : List Loc) (ls : Array Slot), mz_Wd mz_tM 55 mz_cl dC dI ad en ca s t H locs → lv_has ls 2 [] → W p l e (r_MO_look) s m args below meth c H locs 0 0 (MQ below (mz_Q SX mz_tM 55 mz_cl dC dI ad en ca none res) args s 0 0 (mz_A ad 55)) (F0 m 46 ls [.int s2, .int s1, .ref (ad 0)]) := by
  obtain ⟨hx, hb, hml, hown, hcx, -, -, hSX, -, -, hSK⟩ := id E
  intro s1 s2 t hf H locs ls w hl
  unfold f_MO_look_46 at hf
  obtain ⟨q5, hq6, hf⟩ := mz_bd hf
  refine mz_callV E w (k := 0) (As := [.int s1, .int s2]) (rest := []) (c_MO_fail hSK l n s1 s2 t q5 hq6) (by decide) rfl rfl k_1467 k_15 k_1464 k_1466 ks_53 hm_MO_fail ⟨⟨rfl, rfl⟩, Nat.le_of_ble_eq_true rfl, Nat.le_of_ble_eq_true rfl⟩ rfl hl.1 rfl (Nat.le_of_ble_eq_true rfl) d_MO_look_46 ⟨Nat.zero_le _, Nat.zero_le _⟩ (st1 := []) rfl (fun H locs w => ?_)
  obtain rfl := Option.some.inj hf
  exact mz_vret E w rfl d_MO_look_49
set_option maxRecDepth 100000 in
set_option maxHeartbeats 4000000 in
theorem c_MO_look {SX : State → Heap → Prop} {dC : Nat → ClassId} {dI : Nat → Nat → Nat} {ad en : Nat → Nat} {ca : Nat → ClassId} (hSK : mz_SK SX ad 55) (l : Launch) (n : Nat) (x1 : Int32) (t : mz_St) (res : mz_St) (hf : f_MO_look n x1 t = some res) : mz_C SX mz_tM 55 mz_cl dC dI ad en ca l y_MO_look prog_15_method_14_code 2 none (r_MO_look) [.ref (ad 0), .int x1] t none res := by
  unfold f_MO_look at hf
  refine mz_met hSK (by decide) (Nat.le_of_ble_eq_true rfl) ?_
  intro p e s m args below meth c ls E w hl
  obtain ⟨hx, hb, hml, hown, hcx, -, -, hSX, -, -, -⟩ := id E
  have hl : lv_has ls 2 [(0, .ref (ad 0)), (1, .int x1)] := hl
  refine lv_aload_n hx hb d_MO_look_0 rfl (lv_at hl 0 rfl) ?_
  refine lv_dup hx hb d_MO_look_1 rfl ?_
  refine mz_get E w 0 8 (v := .int (mz_gI t 0 8)) (by decide) rfl rfl ii_11 (by decide) (Nat.le_of_ble_eq_true rfl) k_1191 rfl d_MO_look_2 ?_
  refine lv_iconst (v := (1 : Int32)) hx hb d_MO_look_5 (by decide) ?_
  refine lv_iadd hx hb d_MO_look_6 ?_
  refine mz_put E w 0 8 (v := ((mz_gI t 0 8) + (1 : Int32))) (by decide) rfl rfl ii_11 tk_11 nm_11 (by decide) (Nat.le_of_ble_eq_true rfl) k_1191 rfl (tk_11 8 (by decide)) rfl rfl rfl d_MO_look_7 (fun H locs w => ?_)
  obtain ⟨t1, e_t1, hf⟩ := mz_lt hf
  rw [← e_t1] at w
  refine lv_aload_n hx hb d_MO_look_10 rfl (lv_at hl 0 rfl) ?_
  refine mz_get E w 0 8 (v := .int (mz_gI t1 0 8)) (by decide) rfl rfl ii_11 (by decide) (Nat.le_of_ble_eq_true rfl) k_1191 rfl d_MO_look_11 ?_
  refine lv_sipush (v := (4000 : Int32)) hx hb d_MO_look_14 (by decide) ?_
  refine lv_icmp_le (tgt := 49) hx hb d_MO_look_17 (by decide) (fun hc2 => ?_) (fun hc2 => ?_)
  · have hf := mz_t hc2 hf
    obtain rfl := Option.some.inj hf
    exact mz_vret E w rfl d_MO_look_49
  · have hf := mz_f hc2 hf
    refine lv_aload_n hx hb d_MO_look_20 rfl (lv_at hl 0 rfl) ?_
    refine lv_sipush (v := (4000 : Int32)) hx hb d_MO_look_21 (by decide) ?_
    refine mz_put E w 0 8 (v := (4000 : Int32)) (by decide) rfl rfl ii_11 tk_11 nm_11 (by decide) (Nat.le_of_ble_eq_true rfl) k_1191 rfl (tk_11 8 (by decide)) rfl rfl rfl d_MO_look_24 (fun H locs w => ?_)
    obtain ⟨t3, e_t3, hf⟩ := mz_lt hf
    rw [← e_t3] at w
    refine lv_aload_n hx hb d_MO_look_27 rfl (lv_at hl 0 rfl) ?_
    refine lv_bipush (v := (6 : Int32)) hx hb d_MO_look_28 (by decide) ?_
    refine lv_aload_n hx hb d_MO_look_30 rfl (lv_at hl 0 rfl) ?_
    refine mz_get E w 0 34 (v := .int (mz_gI t3 0 34)) (by decide) rfl rfl ii_11 (by decide) (Nat.le_of_ble_eq_true rfl) k_1217 rfl d_MO_look_31 ?_
    refine lv_iconst (v := (1 : Int32)) hx hb d_MO_look_34 (by decide) ?_
    refine lv_icmp_ne (tgt := 42) hx hb d_MO_look_35 (by decide) (fun hc4 => ?_) (fun hc4 => ?_)
    · have hf := mz_f hc4 hf
      refine lv_aload_n hx hb d_MO_look_42 rfl (lv_at hl 0 rfl) ?_
      refine mz_get E w 0 63 (v := .int (mz_gI t3 0 63)) (by decide) rfl rfl ii_11 (by decide) (Nat.le_of_ble_eq_true rfl) k_1246 rfl d_MO_look_43 ?_
      exact b_MO_look_46 E n (6 : Int32) (mz_gI t3 0 63) t3 hf _ _ _ w (lv_sub hl [] rfl)
    · have hf := mz_t hc4 hf
      refine lv_iload_n hx hb d_MO_look_38 rfl (lv_at hl 1 rfl) ?_
      refine lv_goto (tgt := 46) hx hb d_MO_look_39 (by decide) ?_
      exact b_MO_look_46 E n (6 : Int32) x1 t3 hf _ _ _ w (lv_sub hl [] rfl)

/-! MacroHouseModel.isBegin(I)Z -/
abbrev r_MO_isBegin : Room := { frames := 0, cells := 0, slots := 0, locals := 0 }
def f_MO_isBegin_18 (n : Nat) (t : mz_St) : Option (Int32 × mz_St) := some ((1 : Int32), t)
def f_MO_isBegin_12 (n : Nat) (x0 : Int32) (t : mz_St) : Option (Int32 × mz_St) := if x0 = (95 : Int32) then (f_MO_isBegin_18 n  t) else (some ((0 : Int32), t))
def f_MO_isBegin (n : Nat) (x0 : Int32) (t : mz_St) : Option (Int32 × mz_St) := if x0 < (97 : Int32) then (f_MO_isBegin_12 n x0 t) else (if x0 ≤ (122 : Int32) then (f_MO_isBegin_18 n  t) else (f_MO_isBegin_12 n x0 t))
set_option maxRecDepth 100000 in
set_option maxHeartbeats 4000000 in
theorem b_MO_isBegin_18 {SX : State → Heap → Prop} {dC : Nat → ClassId} {dI : Nat → Nat → Nat} {ad en : Nat → Nat} {ca : Nat → ClassId} {p : Program} {l : Launch} {e : Env} {s : State} {m : MethodId} {args : Array Value} {below : List Frame} {meth : Method} {c : Code} {res : (Int32 × mz_St)} (E : mz_En SX 55 mz_cl dC dI ad ca p s m meth c prog_15_method_9_code 1 "MacroHouseModel" (some (.boolean))) (n : Nat) : ∀ (t : mz_St), f_MO_isBegin_18 n t = some res → ∀ (H : Heap) (locs : List Loc) (ls : Array Slot), mz_Wd mz_tM 55 mz_cl dC dI ad en ca s t H locs → lv_has ls 1 [] → W p l e (r_MO_isBegin) s m args below meth c H locs 0 0 (MQ below (mz_Q SX mz_tM 55 mz_cl dC dI ad en ca (some (.int res.1)) res.2) args s 0 0 (mz_A ad 55)) (F0 m 18 ls []) := by
  obtain ⟨hx, hb, hml, hown, hcx, -, -, hSX, -, -, hSK⟩ := id E
  intro t hf H locs ls w hl
  unfold f_MO_isBegin_18 at hf
  refine lv_iconst (v := (1 : Int32)) hx hb d_MO_isBegin_18 (by decide) ?_
  refine lv_goto (tgt := 23) hx hb d_MO_isBegin_19 (by decide) ?_
  obtain rfl := Option.some.inj hf
  exact mz_zret E w (by decide) rfl d_MO_isBegin_23
set_option maxRecDepth 100000 in
set_option maxHeartbeats 4000000 in
theorem b_MO_isBegin_12 {SX : State → Heap → Prop} {dC : Nat → ClassId} {dI : Nat → Nat → Nat} {ad en : Nat → Nat} {ca : Nat → ClassId} {p : Program} {l : Launch} {e : Env} {s : State} {m : MethodId} {args : Array Value} {below : List Frame} {meth : Method} {c : Code} {res : (Int32 × mz_St)} (E : mz_En SX 55 mz_cl dC dI ad ca p s m meth c prog_15_method_9_code 1 "MacroHouseModel" (some (.boolean))) (n : Nat) : ∀ (x0 : Int32) (t : mz_St), f_MO_isBegin_12 n x0 t = some res → ∀ (H : Heap) (locs : List Loc) (ls : Array Slot), mz_Wd mz_tM 55 mz_cl dC dI ad en ca s t H locs → lv_has ls 1 [(0, .int x0)] → W p l e (r_MO_isBegin) s m args below meth c H locs 0 0 (MQ below (mz_Q SX mz_tM 55 mz_cl dC dI ad en ca (some (.int res.1)) res.2) args s 0 0 (mz_A ad 55)) (F0 m 12 ls []) := by
  obtain ⟨hx, hb, hml, hown, hcx, -, -, hSX, -, -, hSK⟩ := id E
  intro x0 t hf H locs ls w hl
  unfold f_MO_isBegin_12 at hf
  refine lv_iload_n hx hb d_MO_isBegin_12 rfl (lv_at hl 0 rfl) ?_
  refine lv_bipush (v := (95 : Int32)) hx hb d_MO_isBegin_13 (by decide) ?_
  refine lv_icmp_ne (tgt := 22) hx hb d_MO_isBegin_15 (by decide) (fun hc2 => ?_) (fun hc2 => ?_)
  · have hf := mz_f hc2 hf
    refine lv_iconst (v := (0 : Int32)) hx hb d_MO_isBegin_22 (by decide) ?_
    obtain rfl := Option.some.inj hf
    exact mz_zret E w (by decide) rfl d_MO_isBegin_23
  · have hf := mz_t hc2 hf
    exact b_MO_isBegin_18 E n  t hf _ _ _ w (lv_sub hl [] rfl)
set_option maxRecDepth 100000 in
set_option maxHeartbeats 4000000 in
theorem c_MO_isBegin {SX : State → Heap → Prop} {dC : Nat → ClassId} {dI : Nat → Nat → Nat} {ad en : Nat → Nat} {ca : Nat → ClassId} (hSK : mz_SK SX ad 55) (l : Launch) (n : Nat) (x0 : Int32) (t : mz_St) (res : (Int32 × mz_St)) (hf : f_MO_isBegin n x0 t = some res) : mz_C SX mz_tM 55 mz_cl dC dI ad en ca l y_MO_isBegin prog_15_method_9_code 1 (some (.boolean)) (r_MO_isBegin) [.int x0] t (some (.int res.1)) res.2 := by
  unfold f_MO_isBegin at hf
  refine mz_met hSK (by decide) (Nat.le_of_ble_eq_true rfl) ?_
  intro p e s m args below meth c ls E w hl
  obtain ⟨hx, hb, hml, hown, hcx, -, -, hSX, -, -, -⟩ := id E
  have hl : lv_has ls 1 [(0, .int x0)] := hl
  refine lv_iload_n hx hb d_MO_isBegin_0 rfl (lv_at hl 0 rfl) ?_
  refine lv_bipush (v := (97 : Int32)) hx hb d_MO_isBegin_1 (by decide) ?_
  refine lv_icmp_lt (tgt := 12) hx hb d_MO_isBegin_3 (by decide) (fun hc1 => ?_) (fun hc1 => ?_)
  · have hf := mz_t hc1 hf
    exact b_MO_isBegin_12 E n x0 t hf _ _ _ w (lv_sub hl [0] rfl)
  · have hf := mz_f hc1 hf
    refine lv_iload_n hx hb d_MO_isBegin_6 rfl (lv_at hl 0 rfl) ?_
    refine lv_bipush (v := (122 : Int32)) hx hb d_MO_isBegin_7 (by decide) ?_
    refine lv_icmp_le (tgt := 18) hx hb d_MO_isBegin_9 (by decide) (fun hc3 => ?_) (fun hc3 => ?_)
    · have hf := mz_t hc3 hf
      exact b_MO_isBegin_18 E n  t hf _ _ _ w (lv_sub hl [] rfl)
    · have hf := mz_f hc3 hf
      exact b_MO_isBegin_12 E n x0 t hf _ _ _ w (lv_sub hl [0] rfl)

/-! MacroHouseModel.isDigit(I)Z -/
abbrev r_MO_isDigit : Room := { frames := 0, cells := 0, slots := 0, locals := 0 }
def f_MO_isDigit (n : Nat) (x0 : Int32) (t : mz_St) : Option (Int32 × mz_St) := if x0 < (48 : Int32) then (some ((0 : Int32), t)) else (if (57 : Int32) < x0 then (some ((0 : Int32), t)) else (some ((1 : Int32), t)))
set_option maxRecDepth 100000 in
set_option maxHeartbeats 4000000 in
theorem c_MO_isDigit {SX : State → Heap → Prop} {dC : Nat → ClassId} {dI : Nat → Nat → Nat} {ad en : Nat → Nat} {ca : Nat → ClassId} (hSK : mz_SK SX ad 55) (l : Launch) (n : Nat) (x0 : Int32) (t : mz_St) (res : (Int32 × mz_St)) (hf : f_MO_isDigit n x0 t = some res) : mz_C SX mz_tM 55 mz_cl dC dI ad en ca l y_MO_isDigit prog_15_method_10_code 1 (some (.boolean)) (r_MO_isDigit) [.int x0] t (some (.int res.1)) res.2 := by
  unfold f_MO_isDigit at hf
  refine mz_met hSK (by decide) (Nat.le_of_ble_eq_true rfl) ?_
  intro p e s m args below meth c ls E w hl
  obtain ⟨hx, hb, hml, hown, hcx, -, -, hSX, -, -, -⟩ := id E
  have hl : lv_has ls 1 [(0, .int x0)] := hl
  refine lv_iload_n hx hb d_MO_isDigit_0 rfl (lv_at hl 0 rfl) ?_
  refine lv_bipush (v := (48 : Int32)) hx hb d_MO_isDigit_1 (by decide) ?_
  refine lv_icmp_lt (tgt := 16) hx hb d_MO_isDigit_3 (by decide) (fun hc1 => ?_) (fun hc1 => ?_)
  · have hf := mz_t hc1 hf
    refine lv_iconst (v := (0 : Int32)) hx hb d_MO_isDigit_16 (by decide) ?_
    obtain rfl := Option.some.inj hf
    exact mz_zret E w (by decide) rfl d_MO_isDigit_17
  · have hf := mz_f hc1 hf
    refine lv_iload_n hx hb d_MO_isDigit_6 rfl (lv_at hl 0 rfl) ?_
    refine lv_bipush (v := (57 : Int32)) hx hb d_MO_isDigit_7 (by decide) ?_
    refine lv_icmp_gt (tgt := 16) hx hb d_MO_isDigit_9 (by decide) (fun hc2 => ?_) (fun hc2 => ?_)
    · have hf := mz_t hc2 hf
      refine lv_iconst (v := (0 : Int32)) hx hb d_MO_isDigit_16 (by decide) ?_
      obtain rfl := Option.some.inj hf
      exact mz_zret E w (by decide) rfl d_MO_isDigit_17
    · have hf := mz_f hc2 hf
      refine lv_iconst (v := (1 : Int32)) hx hb d_MO_isDigit_12 (by decide) ?_
      refine lv_goto (tgt := 17) hx hb d_MO_isDigit_13 (by decide) ?_
      obtain rfl := Option.some.inj hf
      exact mz_zret E w (by decide) rfl d_MO_isDigit_17

/-! MacroHouseModel.isWordSign(I)Z -/
abbrev r_MO_isWordSign : Room := { frames := 1, cells := 0, slots := 0, locals := 20 }
def f_MO_isWordSign_14 (n : Nat) (t : mz_St) : Option (Int32 × mz_St) := some ((1 : Int32), t)
def f_MO_isWordSign (n : Nat) (x0 : Int32) (t : mz_St) : Option (Int32 × mz_St) := (f_MO_isBegin n x0 t).bind fun q1 => if q1.1 = 0 then ((f_MO_isDigit n x0 q1.2).bind fun q4 => if q4.1 = 0 then (some ((0 : Int32), q4.2)) else (f_MO_isWordSign_14 n  q4.2)) else (f_MO_isWordSign_14 n  q1.2)
set_option maxRecDepth 100000 in
set_option maxHeartbeats 4000000 in
theorem b_MO_isWordSign_14 {SX : State → Heap → Prop} {dC : Nat → ClassId} {dI : Nat → Nat → Nat} {ad en : Nat → Nat} {ca : Nat → ClassId} {p : Program} {l : Launch} {e : Env} {s : State} {m : MethodId} {args : Array Value} {below : List Frame} {meth : Method} {c : Code} {res : (Int32 × mz_St)} (E : mz_En SX 55 mz_cl dC dI ad ca p s m meth c prog_15_method_11_code 1 "MacroHouseModel" (some (.boolean))) (n : Nat) : ∀ (t : mz_St), f_MO_isWordSign_14 n t = some res → ∀ (H : Heap) (locs : List Loc) (ls : Array Slot), mz_Wd mz_tM 55 mz_cl dC dI ad en ca s t H locs → lv_has ls 1 [] → W p l e (r_MO_isWordSign) s m args below meth c H locs 0 0 (MQ below (mz_Q SX mz_tM 55 mz_cl dC dI ad en ca (some (.int res.1)) res.2) args s 0 0 (mz_A ad 55)) (F0 m 14 ls []) := by
  obtain ⟨hx, hb, hml, hown, hcx, -, -, hSX, -, -, hSK⟩ := id E
  intro t hf H locs ls w hl
  unfold f_MO_isWordSign_14 at hf
  refine lv_iconst (v := (1 : Int32)) hx hb d_MO_isWordSign_14 (by decide) ?_
  refine lv_goto (tgt := 19) hx hb d_MO_isWordSign_15 (by decide) ?_
  obtain rfl := Option.some.inj hf
  exact mz_zret E w (by decide) rfl d_MO_isWordSign_19
set_option maxRecDepth 100000 in
set_option maxHeartbeats 4000000 in
theorem c_MO_isWordSign {SX : State → Heap → Prop} {dC : Nat → ClassId} {dI : Nat → Nat → Nat} {ad en : Nat → Nat} {ca : Nat → ClassId} (hSK : mz_SK SX ad 55) (l : Launch) (n : Nat) (x0 : Int32) (t : mz_St) (res : (Int32 × mz_St)) (hf : f_MO_isWordSign n x0 t = some res) : mz_C SX mz_tM 55 mz_cl dC dI ad en ca l y_MO_isWordSign prog_15_method_11_code 1 (some (.boolean)) (r_MO_isWordSign) [.int x0] t (some (.int res.1)) res.2 := by
  unfold f_MO_isWordSign at hf
  refine mz_met hSK (by decide) (Nat.le_of_ble_eq_true rfl) ?_
  intro p e s m args below meth c ls E w hl
  obtain ⟨hx, hb, hml, hown, hcx, -, -, hSX, -, -, -⟩ := id E
  have hl : lv_has ls 1 [(0, .int x0)] := hl
  refine lv_iload_n hx hb d_MO_isWordSign_0 rfl (lv_at hl 0 rfl) ?_
  obtain ⟨q1, hq2, hf⟩ := mz_bd hf
  refine mz_callS E w (As := [.int x0]) (rest := []) (c_MO_isBegin hSK l n x0 t q1 hq2) k_1482 k_15 k_1480 k_1481 hm_MO_isBegin ⟨⟨rfl, rfl⟩, Nat.le_of_ble_eq_true rfl, Nat.le_of_ble_eq_true rfl⟩ rfl hl.1 rfl (Nat.le_of_ble_eq_true rfl) d_MO_isWordSign_1 ⟨Nat.zero_le _, Nat.zero_le _⟩ (st1 := [.int q1.1]) rfl (fun H locs w => ?_)
  refine lv_if_ne (tgt := 14) hx hb d_MO_isWordSign_4 (by decide) (fun hc3 => ?_) (fun hc3 => ?_)
  · have hf := mz_f hc3 hf
    exact b_MO_isWordSign_14 E n  q1.2 hf _ _ _ w (lv_sub hl [] rfl)
  · have hf := mz_t hc3 hf
    refine lv_iload_n hx hb d_MO_isWordSign_7 rfl (lv_at hl 0 rfl) ?_
    obtain ⟨q4, hq5, hf⟩ := mz_bd hf
    refine mz_callS E w (As := [.int x0]) (rest := []) (c_MO_isDigit hSK l n x0 q1.2 q4 hq5) k_1488 k_15 k_1486 k_1487 hm_MO_isDigit ⟨⟨rfl, rfl⟩, Nat.le_of_ble_eq_true rfl, Nat.le_of_ble_eq_true rfl⟩ rfl hl.1 rfl (Nat.le_of_ble_eq_true rfl) d_MO_isWordSign_8 ⟨Nat.zero_le _, Nat.zero_le _⟩ (st1 := [.int q4.1]) rfl (fun H locs w => ?_)
    refine lv_if_eq (tgt := 18) hx hb d_MO_isWordSign_11 (by decide) (fun hc6 => ?_) (fun hc6 => ?_)
    · have hf := mz_t hc6 hf
      refine lv_iconst (v := (0 : Int32)) hx hb d_MO_isWordSign_18 (by decide) ?_
      obtain rfl := Option.some.inj hf
      exact mz_zret E w (by decide) rfl d_MO_isWordSign_19
    · have hf := mz_f hc6 hf
      exact b_MO_isWordSign_14 E n  q4.2 hf _ _ _ w (lv_sub hl [] rfl)

/-! MacroHouseModel.directiveOf(J)I -/
abbrev r_MO_directiveOf : Room := { frames := 0, cells := 0, slots := 0, locals := 0 }
def f_MO_directiveOf (n : Nat) (x0 : Int64) (t : mz_St) : Option (Int32 × mz_St) := if (lg_cmp x0 (7628147 : Int64)) = 0 then (some ((1 : Int32), t)) else (if (lg_cmp x0 (127978876071782 : Int64)) = 0 then (some ((2 : Int32), t)) else (if (lg_cmp x0 (26217 : Int64)) = 0 then (some ((3 : Int32), t)) else (if (lg_cmp x0 (111520460793449 : Int64)) = 0 then (some ((4 : Int32), t)) else (if (lg_cmp x0 (1702063205 : Int64)) = 0 then (some ((5 : Int32), t)) else (if (lg_cmp x0 (112602859662437 : Int64)) = 0 then (some ((6 : Int32), t)) else (if (lg_cmp x0 (439854853733 : Int64)) = 0 then (some ((7 : Int32), t)) else (if (lg_cmp x0 (478660485485 : Int64)) = 0 then (some ((8 : Int32), t)) else (if (lg_cmp x0 (1835298405 : Int64)) = 0 then (some ((9 : Int32), t)) else (if (lg_cmp x0 (1953523058 : Int64)) = 0 then (some ((10 : Int32), t)) else (if (lg_cmp x0 (1751343461 : Int64)) = 0 then (some ((11 : Int32), t)) else (if (lg_cmp x0 (1919184485 : Int64)) = 0 then (some ((12 : Int32), t)) else (if (lg_cmp x0 (435777791340 : Int64)) = 0 then (some ((13 : Int32), t)) else (if (lg_cmp x0 (1886352499 : Int64)) = 0 then (some ((14 : Int32), t)) else (some ((0 : Int32), t)))))))))))))))
set_option maxRecDepth 100000 in
set_option maxHeartbeats 4000000 in
theorem c_MO_directiveOf {SX : State → Heap → Prop} {dC : Nat → ClassId} {dI : Nat → Nat → Nat} {ad en : Nat → Nat} {ca : Nat → ClassId} (hSK : mz_SK SX ad 55) (l : Launch) (n : Nat) (x0 : Int64) (t : mz_St) (res : (Int32 × mz_St)) (hf : f_MO_directiveOf n x0 t = some res) : mz_C SX mz_tM 55 mz_cl dC dI ad en ca l y_MO_directiveOf prog_15_method_12_code 2 (some (.int)) (r_MO_directiveOf) [.long x0] t (some (.int res.1)) res.2 := by
  unfold f_MO_directiveOf at hf
  refine mz_met hSK (by decide) (Nat.le_of_ble_eq_true rfl) ?_
  intro p e s m args below meth c ls E w hl
  obtain ⟨hx, hb, hml, hown, hcx, -, -, hSX, -, -, -⟩ := id E
  have hl : lv_has ls 2 [(0, .long x0)] := hl
  refine lv_lload_n hx hb d_MO_directiveOf_0 rfl (lv_at hl 0 rfl) ?_
  refine lv_ldc2 (v := (7628147 : Int64)) hx hb hown (hcx.at args _ k_1492) d_MO_directiveOf_1 ?_
  refine W.lcmp hx hb d_MO_directiveOf_4 ?_
  refine lv_if_ne (tgt := 10) hx hb d_MO_directiveOf_5 (by decide) (fun hc1 => ?_) (fun hc1 => ?_)
  · have hf := mz_f hc1 hf
    refine lv_lload_n hx hb d_MO_directiveOf_10 rfl (lv_at hl 0 rfl) ?_
    refine lv_ldc2 (v := (127978876071782 : Int64)) hx hb hown (hcx.at args _ k_1493) d_MO_directiveOf_11 ?_
    refine W.lcmp hx hb d_MO_directiveOf_14 ?_
    refine lv_if_ne (tgt := 20) hx hb d_MO_directiveOf_15 (by decide) (fun hc2 => ?_) (fun hc2 => ?_)
    · have hf := mz_f hc2 hf
      refine lv_lload_n hx hb d_MO_directiveOf_20 rfl (lv_at hl 0 rfl) ?_
      refine lv_ldc2 (v := (26217 : Int64)) hx hb hown (hcx.at args _ k_1494) d_MO_directiveOf_21 ?_
      refine W.lcmp hx hb d_MO_directiveOf_24 ?_
      refine lv_if_ne (tgt := 30) hx hb d_MO_directiveOf_25 (by decide) (fun hc3 => ?_) (fun hc3 => ?_)
      · have hf := mz_f hc3 hf
        refine lv_lload_n hx hb d_MO_directiveOf_30 rfl (lv_at hl 0 rfl) ?_
        refine lv_ldc2 (v := (111520460793449 : Int64)) hx hb hown (hcx.at args _ k_1495) d_MO_directiveOf_31 ?_
        refine W.lcmp hx hb d_MO_directiveOf_34 ?_
        refine lv_if_ne (tgt := 40) hx hb d_MO_directiveOf_35 (by decide) (fun hc4 => ?_) (fun hc4 => ?_)
        · have hf := mz_f hc4 hf
          refine lv_lload_n hx hb d_MO_directiveOf_40 rfl (lv_at hl 0 rfl) ?_
          refine lv_ldc2 (v := (1702063205 : Int64)) hx hb hown (hcx.at args _ k_1496) d_MO_directiveOf_41 ?_
          refine W.lcmp hx hb d_MO_directiveOf_44 ?_
          refine lv_if_ne (tgt := 50) hx hb d_MO_directiveOf_45 (by decide) (fun hc5 => ?_) (fun hc5 => ?_)
          · have hf := mz_f hc5 hf
            refine lv_lload_n hx hb d_MO_directiveOf_50 rfl (lv_at hl 0 rfl) ?_
            refine lv_ldc2 (v := (112602859662437 : Int64)) hx hb hown (hcx.at args _ k_1497) d_MO_directiveOf_51 ?_
            refine W.lcmp hx hb d_MO_directiveOf_54 ?_
            refine lv_if_ne (tgt := 61) hx hb d_MO_directiveOf_55 (by decide) (fun hc6 => ?_) (fun hc6 => ?_)
            · have hf := mz_f hc6 hf
              refine lv_lload_n hx hb d_MO_directiveOf_61 rfl (lv_at hl 0 rfl) ?_
              refine lv_ldc2 (v := (439854853733 : Int64)) hx hb hown (hcx.at args _ k_1498) d_MO_directiveOf_62 ?_
              refine W.lcmp hx hb d_MO_directiveOf_65 ?_
              refine lv_if_ne (tgt := 72) hx hb d_MO_directiveOf_66 (by decide) (fun hc7 => ?_) (fun hc7 => ?_)
              · have hf := mz_f hc7 hf
                refine lv_lload_n hx hb d_MO_directiveOf_72 rfl (lv_at hl 0 rfl) ?_
                refine lv_ldc2 (v := (478660485485 : Int64)) hx hb hown (hcx.at args _ k_1499) d_MO_directiveOf_73 ?_
                refine W.lcmp hx hb d_MO_directiveOf_76 ?_
                refine lv_if_ne (tgt := 83) hx hb d_MO_directiveOf_77 (by decide) (fun hc8 => ?_) (fun hc8 => ?_)
                · have hf := mz_f hc8 hf
                  refine lv_lload_n hx hb d_MO_directiveOf_83 rfl (lv_at hl 0 rfl) ?_
                  refine lv_ldc2 (v := (1835298405 : Int64)) hx hb hown (hcx.at args _ k_1500) d_MO_directiveOf_84 ?_
                  refine W.lcmp hx hb d_MO_directiveOf_87 ?_
                  refine lv_if_ne (tgt := 94) hx hb d_MO_directiveOf_88 (by decide) (fun hc9 => ?_) (fun hc9 => ?_)
                  · have hf := mz_f hc9 hf
                    refine lv_lload_n hx hb d_MO_directiveOf_94 rfl (lv_at hl 0 rfl) ?_
                    refine lv_ldc2 (v := (1953523058 : Int64)) hx hb hown (hcx.at args _ k_1501) d_MO_directiveOf_95 ?_
                    refine W.lcmp hx hb d_MO_directiveOf_98 ?_
                    refine lv_if_ne (tgt := 105) hx hb d_MO_directiveOf_99 (by decide) (fun hc10 => ?_) (fun hc10 => ?_)
                    · have hf := mz_f hc10 hf
                      refine lv_lload_n hx hb d_MO_directiveOf_105 rfl (lv_at hl 0 rfl) ?_
                      refine lv_ldc2 (v := (1751343461 : Int64)) hx hb hown (hcx.at args _ k_1502) d_MO_directiveOf_106 ?_
                      refine W.lcmp hx hb d_MO_directiveOf_109 ?_
                      refine lv_if_ne (tgt := 116) hx hb d_MO_directiveOf_110 (by decide) (fun hc11 => ?_) (fun hc11 => ?_)
                      · have hf := mz_f hc11 hf
                        refine lv_lload_n hx hb d_MO_directiveOf_116 rfl (lv_at hl 0 rfl) ?_
                        refine lv_ldc2 (v := (1919184485 : Int64)) hx hb hown (hcx.at args _ k_1503) d_MO_directiveOf_117 ?_
                        refine W.lcmp hx hb d_MO_directiveOf_120 ?_
                        refine lv_if_ne (tgt := 127) hx hb d_MO_directiveOf_121 (by decide) (fun hc12 => ?_) (fun hc12 => ?_)
                        · have hf := mz_f hc12 hf
                          refine lv_lload_n hx hb d_MO_directiveOf_127 rfl (lv_at hl 0 rfl) ?_
                          refine lv_ldc2 (v := (435777791340 : Int64)) hx hb hown (hcx.at args _ k_1504) d_MO_directiveOf_128 ?_
                          refine W.lcmp hx hb d_MO_directiveOf_131 ?_
                          refine lv_if_ne (tgt := 138) hx hb d_MO_directiveOf_132 (by decide) (fun hc13 => ?_) (fun hc13 => ?_)
                          · have hf := mz_f hc13 hf
                            refine lv_lload_n hx hb d_MO_directiveOf_138 rfl (lv_at hl 0 rfl) ?_
                            refine lv_ldc2 (v := (1886352499 : Int64)) hx hb hown (hcx.at args _ k_1505) d_MO_directiveOf_139 ?_
                            refine W.lcmp hx hb d_MO_directiveOf_142 ?_
                            refine lv_if_ne (tgt := 149) hx hb d_MO_directiveOf_143 (by decide) (fun hc14 => ?_) (fun hc14 => ?_)
                            · have hf := mz_f hc14 hf
                              refine lv_iconst (v := (0 : Int32)) hx hb d_MO_directiveOf_149 (by decide) ?_
                              obtain rfl := Option.some.inj hf
                              exact mz_iret E w rfl d_MO_directiveOf_150
                            · have hf := mz_t hc14 hf
                              refine lv_bipush (v := (14 : Int32)) hx hb d_MO_directiveOf_146 (by decide) ?_
                              obtain rfl := Option.some.inj hf
                              exact mz_iret E w rfl d_MO_directiveOf_148
                          · have hf := mz_t hc13 hf
                            refine lv_bipush (v := (13 : Int32)) hx hb d_MO_directiveOf_135 (by decide) ?_
                            obtain rfl := Option.some.inj hf
                            exact mz_iret E w rfl d_MO_directiveOf_137
                        · have hf := mz_t hc12 hf
                          refine lv_bipush (v := (12 : Int32)) hx hb d_MO_directiveOf_124 (by decide) ?_
                          obtain rfl := Option.some.inj hf
                          exact mz_iret E w rfl d_MO_directiveOf_126
                      · have hf := mz_t hc11 hf
                        refine lv_bipush (v := (11 : Int32)) hx hb d_MO_directiveOf_113 (by decide) ?_
                        obtain rfl := Option.some.inj hf
                        exact mz_iret E w rfl d_MO_directiveOf_115
                    · have hf := mz_t hc10 hf
                      refine lv_bipush (v := (10 : Int32)) hx hb d_MO_directiveOf_102 (by decide) ?_
                      obtain rfl := Option.some.inj hf
                      exact mz_iret E w rfl d_MO_directiveOf_104
                  · have hf := mz_t hc9 hf
                    refine lv_bipush (v := (9 : Int32)) hx hb d_MO_directiveOf_91 (by decide) ?_
                    obtain rfl := Option.some.inj hf
                    exact mz_iret E w rfl d_MO_directiveOf_93
                · have hf := mz_t hc8 hf
                  refine lv_bipush (v := (8 : Int32)) hx hb d_MO_directiveOf_80 (by decide) ?_
                  obtain rfl := Option.some.inj hf
                  exact mz_iret E w rfl d_MO_directiveOf_82
              · have hf := mz_t hc7 hf
                refine lv_bipush (v := (7 : Int32)) hx hb d_MO_directiveOf_69 (by decide) ?_
                obtain rfl := Option.some.inj hf
                exact mz_iret E w rfl d_MO_directiveOf_71
            · have hf := mz_t hc6 hf
              refine lv_bipush (v := (6 : Int32)) hx hb d_MO_directiveOf_58 (by decide) ?_
              obtain rfl := Option.some.inj hf
              exact mz_iret E w rfl d_MO_directiveOf_60
          · have hf := mz_t hc5 hf
            refine lv_iconst (v := (5 : Int32)) hx hb d_MO_directiveOf_48 (by decide) ?_
            obtain rfl := Option.some.inj hf
            exact mz_iret E w rfl d_MO_directiveOf_49
        · have hf := mz_t hc4 hf
          refine lv_iconst (v := (4 : Int32)) hx hb d_MO_directiveOf_38 (by decide) ?_
          obtain rfl := Option.some.inj hf
          exact mz_iret E w rfl d_MO_directiveOf_39
      · have hf := mz_t hc3 hf
        refine lv_iconst (v := (3 : Int32)) hx hb d_MO_directiveOf_28 (by decide) ?_
        obtain rfl := Option.some.inj hf
        exact mz_iret E w rfl d_MO_directiveOf_29
    · have hf := mz_t hc2 hf
      refine lv_iconst (v := (2 : Int32)) hx hb d_MO_directiveOf_18 (by decide) ?_
      obtain rfl := Option.some.inj hf
      exact mz_iret E w rfl d_MO_directiveOf_19
  · have hf := mz_t hc1 hf
    refine lv_iconst (v := (1 : Int32)) hx hb d_MO_directiveOf_8 (by decide) ?_
    obtain rfl := Option.some.inj hf
    exact mz_iret E w rfl d_MO_directiveOf_9

/-! MacroHouseModel.firstOf(I)I -/
abbrev r_MO_firstOf : Room := { frames := 2, cells := 0, slots := 0, locals := 40 }
def f_MO_firstOf_116 (n : Nat) (x3 : Int64) (x5 : Int32) (t : mz_St) : Option (Int32 × mz_St) := if x5 ≤ (8 : Int32) then ((f_MO_directiveOf n x3 t).bind fun q9 => some (q9.1, q9.2)) else (some ((0 : Int32), t))
def f_MO_firstOf_106 (n : Nat) (K38 : Int32 → Int32 → Int64 → Int32 → mz_St → Option (Int32 × mz_St)) (x1 : Int32) (x2 : Int32) (x5 : Int32) (s0 : Int64) (t : mz_St) : Option (Int32 × mz_St) := K38 x1 (x2 + (1 : Int32)) s0 (x5 + (1 : Int32)) t
def f_MO_firstOf_80 (n : Nat) (K38 : Int32 → Int32 → Int64 → Int32 → mz_St → Option (Int32 × mz_St)) (x1 : Int32) (x2 : Int32) (x3 : Int64) (x5 : Int32) (t : mz_St) : Option (Int32 × mz_St) := if (8 : Int32) ≤ x5 then (f_MO_firstOf_106 n K38 x1 x2 x5 x3 t) else (if ¬ (x2 < 0 ∨ 3000 ≤ x2.toNatClampNeg) then (f_MO_firstOf_106 n K38 x1 x2 x5 (x3 ||| ((mz_gI t 1 x2.toNatClampNeg).toInt64 <<< (((8 : Int32) * x5).toInt64 &&& 63))) t) else none)
def f_MO_firstOf_38 (n : Nat) : Nat → Int32 → Int32 → Int64 → Int32 → mz_St → Option (Int32 × mz_St)
  | 0, _, _, _, _, _ => none
  | k + 1, x1, x2, x3, x5, t => if ¬ (x1 < 0 ∨ 3001 ≤ x1.toNatClampNeg) then (if (mz_gI t 3 x1.toNatClampNeg) ≤ x2 then (f_MO_firstOf_116 n x3 x5 t) else (if x5 = 0 then (if ¬ (x2 < 0 ∨ 3000 ≤ x2.toNatClampNeg) then ((f_MO_isBegin n (mz_gI t 1 x2.toNatClampNeg) t).bind fun q19 => if q19.1 = 0 then (f_MO_firstOf_116 n x3 x5 q19.2) else (f_MO_firstOf_80 n (f_MO_firstOf_38 n k) x1 x2 x3 x5 q19.2)) else none) else (if ¬ (x2 < 0 ∨ 3000 ≤ x2.toNatClampNeg) then ((f_MO_isWordSign n (mz_gI t 1 x2.toNatClampNeg) t).bind fun q13 => if q13.1 = 0 then (f_MO_firstOf_116 n x3 x5 q13.2) else (f_MO_firstOf_80 n (f_MO_firstOf_38 n k) x1 x2 x3 x5 q13.2)) else none))) else none
def f_MO_firstOf (n : Nat) (x1 : Int32) (t : mz_St) : Option (Int32 × mz_St) := if ¬ (x1 < 0 ∨ 3001 ≤ x1.toNatClampNeg) then (if ¬ (x1 < 0 ∨ 3001 ≤ x1.toNatClampNeg) then (if (mz_gI t 2 x1.toNatClampNeg) = (mz_gI t 3 x1.toNatClampNeg) then (some ((0 : Int32), t)) else (if ¬ ((mz_gI t 2 x1.toNatClampNeg) < 0 ∨ 3000 ≤ (mz_gI t 2 x1.toNatClampNeg).toNatClampNeg) then (if (mz_gI t 1 (mz_gI t 2 x1.toNatClampNeg).toNatClampNeg) = (46 : Int32) then (f_MO_firstOf_38 n n x1 ((mz_gI t 2 x1.toNatClampNeg) + (1 : Int32)) (0 : Int64) (0 : Int32) t) else (some ((0 : Int32), t))) else none)) else none) else none
set_option maxRecDepth 100000 in
set_option maxHeartbeats 4000000 in
theorem b_MO_firstOf_116 {SX : State → Heap → Prop} {dC : Nat → ClassId} {dI : Nat → Nat → Nat} {ad en : Nat → Nat} {ca : Nat → ClassId} {p : Program} {l : Launch} {e : Env} {s : State} {m : MethodId} {args : Array Value} {below : List Frame} {meth : Method} {c : Code} {res : (Int32 × mz_St)} (E : mz_En SX 55 mz_cl dC dI ad ca p s m meth c prog_15_method_13_code 6 "MacroHouseModel" (some (.int))) (n : Nat) : ∀ (x3 : Int64) (x5 : Int32) (t : mz_St), f_MO_firstOf_116 n x3 x5 t = some res → ∀ (H : Heap) (locs : List Loc) (ls : Array Slot), mz_Wd mz_tM 55 mz_cl dC dI ad en ca s t H locs → lv_has ls 6 [(3, .long x3), (5, .int x5)] → W p l e (r_MO_firstOf) s m args below meth c H locs 0 0 (MQ below (mz_Q SX mz_tM 55 mz_cl dC dI ad en ca (some (.int res.1)) res.2) args s 0 0 (mz_A ad 55)) (F0 m 116 ls []) := by
  obtain ⟨hx, hb, hml, hown, hcx, -, -, hSX, -, -, hSK⟩ := id E
  intro x3 x5 t hf H locs ls w hl
  unfold f_MO_firstOf_116 at hf
  refine lv_iload hx hb d_MO_firstOf_116 (lv_at hl 1 rfl) ?_
  refine lv_bipush (v := (8 : Int32)) hx hb d_MO_firstOf_118 (by decide) ?_
  refine lv_icmp_le (tgt := 127) hx hb d_MO_firstOf_120 (by decide) (fun hc8 => ?_) (fun hc8 => ?_)
  · have hf := mz_t hc8 hf
    refine lv_lload_n hx hb d_MO_firstOf_127 rfl (lv_at hl 0 rfl) ?_
    obtain ⟨q9, hq10, hf⟩ := mz_bd hf
    refine mz_callS E w (As := [.long x3]) (rest := []) (c_MO_directiveOf hSK l n x3 t q9 hq10) k_1491 k_15 k_1489 k_1490 hm_MO_directiveOf ⟨⟨rfl, rfl⟩, Nat.le_of_ble_eq_true rfl, Nat.le_of_ble_eq_true rfl⟩ rfl hl.1 rfl (Nat.le_of_ble_eq_true rfl) d_MO_firstOf_128 ⟨Nat.zero_le _, Nat.zero_le _⟩ (st1 := [.int q9.1]) rfl (fun H locs w => ?_)
    obtain rfl := Option.some.inj hf
    exact mz_iret E w rfl d_MO_firstOf_131
  · have hf := mz_f hc8 hf
    refine lv_iconst (v := (0 : Int32)) hx hb d_MO_firstOf_123 (by decide) ?_
    refine lv_goto (tgt := 131) hx hb d_MO_firstOf_124 (by decide) ?_
    obtain rfl := Option.some.inj hf
    exact mz_iret E w rfl d_MO_firstOf_131
set_option maxRecDepth 100000 in
set_option maxHeartbeats 4000000 in
theorem b_MO_firstOf_106 {SX : State → Heap → Prop} {dC : Nat → ClassId} {dI : Nat → Nat → Nat} {ad en : Nat → Nat} {ca : Nat → ClassId} {p : Program} {l : Launch} {e : Env} {s : State} {m : MethodId} {args : Array Value} {below : List Frame} {meth : Method} {c : Code} {res : (Int32 × mz_St)} (E : mz_En SX 55 mz_cl dC dI ad ca p s m meth c prog_15_method_13_code 6 "MacroHouseModel" (some (.int))) (n : Nat) (K38 : Int32 → Int32 → Int64 → Int32 → mz_St → Option (Int32 × mz_St)) (hK38 : ∀ (x1 : Int32) (x2 : Int32) (x3 : Int64) (x5 : Int32) (t : mz_St), K38 x1 x2 x3 x5 t = some res → ∀ (H : Heap) (locs : List Loc) (ls : Array Slot), mz_Wd mz_tM 55 mz_cl dC dI ad en ca s t H locs → lv_has ls 6 [(0, .ref (ad 0)), (1, .int x1), (2, .int x2), (3, .long x3), (5, .int x5)] → W p l e (r_MO_firstOf) s m args below meth c H locs 0 0 (MQ below (mz_Q SX mz_tM 55 mz_cl dC dI ad en ca (some (.int res.1)) res.2) args s 0 0 (mz_A ad 55)) (F0 m 38 ls [])) : ∀ (x1 : Int32) (x2 : Int32) (x5 : Int32) (s0 : Int64) (t : mz_St), f_MO_firstOf_106 n K38 x1 x2 x5 s0 t = some res → ∀ (H : Heap) (locs : List Loc) (ls : Array Slot), mz_Wd mz_tM 55 mz_cl dC dI ad en ca s t H locs → lv_has ls 6 [(0, .ref (ad 0)), (1, .int x1), (2, .int x2), (5, .int x5)] → W p l e (r_MO_firstOf) s m args below meth c H locs 0 0 (MQ below (mz_Q SX mz_tM 55 mz_cl dC dI ad en ca (some (.int res.1)) res.2) args s 0 0 (mz_A ad 55)) (F0 m 106 ls [.long s0]) := by
  obtain ⟨hx, hb, hml, hown, hcx, -, -, hSX, -, -, hSK⟩ := id E
  intro x1 x2 x5 s0 t hf H locs ls w hl
  unfold f_MO_firstOf_106 at hf
  refine lv_lstore_n (lv' := [(3, .long s0), (0, .ref (ad 0)), (1, .int x1), (2, .int x2), (5, .int x5)]) hx hb d_MO_firstOf_106 rfl hl (by decide) rfl (fun ls hl => ?_)
  refine lv_iinc (v := (x5 + (1 : Int32))) (lv' := [(5, .int (x5 + (1 : Int32))), (3, .long s0), (0, .ref (ad 0)), (1, .int x1), (2, .int x2)]) hx hb d_MO_firstOf_107 hl (k := 4) rfl rfl (by decide) rfl (fun ls hl => ?_)
  refine lv_iinc (v := (x2 + (1 : Int32))) (lv' := [(2, .int (x2 + (1 : Int32))), (5, .int (x5 + (1 : Int32))), (3, .long s0), (0, .ref (ad 0)), (1, .int x1)]) hx hb d_MO_firstOf_110 hl (k := 4) rfl rfl (by decide) rfl (fun ls hl => ?_)
  refine lv_goto (tgt := 38) hx hb d_MO_firstOf_113 (by decide) ?_
  exact hK38 x1 (x2 + (1 : Int32)) s0 (x5 + (1 : Int32)) t hf _ _ _ w (lv_sub hl [3, 4, 0, 2, 1] rfl)
set_option maxRecDepth 100000 in
set_option maxHeartbeats 4000000 in
theorem b_MO_firstOf_80 {SX : State → Heap → Prop} {dC : Nat → ClassId} {dI : Nat → Nat → Nat} {ad en : Nat → Nat} {ca : Nat → ClassId} {p : Program} {l : Launch} {e : Env} {s : State} {m : MethodId} {args : Array Value} {below : List Frame} {meth : Method} {c : Code} {res : (Int32 × mz_St)} (E : mz_En SX 55 mz_cl dC dI ad ca p s m meth c prog_15_method_13_code 6 "MacroHouseModel" (some (.int))) (n : Nat) (K38 : Int32 → Int32 → Int64 → Int32 → mz_St → Option (Int32 × mz_St)) (hK38 : ∀ (x1 : Int32) (x2 : Int32) (x3 : Int64) (x5 : Int32) (t : mz_St), K38 x1 x2 x3 x5 t = some res → ∀ (H : Heap) (locs : List Loc) (ls : Array Slot), mz_Wd mz_tM 55 mz_cl dC dI ad en ca s t H locs → lv_has ls 6 [(0, .ref (ad 0)), (1, .int x1), (2, .int x2), (3, .long x3), (5, .int x5)] → W p l e (r_MO_firstOf) s m args below meth c H locs 0 0 (MQ below (mz_Q SX mz_tM 55 mz_cl dC dI ad en ca (some (.int res.1)) res.2) args s 0 0 (mz_A ad 55)) (F0 m 38 ls [])) : ∀ (x1 : Int32) (x2 : Int32) (x3 : Int64) (x5 : Int32) (t : mz_St), f_MO_firstOf_80 n K38 x1 x2 x3 x5 t = some res → ∀ (H : Heap) (locs : List Loc) (ls : Array Slot), mz_Wd mz_tM 55 mz_cl dC dI ad en ca s t H locs → lv_has ls 6 [(0, .ref (ad 0)), (1, .int x1), (2, .int x2), (3, .long x3), (5, .int x5)] → W p l e (r_MO_firstOf) s m args below meth c H locs 0 0 (MQ below (mz_Q SX mz_tM 55 mz_cl dC dI ad en ca (some (.int res.1)) res.2) args s 0 0 (mz_A ad 55)) (F0 m 80 ls []) := by
  obtain ⟨hx, hb, hml, hown, hcx, -, -, hSX, -, -, hSK⟩ := id E
  intro x1 x2 x3 x5 t hf H locs ls w hl
  unfold f_MO_firstOf_80 at hf
  refine lv_iload hx hb d_MO_firstOf_80 (lv_at hl 4 rfl) ?_
  refine lv_bipush (v := (8 : Int32)) hx hb d_MO_firstOf_82 (by decide) ?_
  refine lv_icmp_ge (tgt := 105) hx hb d_MO_firstOf_84 (by decide) (fun hc16 => ?_) (fun hc16 => ?_)
  · have hf := mz_t hc16 hf
    refine lv_lload_n hx hb d_MO_firstOf_105 rfl (lv_at hl 3 rfl) ?_
    exact b_MO_firstOf_106 E n K38 hK38 x1 x2 x5 x3 t hf _ _ _ w (lv_sub hl [0, 1, 2, 4] rfl)
  · have hf := mz_f hc16 hf
    refine lv_lload_n hx hb d_MO_firstOf_87 rfl (lv_at hl 3 rfl) ?_
    refine lv_aload_n hx hb d_MO_firstOf_88 rfl (lv_at hl 0 rfl) ?_
    refine mz_get E w 0 1 (v := .ref (ad 1)) (by decide) rfl rfl ii_11 (by decide) (Nat.le_of_ble_eq_true rfl) k_1184 rfl d_MO_firstOf_89 ?_
    refine lv_iload_n hx hb d_MO_firstOf_92 rfl (lv_at hl 2 rfl) ?_
    obtain ⟨hi17, hf⟩ := mz_gd hf
    refine mz_iald E w 1 (by decide) rfl hi17 d_MO_firstOf_93 ?_
    refine lv_i2l (v := (mz_gI t 1 x2.toNatClampNeg).toInt64) hx hb d_MO_firstOf_94 rfl ?_
    refine lv_bipush (v := (8 : Int32)) hx hb d_MO_firstOf_95 (by decide) ?_
    refine lv_iload hx hb d_MO_firstOf_97 (lv_at hl 4 rfl) ?_
    refine lv_imul hx hb d_MO_firstOf_99 ?_
    refine lv_lshl (v := ((mz_gI t 1 x2.toNatClampNeg).toInt64 <<< (((8 : Int32) * x5).toInt64 &&& 63))) hx hb d_MO_firstOf_100 rfl ?_
    refine lv_lor hx hb d_MO_firstOf_101 ?_
    refine lv_goto (tgt := 106) hx hb d_MO_firstOf_102 (by decide) ?_
    exact b_MO_firstOf_106 E n K38 hK38 x1 x2 x5 (x3 ||| ((mz_gI t 1 x2.toNatClampNeg).toInt64 <<< (((8 : Int32) * x5).toInt64 &&& 63))) t hf _ _ _ w (lv_sub hl [0, 1, 2, 4] rfl)
set_option maxRecDepth 100000 in
set_option maxHeartbeats 4000000 in
theorem b_MO_firstOf_38 {SX : State → Heap → Prop} {dC : Nat → ClassId} {dI : Nat → Nat → Nat} {ad en : Nat → Nat} {ca : Nat → ClassId} {p : Program} {l : Launch} {e : Env} {s : State} {m : MethodId} {args : Array Value} {below : List Frame} {meth : Method} {c : Code} {res : (Int32 × mz_St)} (E : mz_En SX 55 mz_cl dC dI ad ca p s m meth c prog_15_method_13_code 6 "MacroHouseModel" (some (.int))) (n : Nat) (k : Nat) : ∀ (x1 : Int32) (x2 : Int32) (x3 : Int64) (x5 : Int32) (t : mz_St), f_MO_firstOf_38 n k x1 x2 x3 x5 t = some res → ∀ (H : Heap) (locs : List Loc) (ls : Array Slot), mz_Wd mz_tM 55 mz_cl dC dI ad en ca s t H locs → lv_has ls 6 [(0, .ref (ad 0)), (1, .int x1), (2, .int x2), (3, .long x3), (5, .int x5)] → W p l e (r_MO_firstOf) s m args below meth c H locs 0 0 (MQ below (mz_Q SX mz_tM 55 mz_cl dC dI ad en ca (some (.int res.1)) res.2) args s 0 0 (mz_A ad 55)) (F0 m 38 ls []) := by
  obtain ⟨hx, hb, hml, hown, hcx, -, -, hSX, -, -, hSK⟩ := id E
  induction k with
  | zero => intro x1 x2 x3 x5 t hf; exact absurd hf (by unfold f_MO_firstOf_38; exact fun h => nomatch h)
  | succ k ih =>
    intro x1 x2 x3 x5 t hf H locs ls w hl
    unfold f_MO_firstOf_38 at hf
    refine lv_iload_n hx hb d_MO_firstOf_38 rfl (lv_at hl 2 rfl) ?_
    refine lv_aload_n hx hb d_MO_firstOf_39 rfl (lv_at hl 0 rfl) ?_
    refine mz_get E w 0 5 (v := .ref (ad 3)) (by decide) rfl rfl ii_11 (by decide) (Nat.le_of_ble_eq_true rfl) k_1188 rfl d_MO_firstOf_40 ?_
    refine lv_iload_n hx hb d_MO_firstOf_43 rfl (lv_at hl 1 rfl) ?_
    obtain ⟨hi6, hf⟩ := mz_gd hf
    refine mz_iald E w 3 (by decide) rfl hi6 d_MO_firstOf_44 ?_
    refine lv_icmp_ge (tgt := 116) hx hb d_MO_firstOf_45 (by decide) (fun hc7 => ?_) (fun hc7 => ?_)
    · have hf := mz_t hc7 hf
      exact b_MO_firstOf_116 E n x3 x5 t hf _ _ _ w (lv_sub hl [3, 4] rfl)
    · have hf := mz_f hc7 hf
      refine lv_iload hx hb d_MO_firstOf_48 (lv_at hl 4 rfl) ?_
      refine lv_if_ne (tgt := 68) hx hb d_MO_firstOf_50 (by decide) (fun hc11 => ?_) (fun hc11 => ?_)
      · have hf := mz_f hc11 hf
        refine lv_aload_n hx hb d_MO_firstOf_68 rfl (lv_at hl 0 rfl) ?_
        refine mz_get E w 0 1 (v := .ref (ad 1)) (by decide) rfl rfl ii_11 (by decide) (Nat.le_of_ble_eq_true rfl) k_1184 rfl d_MO_firstOf_69 ?_
        refine lv_iload_n hx hb d_MO_firstOf_72 rfl (lv_at hl 2 rfl) ?_
        obtain ⟨hi12, hf⟩ := mz_gd hf
        refine mz_iald E w 1 (by decide) rfl hi12 d_MO_firstOf_73 ?_
        obtain ⟨q13, hq14, hf⟩ := mz_bd hf
        refine mz_callS E w (As := [.int (mz_gI t 1 x2.toNatClampNeg)]) (rest := []) (c_MO_isWordSign hSK l n (mz_gI t 1 x2.toNatClampNeg) t q13 hq14) k_1485 k_15 k_1483 k_1484 hm_MO_isWordSign ⟨⟨rfl, rfl⟩, Nat.le_of_ble_eq_true rfl, Nat.le_of_ble_eq_true rfl⟩ rfl hl.1 rfl (Nat.le_of_ble_eq_true rfl) d_MO_firstOf_74 ⟨Nat.zero_le _, Nat.zero_le _⟩ (st1 := [.int q13.1]) rfl (fun H locs w => ?_)
        refine lv_if_eq (tgt := 116) hx hb d_MO_firstOf_77 (by decide) (fun hc15 => ?_) (fun hc15 => ?_)
        · have hf := mz_t hc15 hf
          exact b_MO_firstOf_116 E n x3 x5 q13.2 hf _ _ _ w (lv_sub hl [3, 4] rfl)
        · have hf := mz_f hc15 hf
          exact b_MO_firstOf_80 E n (f_MO_firstOf_38 n k) ih x1 x2 x3 x5 q13.2 hf _ _ _ w (lv_sub hl [0, 1, 2, 3, 4] rfl)
      · have hf := mz_t hc11 hf
        refine lv_aload_n hx hb d_MO_firstOf_53 rfl (lv_at hl 0 rfl) ?_
        refine mz_get E w 0 1 (v := .ref (ad 1)) (by decide) rfl rfl ii_11 (by decide) (Nat.le_of_ble_eq_true rfl) k_1184 rfl d_MO_firstOf_54 ?_
        refine lv_iload_n hx hb d_MO_firstOf_57 rfl (lv_at hl 2 rfl) ?_
        obtain ⟨hi18, hf⟩ := mz_gd hf
        refine mz_iald E w 1 (by decide) rfl hi18 d_MO_firstOf_58 ?_
        obtain ⟨q19, hq20, hf⟩ := mz_bd hf
        refine mz_callS E w (As := [.int (mz_gI t 1 x2.toNatClampNeg)]) (rest := []) (c_MO_isBegin hSK l n (mz_gI t 1 x2.toNatClampNeg) t q19 hq20) k_1482 k_15 k_1480 k_1481 hm_MO_isBegin ⟨⟨rfl, rfl⟩, Nat.le_of_ble_eq_true rfl, Nat.le_of_ble_eq_true rfl⟩ rfl hl.1 rfl (Nat.le_of_ble_eq_true rfl) d_MO_firstOf_59 ⟨Nat.zero_le _, Nat.zero_le _⟩ (st1 := [.int q19.1]) rfl (fun H locs w => ?_)
        refine lv_if_eq (tgt := 116) hx hb d_MO_firstOf_62 (by decide) (fun hc21 => ?_) (fun hc21 => ?_)
        · have hf := mz_t hc21 hf
          exact b_MO_firstOf_116 E n x3 x5 q19.2 hf _ _ _ w (lv_sub hl [3, 4] rfl)
        · have hf := mz_f hc21 hf
          refine lv_goto (tgt := 80) hx hb d_MO_firstOf_65 (by decide) ?_
          exact b_MO_firstOf_80 E n (f_MO_firstOf_38 n k) ih x1 x2 x3 x5 q19.2 hf _ _ _ w (lv_sub hl [0, 1, 2, 3, 4] rfl)
set_option maxRecDepth 100000 in
set_option maxHeartbeats 4000000 in
theorem c_MO_firstOf {SX : State → Heap → Prop} {dC : Nat → ClassId} {dI : Nat → Nat → Nat} {ad en : Nat → Nat} {ca : Nat → ClassId} (hSK : mz_SK SX ad 55) (l : Launch) (n : Nat) (x1 : Int32) (t : mz_St) (res : (Int32 × mz_St)) (hf : f_MO_firstOf n x1 t = some res) : mz_C SX mz_tM 55 mz_cl dC dI ad en ca l y_MO_firstOf prog_15_method_13_code 6 (some (.int)) (r_MO_firstOf) [.ref (ad 0), .int x1] t (some (.int res.1)) res.2 := by
  unfold f_MO_firstOf at hf
  refine mz_met hSK (by decide) (Nat.le_of_ble_eq_true rfl) ?_
  intro p e s m args below meth c ls E w hl
  obtain ⟨hx, hb, hml, hown, hcx, -, -, hSX, -, -, -⟩ := id E
  have hl : lv_has ls 6 [(0, .ref (ad 0)), (1, .int x1)] := hl
  refine lv_aload_n hx hb d_MO_firstOf_0 rfl (lv_at hl 0 rfl) ?_
  refine mz_get E w 0 4 (v := .ref (ad 2)) (by decide) rfl rfl ii_11 (by decide) (Nat.le_of_ble_eq_true rfl) k_1187 rfl d_MO_firstOf_1 ?_
  refine lv_iload_n hx hb d_MO_firstOf_4 rfl (lv_at hl 1 rfl) ?_
  obtain ⟨hi1, hf⟩ := mz_gd hf
  refine mz_iald E w 2 (by decide) rfl hi1 d_MO_firstOf_5 ?_
  refine lv_istore_n (lv' := [(2, .int (mz_gI t 2 x1.toNatClampNeg)), (0, .ref (ad 0)), (1, .int x1)]) hx hb d_MO_firstOf_6 rfl hl (by decide) rfl (fun ls hl => ?_)
  refine lv_iload_n hx hb d_MO_firstOf_7 rfl (lv_at hl 0 rfl) ?_
  refine lv_aload_n hx hb d_MO_firstOf_8 rfl (lv_at hl 1 rfl) ?_
  refine mz_get E w 0 5 (v := .ref (ad 3)) (by decide) rfl rfl ii_11 (by decide) (Nat.le_of_ble_eq_true rfl) k_1188 rfl d_MO_firstOf_9 ?_
  refine lv_iload_n hx hb d_MO_firstOf_12 rfl (lv_at hl 2 rfl) ?_
  obtain ⟨hi2, hf⟩ := mz_gd hf
  refine mz_iald E w 3 (by decide) rfl hi2 d_MO_firstOf_13 ?_
  refine lv_icmp_eq (tgt := 28) hx hb d_MO_firstOf_14 (by decide) (fun hc3 => ?_) (fun hc3 => ?_)
  · have hf := mz_t hc3 hf
    refine lv_iconst (v := (0 : Int32)) hx hb d_MO_firstOf_28 (by decide) ?_
    obtain rfl := Option.some.inj hf
    exact mz_iret E w rfl d_MO_firstOf_29
  · have hf := mz_f hc3 hf
    refine lv_aload_n hx hb d_MO_firstOf_17 rfl (lv_at hl 1 rfl) ?_
    refine mz_get E w 0 1 (v := .ref (ad 1)) (by decide) rfl rfl ii_11 (by decide) (Nat.le_of_ble_eq_true rfl) k_1184 rfl d_MO_firstOf_18 ?_
    refine lv_iload_n hx hb d_MO_firstOf_21 rfl (lv_at hl 0 rfl) ?_
    obtain ⟨hi4, hf⟩ := mz_gd hf
    refine mz_iald E w 1 (by decide) rfl hi4 d_MO_firstOf_22 ?_
    refine lv_bipush (v := (46 : Int32)) hx hb d_MO_firstOf_23 (by decide) ?_
    refine lv_icmp_eq (tgt := 30) hx hb d_MO_firstOf_25 (by decide) (fun hc5 => ?_) (fun hc5 => ?_)
    · have hf := mz_t hc5 hf
      refine lv_lconst (v := (0 : Int64)) hx hb d_MO_firstOf_30 (by decide) ?_
      refine lv_lstore_n (lv' := [(3, .long (0 : Int64)), (2, .int (mz_gI t 2 x1.toNatClampNeg)), (0, .ref (ad 0)), (1, .int x1)]) hx hb d_MO_firstOf_31 rfl hl (by decide) rfl (fun ls hl => ?_)
      refine lv_iconst (v := (0 : Int32)) hx hb d_MO_firstOf_32 (by decide) ?_
      refine lv_istore (lv' := [(5, .int (0 : Int32)), (3, .long (0 : Int64)), (2, .int (mz_gI t 2 x1.toNatClampNeg)), (0, .ref (ad 0)), (1, .int x1)]) hx hb d_MO_firstOf_33 hl (by decide) rfl (fun ls hl => ?_)
      refine lv_iinc (v := ((mz_gI t 2 x1.toNatClampNeg) + (1 : Int32))) (lv' := [(2, .int ((mz_gI t 2 x1.toNatClampNeg) + (1 : Int32))), (5, .int (0 : Int32)), (3, .long (0 : Int64)), (0, .ref (ad 0)), (1, .int x1)]) hx hb d_MO_firstOf_35 hl (k := 2) rfl rfl (by decide) rfl (fun ls hl => ?_)
      exact b_MO_firstOf_38 E n n x1 ((mz_gI t 2 x1.toNatClampNeg) + (1 : Int32)) (0 : Int64) (0 : Int32) t hf _ _ _ w (lv_sub hl [3, 4, 0, 2, 1] rfl)
    · have hf := mz_f hc5 hf
      refine lv_iconst (v := (0 : Int32)) hx hb d_MO_firstOf_28 (by decide) ?_
      obtain rfl := Option.some.inj hf
      exact mz_iret E w rfl d_MO_firstOf_29

/-! MacroHouseModel.openIf(ZZ)V -/
abbrev r_MO_openIf : Room := { frames := 1, cells := 0, slots := 0, locals := 22 }
def f_MO_openIf (n : Nat) (x1 : Int32) (x2 : Int32) (t : mz_St) : Option mz_St := if (mz_gI t 0 53) = (8 : Int32) then ((f_MO_fail n (6 : Int32) (mz_gI t 0 63) t).bind fun q13 => some q13) else (if ¬ ((mz_gI t 0 53) < 0 ∨ 9 ≤ (mz_gI t 0 53).toNatClampNeg) then (mz_let (mz_pI t 38 (mz_gI t 0 53).toNatClampNeg (vp_nar .boolean x1)) fun t3 => if ¬ ((mz_gI t3 0 53) < 0 ∨ 9 ≤ (mz_gI t3 0 53).toNatClampNeg) then (mz_let (mz_pI t3 39 (mz_gI t3 0 53).toNatClampNeg (vp_nar .boolean x1)) fun t5 => if ¬ ((mz_gI t5 0 53) < 0 ∨ 9 ≤ (mz_gI t5 0 53).toNatClampNeg) then (mz_let (mz_pI t5 40 (mz_gI t5 0 53).toNatClampNeg (vp_nar .boolean x2)) fun t7 => if ¬ ((mz_gI t7 0 53) < 0 ∨ 9 ≤ (mz_gI t7 0 53).toNatClampNeg) then (mz_let (mz_pI t7 41 (mz_gI t7 0 53).toNatClampNeg (vp_nar .boolean (0 : Int32))) fun t9 => if ¬ ((mz_gI t9 0 53) < 0 ∨ 9 ≤ (mz_gI t9 0 53).toNatClampNeg) then (mz_let (mz_pI t9 42 (mz_gI t9 0 53).toNatClampNeg (mz_gI t9 0 63)) fun t11 => mz_let (mz_pI t11 0 53 ((mz_gI t11 0 53) + (1 : Int32))) fun t12 => some t12) else none) else none) else none) else none) else none)
set_option maxRecDepth 100000 in
set_option maxHeartbeats 4000000 in
theorem c_MO_openIf {SX : State → Heap → Prop} {dC : Nat → ClassId} {dI : Nat → Nat → Nat} {ad en : Nat → Nat} {ca : Nat → ClassId} (hSK : mz_SK SX ad 55) (l : Launch) (n : Nat) (x1 : Int32) (x2 : Int32) (t : mz_St) (res : mz_St) (hf : f_MO_openIf n x1 x2 t = some res) : mz_C SX mz_tM 55 mz_cl dC dI ad en ca l y_MO_openIf prog_15_method_51_code 3 none (r_MO_openIf) [.ref (ad 0), .int x1, .int x2] t none res := by
  unfold f_MO_openIf at hf
  refine mz_met hSK (by decide) (Nat.le_of_ble_eq_true rfl) ?_
  intro p e s m args below meth c ls E w hl
  obtain ⟨hx, hb, hml, hown, hcx, -, -, hSX, -, -, -⟩ := id E
  have hl : lv_has ls 3 [(0, .ref (ad 0)), (1, .int x1), (2, .int x2)] := hl
  refine lv_aload_n hx hb d_MO_openIf_0 rfl (lv_at hl 0 rfl) ?_
  refine mz_get E w 0 53 (v := .int (mz_gI t 0 53)) (by decide) rfl rfl ii_11 (by decide) (Nat.le_of_ble_eq_true rfl) k_1236 rfl d_MO_openIf_1 ?_
  refine lv_bipush (v := (8 : Int32)) hx hb d_MO_openIf_4 (by decide) ?_
  refine lv_icmp_ne (tgt := 20) hx hb d_MO_openIf_6 (by decide) (fun hc1 => ?_) (fun hc1 => ?_)
  · have hf := mz_f hc1 hf
    refine lv_aload_n hx hb d_MO_openIf_20 rfl (lv_at hl 0 rfl) ?_
    refine mz_get E w 0 54 (v := .ref (ad 38)) (by decide) rfl rfl ii_11 (by decide) (Nat.le_of_ble_eq_true rfl) k_1237 rfl d_MO_openIf_21 ?_
    refine lv_aload_n hx hb d_MO_openIf_24 rfl (lv_at hl 0 rfl) ?_
    refine mz_get E w 0 53 (v := .int (mz_gI t 0 53)) (by decide) rfl rfl ii_11 (by decide) (Nat.le_of_ble_eq_true rfl) k_1236 rfl d_MO_openIf_25 ?_
    refine lv_iload_n hx hb d_MO_openIf_28 rfl (lv_at hl 1 rfl) ?_
    obtain ⟨hi2, hf⟩ := mz_gd hf
    refine mz_zast E w 38 (x := x1) (by decide) rfl hi2 d_MO_openIf_29 (fun H locs w => ?_)
    obtain ⟨t3, e_t3, hf⟩ := mz_lt hf
    rw [← e_t3] at w
    refine lv_aload_n hx hb d_MO_openIf_30 rfl (lv_at hl 0 rfl) ?_
    refine mz_get E w 0 55 (v := .ref (ad 39)) (by decide) rfl rfl ii_11 (by decide) (Nat.le_of_ble_eq_true rfl) k_1238 rfl d_MO_openIf_31 ?_
    refine lv_aload_n hx hb d_MO_openIf_34 rfl (lv_at hl 0 rfl) ?_
    refine mz_get E w 0 53 (v := .int (mz_gI t3 0 53)) (by decide) rfl rfl ii_11 (by decide) (Nat.le_of_ble_eq_true rfl) k_1236 rfl d_MO_openIf_35 ?_
    refine lv_iload_n hx hb d_MO_openIf_38 rfl (lv_at hl 1 rfl) ?_
    obtain ⟨hi4, hf⟩ := mz_gd hf
    refine mz_zast E w 39 (x := x1) (by decide) rfl hi4 d_MO_openIf_39 (fun H locs w => ?_)
    obtain ⟨t5, e_t5, hf⟩ := mz_lt hf
    rw [← e_t5] at w
    refine lv_aload_n hx hb d_MO_openIf_40 rfl (lv_at hl 0 rfl) ?_
    refine mz_get E w 0 56 (v := .ref (ad 40)) (by decide) rfl rfl ii_11 (by decide) (Nat.le_of_ble_eq_true rfl) k_1239 rfl d_MO_openIf_41 ?_
    refine lv_aload_n hx hb d_MO_openIf_44 rfl (lv_at hl 0 rfl) ?_
    refine mz_get E w 0 53 (v := .int (mz_gI t5 0 53)) (by decide) rfl rfl ii_11 (by decide) (Nat.le_of_ble_eq_true rfl) k_1236 rfl d_MO_openIf_45 ?_
    refine lv_iload_n hx hb d_MO_openIf_48 rfl (lv_at hl 2 rfl) ?_
    obtain ⟨hi6, hf⟩ := mz_gd hf
    refine mz_zast E w 40 (x := x2) (by decide) rfl hi6 d_MO_openIf_49 (fun H locs w => ?_)
    obtain ⟨t7, e_t7, hf⟩ := mz_lt hf
    rw [← e_t7] at w
    refine lv_aload_n hx hb d_MO_openIf_50 rfl (lv_at hl 0 rfl) ?_
    refine mz_get E w 0 57 (v := .ref (ad 41)) (by decide) rfl rfl ii_11 (by decide) (Nat.le_of_ble_eq_true rfl) k_1240 rfl d_MO_openIf_51 ?_
    refine lv_aload_n hx hb d_MO_openIf_54 rfl (lv_at hl 0 rfl) ?_
    refine mz_get E w 0 53 (v := .int (mz_gI t7 0 53)) (by decide) rfl rfl ii_11 (by decide) (Nat.le_of_ble_eq_true rfl) k_1236 rfl d_MO_openIf_55 ?_
    refine lv_iconst (v := (0 : Int32)) hx hb d_MO_openIf_58 (by decide) ?_
    obtain ⟨hi8, hf⟩ := mz_gd hf
    refine mz_zast E w 41 (x := (0 : Int32)) (by decide) rfl hi8 d_MO_openIf_59 (fun H locs w => ?_)
    obtain ⟨t9, e_t9, hf⟩ := mz_lt hf
    rw [← e_t9] at w
    refine lv_aload_n hx hb d_MO_openIf_60 rfl (lv_at hl 0 rfl) ?_
    refine mz_get E w 0 58 (v := .ref (ad 42)) (by decide) rfl rfl ii_11 (by decide) (Nat.le_of_ble_eq_true rfl) k_1241 rfl d_MO_openIf_61 ?_
    refine lv_aload_n hx hb d_MO_openIf_64 rfl (lv_at hl 0 rfl) ?_
    refine mz_get E w 0 53 (v := .int (mz_gI t9 0 53)) (by decide) rfl rfl ii_11 (by decide) (Nat.le_of_ble_eq_true rfl) k_1236 rfl d_MO_openIf_65 ?_
    refine lv_aload_n hx hb d_MO_openIf_68 rfl (lv_at hl 0 rfl) ?_
    refine mz_get E w 0 63 (v := .int (mz_gI t9 0 63)) (by decide) rfl rfl ii_11 (by decide) (Nat.le_of_ble_eq_true rfl) k_1246 rfl d_MO_openIf_69 ?_
    obtain ⟨hi10, hf⟩ := mz_gd hf
    refine mz_iast E w 42 (x := (mz_gI t9 0 63)) (by decide) rfl hi10 d_MO_openIf_72 (fun H locs w => ?_)
    obtain ⟨t11, e_t11, hf⟩ := mz_lt hf
    rw [← e_t11] at w
    refine lv_aload_n hx hb d_MO_openIf_73 rfl (lv_at hl 0 rfl) ?_
    refine lv_dup hx hb d_MO_openIf_74 rfl ?_
    refine mz_get E w 0 53 (v := .int (mz_gI t11 0 53)) (by decide) rfl rfl ii_11 (by decide) (Nat.le_of_ble_eq_true rfl) k_1236 rfl d_MO_openIf_75 ?_
    refine lv_iconst (v := (1 : Int32)) hx hb d_MO_openIf_78 (by decide) ?_
    refine lv_iadd hx hb d_MO_openIf_79 ?_
    refine mz_put E w 0 53 (v := ((mz_gI t11 0 53) + (1 : Int32))) (by decide) rfl rfl ii_11 tk_11 nm_11 (by decide) (Nat.le_of_ble_eq_true rfl) k_1236 rfl (tk_11 53 (by decide)) rfl rfl rfl d_MO_openIf_80 (fun H locs w => ?_)
    obtain ⟨t12, e_t12, hf⟩ := mz_lt hf
    rw [← e_t12] at w
    obtain rfl := Option.some.inj hf
    exact mz_vret E w rfl d_MO_openIf_83
  · have hf := mz_t hc1 hf
    refine lv_aload_n hx hb d_MO_openIf_9 rfl (lv_at hl 0 rfl) ?_
    refine lv_bipush (v := (6 : Int32)) hx hb d_MO_openIf_10 (by decide) ?_
    refine lv_aload_n hx hb d_MO_openIf_12 rfl (lv_at hl 0 rfl) ?_
    refine mz_get E w 0 63 (v := .int (mz_gI t 0 63)) (by decide) rfl rfl ii_11 (by decide) (Nat.le_of_ble_eq_true rfl) k_1246 rfl d_MO_openIf_13 ?_
    obtain ⟨q13, hq14, hf⟩ := mz_bd hf
    refine mz_callV E w (k := 0) (As := [.int (6 : Int32), .int (mz_gI t 0 63)]) (rest := []) (c_MO_fail hSK l n (6 : Int32) (mz_gI t 0 63) t q13 hq14) (by decide) rfl rfl k_1467 k_15 k_1464 k_1466 ks_53 hm_MO_fail ⟨⟨rfl, rfl⟩, Nat.le_of_ble_eq_true rfl, Nat.le_of_ble_eq_true rfl⟩ rfl hl.1 rfl (Nat.le_of_ble_eq_true rfl) d_MO_openIf_16 ⟨Nat.zero_le _, Nat.zero_le _⟩ (st1 := []) rfl (fun H locs w => ?_)
    obtain rfl := Option.some.inj hf
    exact mz_vret E w rfl d_MO_openIf_19
