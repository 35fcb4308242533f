/-! The throwing ends of the face -/
set_option maxRecDepth 100000 in
set_option maxHeartbeats 4000000 in
theorem b0_SI_mayStand_18 {SX : State → Heap → Prop} {dC : Nat → ClassId} {dI : Nat → Nat → Nat} {ad en : Nat → Nat} {ca : Nat → ClassId} {p : Program} {l : Launch} {e : Env} {s : State} {m : MethodId} {args : Array Value} {below : List Frame} {meth : Method} {c : Code} {res : (Int32 × mz_St)} (E : mz_En SX 0 mz_cl dC dI ad ca p s m meth c prog_12_method_2_code 1 "MacroHouse$Signs" (some (.boolean))) (n : Nat) : ∀ (t : mz_St), f_SI_mayStand_18 n t = some res → ∀ (H : Heap) (locs : List Loc) (ls : Array Slot), mz_Wd mz_tC 0 mz_cl dC dI ad en ca s t H locs → lv_has ls 1 [] → W p l e (r_SI_mayStand) s m args below meth c H locs 0 0 (MQ below (mz_Q SX mz_tC 0 mz_cl dC dI ad en ca (some (.int res.1)) res.2) args s 0 0 (mz_A ad 0)) (F0 m 18 ls []) := by
  obtain ⟨hx, hb, hml, hown, hcx, -, -, hSX, -, -, hSK⟩ := id E
  intro t hf H locs ls w hl
  unfold f_SI_mayStand_18 at hf
  refine lv_iconst (v := (1 : Int32)) hx hb d_SI_mayStand_18 (by decide) ?_
  refine lv_goto (tgt := 23) hx hb d_SI_mayStand_19 (by decide) ?_
  obtain rfl := Option.some.inj hf
  exact mz_zret E w (by decide) rfl d_SI_mayStand_23
set_option maxRecDepth 100000 in
set_option maxHeartbeats 4000000 in
theorem c0_SI_mayStand {dC : Nat → ClassId} {dI : Nat → Nat → Nat} {ad en : Nat → Nat} {ca : Nat → ClassId} (l : Launch) (n : Nat) (x0 : Int32) (t : mz_St) (res : (Int32 × mz_St)) (hf : f_SI_mayStand n x0 t = some res) : mz_C (fun _ _ => True) mz_tC 0 mz_cl dC dI ad en ca l y_SI_mayStand prog_12_method_2_code 1 (some (.boolean)) (r_SI_mayStand) [.int x0] t (some (.int res.1)) res.2 := by
  unfold f_SI_mayStand at hf
  refine mz_met (fun _ _ _ _ _ _ => trivial) (by decide) (Nat.le_of_ble_eq_true rfl) ?_
  intro p e s m args below meth c ls E w hl
  obtain ⟨hx, hb, hml, hown, hcx, -, -, hSX, -, -, -⟩ := id E
  have hl : lv_has ls 1 [(0, .int x0)] := hl
  refine lv_iload_n hx hb d_SI_mayStand_0 rfl (lv_at hl 0 rfl) ?_
  refine lv_bipush (v := (10 : Int32)) hx hb d_SI_mayStand_1 (by decide) ?_
  refine lv_icmp_eq (tgt := 18) hx hb d_SI_mayStand_3 (by decide) (fun hc1 => ?_) (fun hc1 => ?_)
  · have hf := mz_t hc1 hf
    exact b0_SI_mayStand_18 E n  t hf _ _ _ w (lv_sub hl [] rfl)
  · have hf := mz_f hc1 hf
    refine lv_iload_n hx hb d_SI_mayStand_6 rfl (lv_at hl 0 rfl) ?_
    refine lv_bipush (v := (32 : Int32)) hx hb d_SI_mayStand_7 (by decide) ?_
    refine lv_icmp_lt (tgt := 22) hx hb d_SI_mayStand_9 (by decide) (fun hc2 => ?_) (fun hc2 => ?_)
    · have hf := mz_t hc2 hf
      refine lv_iconst (v := (0 : Int32)) hx hb d_SI_mayStand_22 (by decide) ?_
      obtain rfl := Option.some.inj hf
      exact mz_zret E w (by decide) rfl d_SI_mayStand_23
    · have hf := mz_f hc2 hf
      refine lv_iload_n hx hb d_SI_mayStand_12 rfl (lv_at hl 0 rfl) ?_
      refine lv_bipush (v := (126 : Int32)) hx hb d_SI_mayStand_13 (by decide) ?_
      refine lv_icmp_gt (tgt := 22) hx hb d_SI_mayStand_15 (by decide) (fun hc3 => ?_) (fun hc3 => ?_)
      · have hf := mz_t hc3 hf
        refine lv_iconst (v := (0 : Int32)) hx hb d_SI_mayStand_22 (by decide) ?_
        obtain rfl := Option.some.inj hf
        exact mz_zret E w (by decide) rfl d_SI_mayStand_23
      · have hf := mz_f hc3 hf
        exact b0_SI_mayStand_18 E n  t hf _ _ _ w (lv_sub hl [] rfl)

/-! MacroHouse.put(I)I: what it throws -/
abbrev r_MH_put_T : Room := { frames := 6, cells := 1, slots := 6, locals := 82 }
def f_MH_put_T_53 (n : Nat) (K4 : Int32 → Int32 → Int32 → mz_St → Option Nat) (x1 : Int32) (x3 : Int32) (s0 : Int32) (s1 : Int32) (t : mz_St) : Option Nat := K4 x1 (s0 + s1) (x3 + (8 : Int32)) t
def f_MH_put_T_42 (n : Nat) (K4 : Int32 → Int32 → Int32 → mz_St → Option Nat) (x1 : Int32) (x2 : Int32) (x3 : Int32) (x4 : Int32) (t : mz_St) : Option Nat := if x4 = 0 then (f_MH_put_T_53 n K4 x1 x3 x2 (0 : Int32) t) else (f_MH_put_T_53 n K4 x1 x3 x2 (1 : Int32) t)
def f_MH_put_T_4 (n : Nat) : Nat → Int32 → Int32 → Int32 → mz_St → Option Nat
  | 0, _, _, _, _ => none
  | k + 1, x1, x2, x3, t => if (32 : Int32) ≤ x3 then (if ((mz_gI t 1 3) + x2) ≤ (3000 : Int32) then none else (some 1)) else (if ((x1.toUInt32 >>> (x3.toUInt32 &&& Int32.toUInt32 31)).toInt32 &&& (255 : Int32)) = 0 then (f_MH_put_T_42 n (f_MH_put_T_4 n k) x1 x2 x3 ((x1.toUInt32 >>> (x3.toUInt32 &&& Int32.toUInt32 31)).toInt32 &&& (255 : Int32)) t) else ((f_SI_mayStand n ((x1.toUInt32 >>> (x3.toUInt32 &&& Int32.toUInt32 31)).toInt32 &&& (255 : Int32)) t).bind fun q5 => if q5.1 = 0 then (some 0) else (f_MH_put_T_42 n (f_MH_put_T_4 n k) x1 x2 x3 ((x1.toUInt32 >>> (x3.toUInt32 &&& Int32.toUInt32 31)).toInt32 &&& (255 : Int32)) t)))
def f_MH_put_T (n : Nat) (x1 : Int32) (t : mz_St) : Option Nat := f_MH_put_T_4 n n x1 (0 : Int32) (0 : Int32) t
set_option maxRecDepth 100000 in
set_option maxHeartbeats 4000000 in
theorem b_MH_put_T_53 {SX : State → Heap → Prop} {dC : Nat → ClassId} {dI : Nat → Nat → Nat} {ad en : Nat → Nat} {ca : Nat → ClassId} {p : Program} {l : Launch} {e : Env} {s : State} {m : MethodId} {args : Array Value} {below : List Frame} {meth : Method} {c : Code} {res : Nat} (E : mz_En SX 80 mz_cl dC dI ad ca p s m meth c prog_1_method_2_code 5 "MacroHouse" (some (.int))) (hTH : mz_TH s) (hex : c.exceptionTable.toList = []) (hLT : e.platform.stackTraces = false) (n : Nat) (K4 : Int32 → Int32 → Int32 → mz_St → Option Nat) (hK4 : ∀ (x1 : Int32) (x2 : Int32) (x3 : Int32) (t : mz_St), K4 x1 x2 x3 t = some res → ∀ (H : Heap) (locs : List Loc) (ls : Array Slot), mz_Wt mz_tC 80 mz_cl dC dI ad en ca s t H locs → lv_has ls 5 [(0, .ref (ad 0)), (1, .int x1), (2, .int x2), (3, .int x3)] → W p l e (r_MH_put_T) s m args below meth c H locs 0 0 (MQT below (mz_QT SX mz_tC 80 mz_cl dC dI ad en ca (mz_exn res) t) args s 1 6 (fun _ => False)) (F0 m 4 ls [])) : ∀ (x1 : Int32) (x3 : Int32) (s0 : Int32) (s1 : Int32) (t : mz_St), f_MH_put_T_53 n K4 x1 x3 s0 s1 t = some res → ∀ (H : Heap) (locs : List Loc) (ls : Array Slot), mz_Wt mz_tC 80 mz_cl dC dI ad en ca s t H locs → lv_has ls 5 [(0, .ref (ad 0)), (1, .int x1), (3, .int x3)] → W p l e (r_MH_put_T) s m args below meth c H locs 0 0 (MQT below (mz_QT SX mz_tC 80 mz_cl dC dI ad en ca (mz_exn res) t) args s 1 6 (fun _ => False)) (F0 m 53 ls [.int s1, .int s0]) := by
  obtain ⟨hx, hb, hml, hown, hcx, -, -, hSX, -, -, hSK⟩ := id E
  intro x1 x3 s0 s1 t hf H locs ls w hl
  obtain ⟨w, rfl, rfl⟩ := w
  unfold f_MH_put_T_53 at hf
  refine lv_iadd hx hb d_MH_put_53 ?_
  refine lv_istore_n (lv' := [(2, .int (s0 + s1)), (0, .ref (ad 0)), (1, .int x1), (3, .int x3)]) hx hb d_MH_put_54 rfl hl (by decide) rfl (fun ls hl => ?_)
  refine lv_iinc (v := (x3 + (8 : Int32))) (lv' := [(3, .int (x3 + (8 : Int32))), (2, .int (s0 + s1)), (0, .ref (ad 0)), (1, .int x1)]) hx hb d_MH_put_55 hl (k := 3) rfl rfl (by decide) rfl (fun ls hl => ?_)
  refine lv_goto (tgt := 4) hx hb d_MH_put_58 (by decide) ?_
  exact hK4 x1 (s0 + s1) (x3 + (8 : Int32)) t hf _ _ _ ⟨w, rfl, rfl⟩ (lv_sub hl [2, 3, 1, 0] rfl)
set_option maxRecDepth 100000 in
set_option maxHeartbeats 4000000 in
theorem b_MH_put_T_42 {SX : State → Heap → Prop} {dC : Nat → ClassId} {dI : Nat → Nat → Nat} {ad en : Nat → Nat} {ca : Nat → ClassId} {p : Program} {l : Launch} {e : Env} {s : State} {m : MethodId} {args : Array Value} {below : List Frame} {meth : Method} {c : Code} {res : Nat} (E : mz_En SX 80 mz_cl dC dI ad ca p s m meth c prog_1_method_2_code 5 "MacroHouse" (some (.int))) (hTH : mz_TH s) (hex : c.exceptionTable.toList = []) (hLT : e.platform.stackTraces = false) (n : Nat) (K4 : Int32 → Int32 → Int32 → mz_St → Option Nat) (hK4 : ∀ (x1 : Int32) (x2 : Int32) (x3 : Int32) (t : mz_St), K4 x1 x2 x3 t = some res → ∀ (H : Heap) (locs : List Loc) (ls : Array Slot), mz_Wt mz_tC 80 mz_cl dC dI ad en ca s t H locs → lv_has ls 5 [(0, .ref (ad 0)), (1, .int x1), (2, .int x2), (3, .int x3)] → W p l e (r_MH_put_T) s m args below meth c H locs 0 0 (MQT below (mz_QT SX mz_tC 80 mz_cl dC dI ad en ca (mz_exn res) t) args s 1 6 (fun _ => False)) (F0 m 4 ls [])) : ∀ (x1 : Int32) (x2 : Int32) (x3 : Int32) (x4 : Int32) (t : mz_St), f_MH_put_T_42 n K4 x1 x2 x3 x4 t = some res → ∀ (H : Heap) (locs : List Loc) (ls : Array Slot), mz_Wt mz_tC 80 mz_cl dC dI ad en ca s t H locs → lv_has ls 5 [(0, .ref (ad 0)), (1, .int x1), (2, .int x2), (3, .int x3), (4, .int x4)] → W p l e (r_MH_put_T) s m args below meth c H locs 0 0 (MQT below (mz_QT SX mz_tC 80 mz_cl dC dI ad en ca (mz_exn res) t) args s 1 6 (fun _ => False)) (F0 m 42 ls []) := by
  obtain ⟨hx, hb, hml, hown, hcx, -, -, hSX, -, -, hSK⟩ := id E
  intro x1 x2 x3 x4 t hf H locs ls w hl
  obtain ⟨w, rfl, rfl⟩ := w
  unfold f_MH_put_T_42 at hf
  refine lv_iload_n hx hb d_MH_put_42 rfl (lv_at hl 2 rfl) ?_
  refine lv_iload hx hb d_MH_put_43 (lv_at hl 4 rfl) ?_
  refine lv_if_ne (tgt := 52) hx hb d_MH_put_45 (by decide) (fun hc4 => ?_) (fun hc4 => ?_)
  · have hf := mz_f hc4 hf
    refine lv_iconst (v := (1 : Int32)) hx hb d_MH_put_52 (by decide) ?_
    exact b_MH_put_T_53 E hTH hex hLT n K4 hK4 x1 x3 x2 (1 : Int32) t hf _ _ _ ⟨w, rfl, rfl⟩ (lv_sub hl [0, 1, 3] rfl)
  · have hf := mz_t hc4 hf
    refine lv_iconst (v := (0 : Int32)) hx hb d_MH_put_48 (by decide) ?_
    refine lv_goto (tgt := 53) hx hb d_MH_put_49 (by decide) ?_
    exact b_MH_put_T_53 E hTH hex hLT n K4 hK4 x1 x3 x2 (0 : Int32) t hf _ _ _ ⟨w, rfl, rfl⟩ (lv_sub hl [0, 1, 3] rfl)
set_option maxRecDepth 100000 in
set_option maxHeartbeats 4000000 in
theorem b_MH_put_T_4 {SX : State → Heap → Prop} {dC : Nat → ClassId} {dI : Nat → Nat → Nat} {ad en : Nat → Nat} {ca : Nat → ClassId} {p : Program} {l : Launch} {e : Env} {s : State} {m : MethodId} {args : Array Value} {below : List Frame} {meth : Method} {c : Code} {res : Nat} (E : mz_En SX 80 mz_cl dC dI ad ca p s m meth c prog_1_method_2_code 5 "MacroHouse" (some (.int))) (hTH : mz_TH s) (hex : c.exceptionTable.toList = []) (hLT : e.platform.stackTraces = false) (n : Nat) (k : Nat) : ∀ (x1 : Int32) (x2 : Int32) (x3 : Int32) (t : mz_St), f_MH_put_T_4 n k x1 x2 x3 t = some res → ∀ (H : Heap) (locs : List Loc) (ls : Array Slot), mz_Wt mz_tC 80 mz_cl dC dI ad en ca s t H locs → lv_has ls 5 [(0, .ref (ad 0)), (1, .int x1), (2, .int x2), (3, .int x3)] → W p l e (r_MH_put_T) s m args below meth c H locs 0 0 (MQT below (mz_QT SX mz_tC 80 mz_cl dC dI ad en ca (mz_exn res) t) args s 1 6 (fun _ => False)) (F0 m 4 ls []) := by
  obtain ⟨hx, hb, hml, hown, hcx, -, -, hSX, -, -, hSK⟩ := id E
  induction k with
  | zero => intro x1 x2 x3 t hf; exact absurd hf (by unfold f_MH_put_T_4; exact fun h => nomatch h)
  | succ k ih =>
    intro x1 x2 x3 t hf H locs ls w hl
    obtain ⟨w, rfl, rfl⟩ := w
    unfold f_MH_put_T_4 at hf
    refine lv_iload_n hx hb d_MH_put_4 rfl (lv_at hl 3 rfl) ?_
    refine lv_bipush (v := (32 : Int32)) hx hb d_MH_put_5 (by decide) ?_
    refine lv_icmp_ge (tgt := 61) hx hb d_MH_put_7 (by decide) (fun hc1 => ?_) (fun hc1 => ?_)
    · have hf := mz_t hc1 hf
      refine lv_aload_n hx hb d_MH_put_61 rfl (lv_at hl 0 rfl) ?_
      refine mz_get E w 0 0 (v := .ref (ad 1)) (by decide) rfl rfl ii_0 (by decide) (Nat.le_of_ble_eq_true rfl) k_424 rfl d_MH_put_62 ?_
      refine mz_get E w 1 3 (v := .int (mz_gI t 1 3)) (by decide) rfl rfl ii_1 (by decide) (Nat.le_of_ble_eq_true rfl) k_44 rfl d_MH_put_65 ?_
      refine lv_iload_n hx hb d_MH_put_68 rfl (lv_at hl 2 rfl) ?_
      refine lv_iadd hx hb d_MH_put_69 ?_
      refine lv_sipush (v := (3000 : Int32)) hx hb d_MH_put_70 (by decide) ?_
      refine lv_icmp_le (tgt := 86) hx hb d_MH_put_73 (by decide) (fun hc2 => ?_) (fun hc2 => ?_)
      · have hf := mz_t hc2 hf
        exact nomatch hf
      · have hf := mz_f hc2 hf
        obtain rfl := Option.some.inj hf
        obtain ⟨q9, hZ⟩ := hTH.2 _ (List.mem_of_getElem? (l := mz_st) (i := 1) rfl)
        exact mz_throw E hLT hex w k_1087 k_1088 k_20 hZ (mz_own1 hcx hTH) (by decide) (by decide) d_MH_put_76 d_MH_put_79 d_MH_put_80 d_MH_put_82 d_MH_put_85 hl.1 ⟨Nat.le_of_ble_eq_true rfl, Nat.le_of_ble_eq_true rfl, Nat.le_of_ble_eq_true rfl, Nat.le_of_ble_eq_true rfl⟩
    · have hf := mz_f hc1 hf
      refine lv_iload_n hx hb d_MH_put_10 rfl (lv_at hl 1 rfl) ?_
      refine lv_iload_n hx hb d_MH_put_11 rfl (lv_at hl 3 rfl) ?_
      refine lv_iushr (v := (x1.toUInt32 >>> (x3.toUInt32 &&& Int32.toUInt32 31)).toInt32) hx hb d_MH_put_12 rfl ?_
      refine lv_sipush (v := (255 : Int32)) hx hb d_MH_put_13 (by decide) ?_
      refine lv_iand hx hb d_MH_put_16 ?_
      refine lv_istore (lv' := [(4, .int ((x1.toUInt32 >>> (x3.toUInt32 &&& Int32.toUInt32 31)).toInt32 &&& (255 : Int32))), (0, .ref (ad 0)), (1, .int x1), (2, .int x2), (3, .int x3)]) hx hb d_MH_put_17 hl (by decide) rfl (fun ls hl => ?_)
      refine lv_iload hx hb d_MH_put_19 (lv_at hl 0 rfl) ?_
      refine lv_if_eq (tgt := 42) hx hb d_MH_put_21 (by decide) (fun hc3 => ?_) (fun hc3 => ?_)
      · have hf := mz_t hc3 hf
        exact b_MH_put_T_42 E hTH hex hLT n (f_MH_put_T_4 n k) ih x1 x2 x3 ((x1.toUInt32 >>> (x3.toUInt32 &&& Int32.toUInt32 31)).toInt32 &&& (255 : Int32)) t hf _ _ _ ⟨w, rfl, rfl⟩ (lv_sub hl [1, 2, 3, 4, 0] rfl)
      · have hf := mz_f hc3 hf
        refine lv_iload hx hb d_MH_put_24 (lv_at hl 0 rfl) ?_
        obtain ⟨q5, hq6, hf⟩ := mz_bd hf
        refine mz_callS0 E (As := [.int ((x1.toUInt32 >>> (x3.toUInt32 &&& Int32.toUInt32 31)).toInt32 &&& (255 : Int32))]) (rest := []) (c0_SI_mayStand (dC := dC) (dI := dI) (ad := ad) (en := en) (ca := ca) l n ((x1.toUInt32 >>> (x3.toUInt32 &&& Int32.toUInt32 31)).toInt32 &&& (255 : Int32)) t q5 hq6) k_1019 k_2 k_1017 k_1018 hm_SI_mayStand ⟨⟨rfl, rfl⟩, Nat.le_of_ble_eq_true rfl, Nat.le_of_ble_eq_true rfl⟩ rfl hl.1 rfl (Nat.le_of_ble_eq_true rfl) d_MH_put_26 (st1 := [.int q5.1]) rfl ?_
        refine lv_if_ne (tgt := 42) hx hb d_MH_put_29 (by decide) (fun hc7 => ?_) (fun hc7 => ?_)
        · have hf := mz_f hc7 hf
          exact b_MH_put_T_42 E hTH hex hLT n (f_MH_put_T_4 n k) ih x1 x2 x3 ((x1.toUInt32 >>> (x3.toUInt32 &&& Int32.toUInt32 31)).toInt32 &&& (255 : Int32)) t hf _ _ _ ⟨w, rfl, rfl⟩ (lv_sub hl [1, 2, 3, 4, 0] rfl)
        · have hf := mz_t hc7 hf
          obtain rfl := Option.some.inj hf
          obtain ⟨q9, hZ⟩ := hTH.2 _ (List.mem_of_getElem? (l := mz_st) (i := 0) rfl)
          exact mz_throw E hLT hex w k_1020 k_1021 k_19 hZ (mz_own0 hcx hTH) (by decide) (by decide) d_MH_put_32 d_MH_put_35 d_MH_put_36 d_MH_put_38 d_MH_put_41 hl.1 ⟨Nat.le_of_ble_eq_true rfl, Nat.le_of_ble_eq_true rfl, Nat.le_of_ble_eq_true rfl, Nat.le_of_ble_eq_true rfl⟩
set_option maxRecDepth 100000 in
set_option maxHeartbeats 4000000 in
theorem c_MH_put_T {SX : State → Heap → Prop} {dC : Nat → ClassId} {dI : Nat → Nat → Nat} {ad en : Nat → Nat} {ca : Nat → ClassId} (hSK : mz_SK SX ad 80) (l : Launch) (hT : ∀ e, l.admits e → e.platform.stackTraces = false) (n : Nat) (x1 : Int32) (t : mz_St) (res : Nat) (hf : f_MH_put_T n x1 t = some res) : mz_CT SX mz_tC 80 mz_cl dC dI ad en ca l y_MH_put prog_1_method_2_code 5 (some (.int)) (r_MH_put_T) [.ref (ad 0), .int x1] t (mz_exn res) := by
  unfold f_MH_put_T at hf
  refine mz_metT hSK (by decide) (Nat.le_of_ble_eq_true rfl) ?_
  intro p e s m args below meth c ls hadm E hTH hex w hl
  have hLT := hT e hadm
  obtain ⟨hx, hb, hml, hown, hcx, -, -, hSX, -, -, -⟩ := id E
  have hl : lv_has ls 5 [(0, .ref (ad 0)), (1, .int x1)] := hl
  refine lv_iconst (v := (0 : Int32)) hx hb d_MH_put_0 (by decide) ?_
  refine lv_istore_n (lv' := [(2, .int (0 : Int32)), (0, .ref (ad 0)), (1, .int x1)]) hx hb d_MH_put_1 rfl hl (by decide) rfl (fun ls hl => ?_)
  refine lv_iconst (v := (0 : Int32)) hx hb d_MH_put_2 (by decide) ?_
  refine lv_istore_n (lv' := [(3, .int (0 : Int32)), (2, .int (0 : Int32)), (0, .ref (ad 0)), (1, .int x1)]) hx hb d_MH_put_3 rfl hl (by decide) rfl (fun ls hl => ?_)
  exact b_MH_put_T_4 E hTH hex hLT n n x1 (0 : Int32) (0 : Int32) t hf _ _ _ ⟨w, rfl, rfl⟩ (lv_sub hl [2, 3, 1, 0] rfl)

/-! MacroHouse.end(I)V: what it throws -/
abbrev r_MH_end_T : Room := { frames := 6, cells := 1, slots := 6, locals := 82 }
def f_MH_end_T_15 (n : Nat) (t : mz_St) : Option Nat := some 0
def f_MH_end_T (n : Nat) (x1 : Int32) (t : mz_St) : Option Nat := if x1 < 0 then (f_MH_end_T_15 n  t) else (if x1 ≤ (mz_gI t 1 3) then none else (f_MH_end_T_15 n  t))
set_option maxRecDepth 100000 in
set_option maxHeartbeats 4000000 in
theorem b_MH_end_T_15 {SX : State → Heap → Prop} {dC : Nat → ClassId} {dI : Nat → Nat → Nat} {ad en : Nat → Nat} {ca : Nat → ClassId} {p : Program} {l : Launch} {e : Env} {s : State} {m : MethodId} {args : Array Value} {below : List Frame} {meth : Method} {c : Code} {res : Nat} (E : mz_En SX 80 mz_cl dC dI ad ca p s m meth c prog_1_method_3_code 2 "MacroHouse" none) (hTH : mz_TH s) (hex : c.exceptionTable.toList = []) (hLT : e.platform.stackTraces = false) (n : Nat) : ∀ (t : mz_St), f_MH_end_T_15 n t = some res → ∀ (H : Heap) (locs : List Loc) (ls : Array Slot), mz_Wt mz_tC 80 mz_cl dC dI ad en ca s t H locs → lv_has ls 2 [] → W p l e (r_MH_end_T) s m args below meth c H locs 0 0 (MQT below (mz_QT SX mz_tC 80 mz_cl dC dI ad en ca (mz_exn res) t) args s 1 6 (fun _ => False)) (F0 m 15 ls []) := by
  obtain ⟨hx, hb, hml, hown, hcx, -, -, hSX, -, -, hSK⟩ := id E
  intro t hf H locs ls w hl
  obtain ⟨w, rfl, rfl⟩ := w
  unfold f_MH_end_T_15 at hf
  obtain rfl := Option.some.inj hf
  obtain ⟨q9, hZ⟩ := hTH.2 _ (List.mem_of_getElem? (l := mz_st) (i := 2) rfl)
  exact mz_throw E hLT hex w k_1020 k_1021 k_19 hZ (mz_own0 hcx hTH) (by decide) (by decide) d_MH_end_15 d_MH_end_18 d_MH_end_19 d_MH_end_21 d_MH_end_24 hl.1 ⟨Nat.le_of_ble_eq_true rfl, Nat.le_of_ble_eq_true rfl, Nat.le_of_ble_eq_true rfl, Nat.le_of_ble_eq_true rfl⟩
set_option maxRecDepth 100000 in
set_option maxHeartbeats 4000000 in
theorem c_MH_end_T {SX : State → Heap → Prop} {dC : Nat → ClassId} {dI : Nat → Nat → Nat} {ad en : Nat → Nat} {ca : Nat → ClassId} (hSK : mz_SK SX ad 80) (l : Launch) (hT : ∀ e, l.admits e → e.platform.stackTraces = false) (n : Nat) (x1 : Int32) (t : mz_St) (res : Nat) (hf : f_MH_end_T n x1 t = some res) : mz_CT SX mz_tC 80 mz_cl dC dI ad en ca l y_MH_end prog_1_method_3_code 2 none (r_MH_end_T) [.ref (ad 0), .int x1] t (mz_exn res) := by
  unfold f_MH_end_T at hf
  refine mz_metT hSK (by decide) (Nat.le_of_ble_eq_true rfl) ?_
  intro p e s m args below meth c ls hadm E hTH hex w hl
  have hLT := hT e hadm
  obtain ⟨hx, hb, hml, hown, hcx, -, -, hSX, -, -, -⟩ := id E
  have hl : lv_has ls 2 [(0, .ref (ad 0)), (1, .int x1)] := hl
  refine lv_iload_n hx hb d_MH_end_0 rfl (lv_at hl 1 rfl) ?_
  refine lv_if_lt (tgt := 15) hx hb d_MH_end_1 (by decide) (fun hc1 => ?_) (fun hc1 => ?_)
  · have hf := mz_t hc1 hf
    exact b_MH_end_T_15 E hTH hex hLT n  t hf _ _ _ ⟨w, rfl, rfl⟩ (lv_sub hl [] rfl)
  · have hf := mz_f hc1 hf
    refine lv_iload_n hx hb d_MH_end_4 rfl (lv_at hl 1 rfl) ?_
    refine lv_aload_n hx hb d_MH_end_5 rfl (lv_at hl 0 rfl) ?_
    refine mz_get E w 0 0 (v := .ref (ad 1)) (by decide) rfl rfl ii_0 (by decide) (Nat.le_of_ble_eq_true rfl) k_424 rfl d_MH_end_6 ?_
    refine mz_get E w 1 3 (v := .int (mz_gI t 1 3)) (by decide) rfl rfl ii_1 (by decide) (Nat.le_of_ble_eq_true rfl) k_44 rfl d_MH_end_9 ?_
    refine lv_icmp_le (tgt := 25) hx hb d_MH_end_12 (by decide) (fun hc2 => ?_) (fun hc2 => ?_)
    · have hf := mz_t hc2 hf
      exact nomatch hf
    · have hf := mz_f hc2 hf
      exact b_MH_end_T_15 E hTH hex hLT n  t hf _ _ _ ⟨w, rfl, rfl⟩ (lv_sub hl [] rfl)

/-! MacroHouse.about(I)I: what it throws -/
abbrev r_MH_about_T : Room := { frames := 6, cells := 1, slots := 6, locals := 82 }
def f_MH_about_T (n : Nat) (x1 : Int32) (t : mz_St) : Option Nat := if x1 = (0 : Int32) then none else (if x1 = (1 : Int32) then none else (if x1 = (2 : Int32) then none else (if x1 = (3 : Int32) then none else (if x1 = (4 : Int32) then none else (if x1 = (5 : Int32) then none else (if x1 = (6 : Int32) then none else (if x1 = (7 : Int32) then none else (if x1 = (8 : Int32) then none else (some 0)))))))))
set_option maxRecDepth 100000 in
set_option maxHeartbeats 4000000 in
theorem c_MH_about_T {SX : State → Heap → Prop} {dC : Nat → ClassId} {dI : Nat → Nat → Nat} {ad en : Nat → Nat} {ca : Nat → ClassId} (hSK : mz_SK SX ad 80) (l : Launch) (hT : ∀ e, l.admits e → e.platform.stackTraces = false) (n : Nat) (x1 : Int32) (t : mz_St) (res : Nat) (hf : f_MH_about_T n x1 t = some res) : mz_CT SX mz_tC 80 mz_cl dC dI ad en ca l y_MH_about prog_1_method_5_code 2 (some (.int)) (r_MH_about_T) [.ref (ad 0), .int x1] t (mz_exn res) := by
  unfold f_MH_about_T at hf
  refine mz_metT hSK (by decide) (Nat.le_of_ble_eq_true rfl) ?_
  intro p e s m args below meth c ls hadm E hTH hex w hl
  have hLT := hT e hadm
  obtain ⟨hx, hb, hml, hown, hcx, -, -, hSX, -, -, -⟩ := id E
  have hl : lv_has ls 2 [(0, .ref (ad 0)), (1, .int x1)] := hl
  refine lv_iload_n hx hb d_MH_about_0 rfl (lv_at hl 1 rfl) ?_
  by_cases hc1 : x1 = (0 : Int32)
  · have hf := mz_t hc1 hf
    refine lv_tableIn (off := 51) (tgt := 52) hx hb d_MH_about_1 (by rw [hc1]; decide) (by rw [hc1]; decide) (by rw [hc1]; rfl) (by decide) ?_
    exact nomatch hf
  · have hf := mz_f hc1 hf
    by_cases hc2 : x1 = (1 : Int32)
    · have hf := mz_t hc2 hf
      refine lv_tableIn (off := 59) (tgt := 60) hx hb d_MH_about_1 (by rw [hc2]; decide) (by rw [hc2]; decide) (by rw [hc2]; rfl) (by decide) ?_
      exact nomatch hf
    · have hf := mz_f hc2 hf
      by_cases hc3 : x1 = (2 : Int32)
      · have hf := mz_t hc3 hf
        refine lv_tableIn (off := 67) (tgt := 68) hx hb d_MH_about_1 (by rw [hc3]; decide) (by rw [hc3]; decide) (by rw [hc3]; rfl) (by decide) ?_
        exact nomatch hf
      · have hf := mz_f hc3 hf
        by_cases hc4 : x1 = (3 : Int32)
        · have hf := mz_t hc4 hf
          refine lv_tableIn (off := 75) (tgt := 76) hx hb d_MH_about_1 (by rw [hc4]; decide) (by rw [hc4]; decide) (by rw [hc4]; rfl) (by decide) ?_
          exact nomatch hf
        · have hf := mz_f hc4 hf
          by_cases hc5 : x1 = (4 : Int32)
          · have hf := mz_t hc5 hf
            refine lv_tableIn (off := 83) (tgt := 84) hx hb d_MH_about_1 (by rw [hc5]; decide) (by rw [hc5]; decide) (by rw [hc5]; rfl) (by decide) ?_
            exact nomatch hf
          · have hf := mz_f hc5 hf
            by_cases hc6 : x1 = (5 : Int32)
            · have hf := mz_t hc6 hf
              refine lv_tableIn (off := 97) (tgt := 98) hx hb d_MH_about_1 (by rw [hc6]; decide) (by rw [hc6]; decide) (by rw [hc6]; rfl) (by decide) ?_
              exact nomatch hf
            · have hf := mz_f hc6 hf
              by_cases hc7 : x1 = (6 : Int32)
              · have hf := mz_t hc7 hf
                refine lv_tableIn (off := 111) (tgt := 112) hx hb d_MH_about_1 (by rw [hc7]; decide) (by rw [hc7]; decide) (by rw [hc7]; rfl) (by decide) ?_
                exact nomatch hf
              · have hf := mz_f hc7 hf
                by_cases hc8 : x1 = (7 : Int32)
                · have hf := mz_t hc8 hf
                  refine lv_tableIn (off := 122) (tgt := 123) hx hb d_MH_about_1 (by rw [hc8]; decide) (by rw [hc8]; decide) (by rw [hc8]; rfl) (by decide) ?_
                  exact nomatch hf
                · have hf := mz_f hc8 hf
                  by_cases hc9 : x1 = (8 : Int32)
                  · have hf := mz_t hc9 hf
                    refine lv_tableIn (off := 133) (tgt := 134) hx hb d_MH_about_1 (by rw [hc9]; decide) (by rw [hc9]; decide) (by rw [hc9]; rfl) (by decide) ?_
                    exact nomatch hf
                  · have hf := mz_f hc9 hf
                    refine lv_tableOut (tgt := 145) hx hb d_MH_about_1 (by have := lv_neT (a := 0) hc1 rfl; have := lv_neT (a := 1) hc2 rfl; have := lv_neT (a := 2) hc3 rfl; have := lv_neT (a := 3) hc4 rfl; have := lv_neT (a := 4) hc5 rfl; have := lv_neT (a := 5) hc6 rfl; have := lv_neT (a := 6) hc7 rfl; have := lv_neT (a := 7) hc8 rfl; have := lv_neT (a := 8) hc9 rfl; omega) (by decide) ?_
                    obtain rfl := Option.some.inj hf
                    obtain ⟨q9, hZ⟩ := hTH.2 _ (List.mem_of_getElem? (l := mz_st) (i := 3) rfl)
                    exact mz_throw E hLT hex w k_1020 k_1021 k_19 hZ (mz_own0 hcx hTH) (by decide) (by decide) d_MH_about_145 d_MH_about_148 d_MH_about_149 d_MH_about_151 d_MH_about_154 hl.1 ⟨Nat.le_of_ble_eq_true rfl, Nat.le_of_ble_eq_true rfl, Nat.le_of_ble_eq_true rfl, Nat.le_of_ble_eq_true rfl⟩

/-! MacroHouse.line(II)I: what it throws -/
abbrev r_MH_line_T : Room := { frames := 6, cells := 1, slots := 6, locals := 82 }
def f_MH_line_T_18 (n : Nat) (t : mz_St) : Option Nat := some 2
def f_MH_line_T (n : Nat) (x1 : Int32) (x2 : Int32) (t : mz_St) : Option Nat := if x1 < 0 then (f_MH_line_T_18 n  t) else (if x1 < (mz_gI t 32 5) then (if 0 ≤ x2 then none else (some 0)) else (f_MH_line_T_18 n  t))
set_option maxRecDepth 100000 in
set_option maxHeartbeats 4000000 in
theorem b_MH_line_T_18 {SX : State → Heap → Prop} {dC : Nat → ClassId} {dI : Nat → Nat → Nat} {ad en : Nat → Nat} {ca : Nat → ClassId} {p : Program} {l : Launch} {e : Env} {s : State} {m : MethodId} {args : Array Value} {below : List Frame} {meth : Method} {c : Code} {res : Nat} (E : mz_En SX 80 mz_cl dC dI ad ca p s m meth c prog_1_method_6_code 3 "MacroHouse" (some (.int))) (hTH : mz_TH s) (hex : c.exceptionTable.toList = []) (hLT : e.platform.stackTraces = false) (n : Nat) : ∀ (t : mz_St), f_MH_line_T_18 n t = some res → ∀ (H : Heap) (locs : List Loc) (ls : Array Slot), mz_Wt mz_tC 80 mz_cl dC dI ad en ca s t H locs → lv_has ls 3 [] → W p l e (r_MH_line_T) s m args below meth c H locs 0 0 (MQT below (mz_QT SX mz_tC 80 mz_cl dC dI ad en ca (mz_exn res) t) args s 1 6 (fun _ => False)) (F0 m 18 ls []) := by
  obtain ⟨hx, hb, hml, hown, hcx, -, -, hSX, -, -, hSK⟩ := id E
  intro t hf H locs ls w hl
  obtain ⟨w, rfl, rfl⟩ := w
  unfold f_MH_line_T_18 at hf
  obtain rfl := Option.some.inj hf
  obtain ⟨q9, hZ⟩ := hTH.2 _ (List.mem_of_getElem? (l := mz_st) (i := 4) rfl)
  exact mz_throw E hLT hex w k_1128 k_1129 k_26 hZ (mz_own2 hcx hTH) (by decide) (by decide) d_MH_line_18 d_MH_line_21 d_MH_line_22 d_MH_line_24 d_MH_line_27 hl.1 ⟨Nat.le_of_ble_eq_true rfl, Nat.le_of_ble_eq_true rfl, Nat.le_of_ble_eq_true rfl, Nat.le_of_ble_eq_true rfl⟩
set_option maxRecDepth 100000 in
set_option maxHeartbeats 4000000 in
theorem c_MH_line_T {SX : State → Heap → Prop} {dC : Nat → ClassId} {dI : Nat → Nat → Nat} {ad en : Nat → Nat} {ca : Nat → ClassId} (hSK : mz_SK SX ad 80) (l : Launch) (hT : ∀ e, l.admits e → e.platform.stackTraces = false) (n : Nat) (x1 : Int32) (x2 : Int32) (t : mz_St) (res : Nat) (hf : f_MH_line_T n x1 x2 t = some res) : mz_CT SX mz_tC 80 mz_cl dC dI ad en ca l y_MH_line prog_1_method_6_code 3 (some (.int)) (r_MH_line_T) [.ref (ad 0), .int x1, .int x2] t (mz_exn res) := by
  unfold f_MH_line_T at hf
  refine mz_metT hSK (by decide) (Nat.le_of_ble_eq_true rfl) ?_
  intro p e s m args below meth c ls hadm E hTH hex w hl
  have hLT := hT e hadm
  obtain ⟨hx, hb, hml, hown, hcx, -, -, hSX, -, -, -⟩ := id E
  have hl : lv_has ls 3 [(0, .ref (ad 0)), (1, .int x1), (2, .int x2)] := hl
  refine lv_iload_n hx hb d_MH_line_0 rfl (lv_at hl 1 rfl) ?_
  refine lv_if_lt (tgt := 18) hx hb d_MH_line_1 (by decide) (fun hc1 => ?_) (fun hc1 => ?_)
  · have hf := mz_t hc1 hf
    exact b_MH_line_T_18 E hTH hex hLT n  t hf _ _ _ ⟨w, rfl, rfl⟩ (lv_sub hl [] rfl)
  · have hf := mz_f hc1 hf
    refine lv_iload_n hx hb d_MH_line_4 rfl (lv_at hl 1 rfl) ?_
    refine lv_aload_n hx hb d_MH_line_5 rfl (lv_at hl 0 rfl) ?_
    refine mz_get E w 0 1 (v := .ref (ad 5)) (by decide) rfl rfl ii_0 (by decide) (Nat.le_of_ble_eq_true rfl) k_425 rfl d_MH_line_6 ?_
    refine mz_get E w 5 6 (v := .ref (ad 32)) (by decide) rfl rfl ii_2 (by decide) (Nat.le_of_ble_eq_true rfl) k_380 rfl d_MH_line_9 ?_
    refine mz_get E w 32 5 (v := .int (mz_gI t 32 5)) (by decide) rfl rfl ii_9 (by decide) (Nat.le_of_ble_eq_true rfl) k_106 rfl d_MH_line_12 ?_
    refine lv_icmp_lt (tgt := 28) hx hb d_MH_line_15 (by decide) (fun hc2 => ?_) (fun hc2 => ?_)
    · have hf := mz_t hc2 hf
      refine lv_iload_n hx hb d_MH_line_28 rfl (lv_at hl 2 rfl) ?_
      refine lv_if_ge (tgt := 42) hx hb d_MH_line_29 (by decide) (fun hc3 => ?_) (fun hc3 => ?_)
      · have hf := mz_t hc3 hf
        exact nomatch hf
      · have hf := mz_f hc3 hf
        obtain rfl := Option.some.inj hf
        obtain ⟨q9, hZ⟩ := hTH.2 _ (List.mem_of_getElem? (l := mz_st) (i := 5) rfl)
        exact mz_throw E hLT hex w k_1020 k_1021 k_19 hZ (mz_own0 hcx hTH) (by decide) (by decide) d_MH_line_32 d_MH_line_35 d_MH_line_36 d_MH_line_38 d_MH_line_41 hl.1 ⟨Nat.le_of_ble_eq_true rfl, Nat.le_of_ble_eq_true rfl, Nat.le_of_ble_eq_true rfl, Nat.le_of_ble_eq_true rfl⟩
    · have hf := mz_f hc2 hf
      exact b_MH_line_T_18 E hTH hex hLT n  t hf _ _ _ ⟨w, rfl, rfl⟩ (lv_sub hl [] rfl)

/-! MacroHouse.constant(II)I: what it throws -/
abbrev r_MH_constant_T : Room := { frames := 6, cells := 1, slots := 6, locals := 82 }
def f_MH_constant_T_21 (n : Nat) (t : mz_St) : Option Nat := some 2
def f_MH_constant_T (n : Nat) (x1 : Int32) (x2 : Int32) (t : mz_St) : Option Nat := if x1 < 0 then (f_MH_constant_T_21 n  t) else (if x1 < (mz_gI t 15 4) then (if 0 ≤ x2 then none else (some 0)) else (f_MH_constant_T_21 n  t))
set_option maxRecDepth 100000 in
set_option maxHeartbeats 4000000 in
theorem b_MH_constant_T_21 {SX : State → Heap → Prop} {dC : Nat → ClassId} {dI : Nat → Nat → Nat} {ad en : Nat → Nat} {ca : Nat → ClassId} {p : Program} {l : Launch} {e : Env} {s : State} {m : MethodId} {args : Array Value} {below : List Frame} {meth : Method} {c : Code} {res : Nat} (E : mz_En SX 80 mz_cl dC dI ad ca p s m meth c prog_1_method_7_code 3 "MacroHouse" (some (.int))) (hTH : mz_TH s) (hex : c.exceptionTable.toList = []) (hLT : e.platform.stackTraces = false) (n : Nat) : ∀ (t : mz_St), f_MH_constant_T_21 n t = some res → ∀ (H : Heap) (locs : List Loc) (ls : Array Slot), mz_Wt mz_tC 80 mz_cl dC dI ad en ca s t H locs → lv_has ls 3 [] → W p l e (r_MH_constant_T) s m args below meth c H locs 0 0 (MQT below (mz_QT SX mz_tC 80 mz_cl dC dI ad en ca (mz_exn res) t) args s 1 6 (fun _ => False)) (F0 m 21 ls []) := by
  obtain ⟨hx, hb, hml, hown, hcx, -, -, hSX, -, -, hSK⟩ := id E
  intro t hf H locs ls w hl
  obtain ⟨w, rfl, rfl⟩ := w
  unfold f_MH_constant_T_21 at hf
  obtain rfl := Option.some.inj hf
  obtain ⟨q9, hZ⟩ := hTH.2 _ (List.mem_of_getElem? (l := mz_st) (i := 6) rfl)
  exact mz_throw E hLT hex w k_1128 k_1129 k_26 hZ (mz_own2 hcx hTH) (by decide) (by decide) d_MH_constant_21 d_MH_constant_24 d_MH_constant_25 d_MH_constant_27 d_MH_constant_30 hl.1 ⟨Nat.le_of_ble_eq_true rfl, Nat.le_of_ble_eq_true rfl, Nat.le_of_ble_eq_true rfl, Nat.le_of_ble_eq_true rfl⟩
set_option maxRecDepth 100000 in
set_option maxHeartbeats 4000000 in
theorem c_MH_constant_T {SX : State → Heap → Prop} {dC : Nat → ClassId} {dI : Nat → Nat → Nat} {ad en : Nat → Nat} {ca : Nat → ClassId} (hSK : mz_SK SX ad 80) (l : Launch) (hT : ∀ e, l.admits e → e.platform.stackTraces = false) (n : Nat) (x1 : Int32) (x2 : Int32) (t : mz_St) (res : Nat) (hf : f_MH_constant_T n x1 x2 t = some res) : mz_CT SX mz_tC 80 mz_cl dC dI ad en ca l y_MH_constant prog_1_method_7_code 3 (some (.int)) (r_MH_constant_T) [.ref (ad 0), .int x1, .int x2] t (mz_exn res) := by
  unfold f_MH_constant_T at hf
  refine mz_metT hSK (by decide) (Nat.le_of_ble_eq_true rfl) ?_
  intro p e s m args below meth c ls hadm E hTH hex w hl
  have hLT := hT e hadm
  obtain ⟨hx, hb, hml, hown, hcx, -, -, hSX, -, -, -⟩ := id E
  have hl : lv_has ls 3 [(0, .ref (ad 0)), (1, .int x1), (2, .int x2)] := hl
  refine lv_iload_n hx hb d_MH_constant_0 rfl (lv_at hl 1 rfl) ?_
  refine lv_if_lt (tgt := 21) hx hb d_MH_constant_1 (by decide) (fun hc1 => ?_) (fun hc1 => ?_)
  · have hf := mz_t hc1 hf
    exact b_MH_constant_T_21 E hTH hex hLT n  t hf _ _ _ ⟨w, rfl, rfl⟩ (lv_sub hl [] rfl)
  · have hf := mz_f hc1 hf
    refine lv_iload_n hx hb d_MH_constant_4 rfl (lv_at hl 1 rfl) ?_
    refine lv_aload_n hx hb d_MH_constant_5 rfl (lv_at hl 0 rfl) ?_
    refine mz_get E w 0 1 (v := .ref (ad 5)) (by decide) rfl rfl ii_0 (by decide) (Nat.le_of_ble_eq_true rfl) k_425 rfl d_MH_constant_6 ?_
    refine mz_get E w 5 3 (v := .ref (ad 13)) (by decide) rfl rfl ii_2 (by decide) (Nat.le_of_ble_eq_true rfl) k_374 rfl d_MH_constant_9 ?_
    refine mz_get E w 13 0 (v := .ref (ad 15)) (by decide) rfl rfl ii_5 (by decide) (Nat.le_of_ble_eq_true rfl) k_163 rfl d_MH_constant_12 ?_
    refine mz_get E w 15 4 (v := .int (mz_gI t 15 4)) (by decide) rfl rfl ii_6 (by decide) (Nat.le_of_ble_eq_true rfl) k_149 rfl d_MH_constant_15 ?_
    refine lv_icmp_lt (tgt := 31) hx hb d_MH_constant_18 (by decide) (fun hc2 => ?_) (fun hc2 => ?_)
    · have hf := mz_t hc2 hf
      refine lv_iload_n hx hb d_MH_constant_31 rfl (lv_at hl 2 rfl) ?_
      refine lv_if_ge (tgt := 45) hx hb d_MH_constant_32 (by decide) (fun hc3 => ?_) (fun hc3 => ?_)
      · have hf := mz_t hc3 hf
        exact nomatch hf
      · have hf := mz_f hc3 hf
        obtain rfl := Option.some.inj hf
        obtain ⟨q9, hZ⟩ := hTH.2 _ (List.mem_of_getElem? (l := mz_st) (i := 5) rfl)
        exact mz_throw E hLT hex w k_1020 k_1021 k_19 hZ (mz_own0 hcx hTH) (by decide) (by decide) d_MH_constant_35 d_MH_constant_38 d_MH_constant_39 d_MH_constant_41 d_MH_constant_44 hl.1 ⟨Nat.le_of_ble_eq_true rfl, Nat.le_of_ble_eq_true rfl, Nat.le_of_ble_eq_true rfl, Nat.le_of_ble_eq_true rfl⟩
    · have hf := mz_f hc2 hf
      exact b_MH_constant_T_21 E hTH hex hLT n  t hf _ _ _ ⟨w, rfl, rfl⟩ (lv_sub hl [] rfl)

/-! MacroHouse.macro(II)I: what it throws -/
abbrev r_MH_macro_T : Room := { frames := 6, cells := 1, slots := 6, locals := 82 }
def f_MH_macro_T_21 (n : Nat) (t : mz_St) : Option Nat := some 2
def f_MH_macro_T (n : Nat) (x1 : Int32) (x2 : Int32) (t : mz_St) : Option Nat := if x1 < 0 then (f_MH_macro_T_21 n  t) else (if x1 < (mz_gI t 27 4) then (if 0 ≤ x2 then none else (some 0)) else (f_MH_macro_T_21 n  t))
set_option maxRecDepth 100000 in
set_option maxHeartbeats 4000000 in
theorem b_MH_macro_T_21 {SX : State → Heap → Prop} {dC : Nat → ClassId} {dI : Nat → Nat → Nat} {ad en : Nat → Nat} {ca : Nat → ClassId} {p : Program} {l : Launch} {e : Env} {s : State} {m : MethodId} {args : Array Value} {below : List Frame} {meth : Method} {c : Code} {res : Nat} (E : mz_En SX 80 mz_cl dC dI ad ca p s m meth c prog_1_method_8_code 3 "MacroHouse" (some (.int))) (hTH : mz_TH s) (hex : c.exceptionTable.toList = []) (hLT : e.platform.stackTraces = false) (n : Nat) : ∀ (t : mz_St), f_MH_macro_T_21 n t = some res → ∀ (H : Heap) (locs : List Loc) (ls : Array Slot), mz_Wt mz_tC 80 mz_cl dC dI ad en ca s t H locs → lv_has ls 3 [] → W p l e (r_MH_macro_T) s m args below meth c H locs 0 0 (MQT below (mz_QT SX mz_tC 80 mz_cl dC dI ad en ca (mz_exn res) t) args s 1 6 (fun _ => False)) (F0 m 21 ls []) := by
  obtain ⟨hx, hb, hml, hown, hcx, -, -, hSX, -, -, hSK⟩ := id E
  intro t hf H locs ls w hl
  obtain ⟨w, rfl, rfl⟩ := w
  unfold f_MH_macro_T_21 at hf
  obtain rfl := Option.some.inj hf
  obtain ⟨q9, hZ⟩ := hTH.2 _ (List.mem_of_getElem? (l := mz_st) (i := 7) rfl)
  exact mz_throw E hLT hex w k_1128 k_1129 k_26 hZ (mz_own2 hcx hTH) (by decide) (by decide) d_MH_macro_21 d_MH_macro_24 d_MH_macro_25 d_MH_macro_27 d_MH_macro_30 hl.1 ⟨Nat.le_of_ble_eq_true rfl, Nat.le_of_ble_eq_true rfl, Nat.le_of_ble_eq_true rfl, Nat.le_of_ble_eq_true rfl⟩
set_option maxRecDepth 100000 in
set_option maxHeartbeats 4000000 in
theorem c_MH_macro_T {SX : State → Heap → Prop} {dC : Nat → ClassId} {dI : Nat → Nat → Nat} {ad en : Nat → Nat} {ca : Nat → ClassId} (hSK : mz_SK SX ad 80) (l : Launch) (hT : ∀ e, l.admits e → e.platform.stackTraces = false) (n : Nat) (x1 : Int32) (x2 : Int32) (t : mz_St) (res : Nat) (hf : f_MH_macro_T n x1 x2 t = some res) : mz_CT SX mz_tC 80 mz_cl dC dI ad en ca l y_MH_macro prog_1_method_8_code 3 (some (.int)) (r_MH_macro_T) [.ref (ad 0), .int x1, .int x2] t (mz_exn res) := by
  unfold f_MH_macro_T at hf
  refine mz_metT hSK (by decide) (Nat.le_of_ble_eq_true rfl) ?_
  intro p e s m args below meth c ls hadm E hTH hex w hl
  have hLT := hT e hadm
  obtain ⟨hx, hb, hml, hown, hcx, -, -, hSX, -, -, -⟩ := id E
  have hl : lv_has ls 3 [(0, .ref (ad 0)), (1, .int x1), (2, .int x2)] := hl
  refine lv_iload_n hx hb d_MH_macro_0 rfl (lv_at hl 1 rfl) ?_
  refine lv_if_lt (tgt := 21) hx hb d_MH_macro_1 (by decide) (fun hc1 => ?_) (fun hc1 => ?_)
  · have hf := mz_t hc1 hf
    exact b_MH_macro_T_21 E hTH hex hLT n  t hf _ _ _ ⟨w, rfl, rfl⟩ (lv_sub hl [] rfl)
  · have hf := mz_f hc1 hf
    refine lv_iload_n hx hb d_MH_macro_4 rfl (lv_at hl 1 rfl) ?_
    refine lv_aload_n hx hb d_MH_macro_5 rfl (lv_at hl 0 rfl) ?_
    refine mz_get E w 0 1 (v := .ref (ad 5)) (by decide) rfl rfl ii_0 (by decide) (Nat.le_of_ble_eq_true rfl) k_425 rfl d_MH_macro_6 ?_
    refine mz_get E w 5 4 (v := .ref (ad 18)) (by decide) rfl rfl ii_2 (by decide) (Nat.le_of_ble_eq_true rfl) k_376 rfl d_MH_macro_9 ?_
    refine mz_get E w 18 1 (v := .ref (ad 27)) (by decide) rfl rfl ii_7 (by decide) (Nat.le_of_ble_eq_true rfl) k_222 rfl d_MH_macro_12 ?_
    refine mz_get E w 27 4 (v := .int (mz_gI t 27 4)) (by decide) rfl rfl ii_6 (by decide) (Nat.le_of_ble_eq_true rfl) k_149 rfl d_MH_macro_15 ?_
    refine lv_icmp_lt (tgt := 31) hx hb d_MH_macro_18 (by decide) (fun hc2 => ?_) (fun hc2 => ?_)
    · have hf := mz_t hc2 hf
      refine lv_iload_n hx hb d_MH_macro_31 rfl (lv_at hl 2 rfl) ?_
      refine lv_if_ge (tgt := 45) hx hb d_MH_macro_32 (by decide) (fun hc3 => ?_) (fun hc3 => ?_)
      · have hf := mz_t hc3 hf
        exact nomatch hf
      · have hf := mz_f hc3 hf
        obtain rfl := Option.some.inj hf
        obtain ⟨q9, hZ⟩ := hTH.2 _ (List.mem_of_getElem? (l := mz_st) (i := 5) rfl)
        exact mz_throw E hLT hex w k_1020 k_1021 k_19 hZ (mz_own0 hcx hTH) (by decide) (by decide) d_MH_macro_35 d_MH_macro_38 d_MH_macro_39 d_MH_macro_41 d_MH_macro_44 hl.1 ⟨Nat.le_of_ble_eq_true rfl, Nat.le_of_ble_eq_true rfl, Nat.le_of_ble_eq_true rfl, Nat.le_of_ble_eq_true rfl⟩
    · have hf := mz_f hc2 hf
      exact b_MH_macro_T_21 E hTH hex hLT n  t hf _ _ _ ⟨w, rfl, rfl⟩ (lv_sub hl [] rfl)
