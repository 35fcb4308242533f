/-! MacroHouseModel.bracketEnd(I)I -/
abbrev r_MO_bracketEnd : Room := { frames := 3, cells := 0, slots := 0, locals := 65 }
def f_MO_bracketEnd_83 (n : Nat) (x2 : Int32) (x3 : Int32) (t : mz_St) : Option (Int32 × mz_St) := if (mz_gI t 0 6) ≤ 0 then (if x2 ≤ 0 then (some (x3, t)) else ((f_MO_fail n (5 : Int32) (mz_gI t 0 63) t).bind fun q5 => some ((-1 : Int32), q5))) else (some ((-1 : Int32), t))
def f_MO_bracketEnd_76 (n : Nat) (K9 : Int32 → Int32 → Int32 → mz_St → Option (Int32 × mz_St)) (x1 : Int32) (x3 : Int32) (s0 : Int32) (t : mz_St) : Option (Int32 × mz_St) := K9 x1 s0 (x3 + (1 : Int32)) t
def f_MO_bracketEnd_56 (n : Nat) (K9 : Int32 → Int32 → Int32 → mz_St → Option (Int32 × mz_St)) (x1 : Int32) (x2 : Int32) (x3 : Int32) (t : mz_St) : Option (Int32 × mz_St) := f_MO_bracketEnd_76 n K9 x1 x3 (x2 + (1 : Int32)) t
def f_MO_bracketEnd_9 (n : Nat) : Nat → Int32 → Int32 → Int32 → mz_St → Option (Int32 × mz_St)
  | 0, _, _, _, _ => none
  | k + 1, x1, x2, x3, t => if x2 ≤ 0 then (f_MO_bracketEnd_83 n x2 x3 t) else (if ¬ (x1 < 0 ∨ 14 ≤ x1.toNatClampNeg) then (if (mz_gI t 24 x1.toNatClampNeg) ≤ x3 then (f_MO_bracketEnd_83 n x2 x3 t) else (if (mz_gI t 0 6) = 0 then ((f_MO_look n x3 t).bind fun q10 => (f_MO_firstOf n x3 q10).bind fun q12 => if q12.1 = (10 : Int32) then (f_MO_bracketEnd_56 n (f_MO_bracketEnd_9 n k) x1 x2 x3 q12.2) else (if q12.1 = (11 : Int32) then (f_MO_bracketEnd_56 n (f_MO_bracketEnd_9 n k) x1 x2 x3 q12.2) else (if q12.1 = (12 : Int32) then (f_MO_bracketEnd_76 n (f_MO_bracketEnd_9 n k) x1 x3 (x2 - (1 : Int32)) q12.2) else (f_MO_bracketEnd_76 n (f_MO_bracketEnd_9 n k) x1 x3 x2 q12.2)))) else (f_MO_bracketEnd_83 n x2 x3 t))) else none)
def f_MO_bracketEnd (n : Nat) (x1 : Int32) (t : mz_St) : Option (Int32 × mz_St) := if ¬ (x1 < 0 ∨ 14 ≤ x1.toNatClampNeg) then (f_MO_bracketEnd_9 n n x1 (1 : Int32) (mz_gI t 25 x1.toNatClampNeg) t) else none
set_option maxRecDepth 100000 in
set_option maxHeartbeats 4000000 in
theorem b_MO_bracketEnd_83 {SX : State → Heap → Prop} {dC : Nat → ClassId} {dI : Nat → Nat → Nat} {ad en : Nat → Nat} {ca : Nat → ClassId} {p : Program} {l : Launch} {e : Env} {s : State} {m : MethodId} {args : Array Value} {below : List Frame} {meth : Method} {c : Code} {res : (Int32 × mz_St)} (E : mz_En SX 55 mz_cl dC dI ad ca p s m meth c prog_15_method_43_code 5 "MacroHouseModel" (some (.int))) (n : Nat) : ∀ (x2 : Int32) (x3 : Int32) (t : mz_St), f_MO_bracketEnd_83 n x2 x3 t = some res → ∀ (H : Heap) (locs : List Loc) (ls : Array Slot), mz_Wd mz_tM 55 mz_cl dC dI ad en ca s t H locs → lv_has ls 5 [(0, .ref (ad 0)), (2, .int x2), (3, .int x3)] → W p l e (r_MO_bracketEnd) s m args below meth c H locs 0 0 (MQ below (mz_Q SX mz_tM 55 mz_cl dC dI ad en ca (some (.int res.1)) res.2) args s 0 0 (mz_A ad 55)) (F0 m 83 ls []) := by
  obtain ⟨hx, hb, hml, hown, hcx, -, -, hSX, -, -, hSK⟩ := id E
  intro x2 x3 t hf H locs ls w hl
  unfold f_MO_bracketEnd_83 at hf
  refine lv_aload_n hx hb d_MO_bracketEnd_83 rfl (lv_at hl 0 rfl) ?_
  refine mz_get E w 0 6 (v := .int (mz_gI t 0 6)) (by decide) rfl rfl ii_11 (by decide) (Nat.le_of_ble_eq_true rfl) k_1189 rfl d_MO_bracketEnd_84 ?_
  refine lv_if_le (tgt := 92) hx hb d_MO_bracketEnd_87 (by decide) (fun hc3 => ?_) (fun hc3 => ?_)
  · have hf := mz_t hc3 hf
    refine lv_iload_n hx hb d_MO_bracketEnd_92 rfl (lv_at hl 1 rfl) ?_
    refine lv_if_le (tgt := 107) hx hb d_MO_bracketEnd_93 (by decide) (fun hc4 => ?_) (fun hc4 => ?_)
    · have hf := mz_t hc4 hf
      refine lv_iload_n hx hb d_MO_bracketEnd_107 rfl (lv_at hl 2 rfl) ?_
      obtain rfl := Option.some.inj hf
      exact mz_iret E w rfl d_MO_bracketEnd_108
    · have hf := mz_f hc4 hf
      refine lv_aload_n hx hb d_MO_bracketEnd_96 rfl (lv_at hl 0 rfl) ?_
      refine lv_iconst (v := (5 : Int32)) hx hb d_MO_bracketEnd_97 (by decide) ?_
      refine lv_aload_n hx hb d_MO_bracketEnd_98 rfl (lv_at hl 0 rfl) ?_
      refine mz_get E w 0 63 (v := .int (mz_gI t 0 63)) (by decide) rfl rfl ii_11 (by decide) (Nat.le_of_ble_eq_true rfl) k_1246 rfl d_MO_bracketEnd_99 ?_
      obtain ⟨q5, hq6, hf⟩ := mz_bd hf
      refine mz_callV E w (k := 0) (As := [.int (5 : Int32), .int (mz_gI t 0 63)]) (rest := []) (c_MO_fail hSK l n (5 : Int32) (mz_gI t 0 63) t q5 hq6) (by decide) rfl rfl k_1467 k_15 k_1464 k_1466 ks_53 hm_MO_fail ⟨⟨rfl, rfl⟩, Nat.le_of_ble_eq_true rfl, Nat.le_of_ble_eq_true rfl⟩ rfl hl.1 rfl (Nat.le_of_ble_eq_true rfl) d_MO_bracketEnd_102 ⟨Nat.zero_le _, Nat.zero_le _⟩ (st1 := []) rfl (fun H locs w => ?_)
      refine lv_iconst (v := (-1 : Int32)) hx hb d_MO_bracketEnd_105 (by decide) ?_
      obtain rfl := Option.some.inj hf
      exact mz_iret E w rfl d_MO_bracketEnd_106
  · have hf := mz_f hc3 hf
    refine lv_iconst (v := (-1 : Int32)) hx hb d_MO_bracketEnd_90 (by decide) ?_
    obtain rfl := Option.some.inj hf
    exact mz_iret E w rfl d_MO_bracketEnd_91
set_option maxRecDepth 100000 in
set_option maxHeartbeats 4000000 in
theorem b_MO_bracketEnd_76 {SX : State → Heap → Prop} {dC : Nat → ClassId} {dI : Nat → Nat → Nat} {ad en : Nat → Nat} {ca : Nat → ClassId} {p : Program} {l : Launch} {e : Env} {s : State} {m : MethodId} {args : Array Value} {below : List Frame} {meth : Method} {c : Code} {res : (Int32 × mz_St)} (E : mz_En SX 55 mz_cl dC dI ad ca p s m meth c prog_15_method_43_code 5 "MacroHouseModel" (some (.int))) (n : Nat) (K9 : Int32 → Int32 → Int32 → mz_St → Option (Int32 × mz_St)) (hK9 : ∀ (x1 : Int32) (x2 : Int32) (x3 : Int32) (t : mz_St), K9 x1 x2 x3 t = some res → ∀ (H : Heap) (locs : List Loc) (ls : Array Slot), mz_Wd mz_tM 55 mz_cl dC dI ad en ca s t H locs → lv_has ls 5 [(0, .ref (ad 0)), (1, .int x1), (2, .int x2), (3, .int x3)] → W p l e (r_MO_bracketEnd) s m args below meth c H locs 0 0 (MQ below (mz_Q SX mz_tM 55 mz_cl dC dI ad en ca (some (.int res.1)) res.2) args s 0 0 (mz_A ad 55)) (F0 m 9 ls [])) : ∀ (x1 : Int32) (x3 : Int32) (s0 : Int32) (t : mz_St), f_MO_bracketEnd_76 n K9 x1 x3 s0 t = some res → ∀ (H : Heap) (locs : List Loc) (ls : Array Slot), mz_Wd mz_tM 55 mz_cl dC dI ad en ca s t H locs → lv_has ls 5 [(0, .ref (ad 0)), (1, .int x1), (3, .int x3)] → W p l e (r_MO_bracketEnd) s m args below meth c H locs 0 0 (MQ below (mz_Q SX mz_tM 55 mz_cl dC dI ad en ca (some (.int res.1)) res.2) args s 0 0 (mz_A ad 55)) (F0 m 76 ls [.int s0]) := by
  obtain ⟨hx, hb, hml, hown, hcx, -, -, hSX, -, -, hSK⟩ := id E
  intro x1 x3 s0 t hf H locs ls w hl
  unfold f_MO_bracketEnd_76 at hf
  refine lv_istore_n (lv' := [(2, .int s0), (0, .ref (ad 0)), (1, .int x1), (3, .int x3)]) hx hb d_MO_bracketEnd_76 rfl hl (by decide) rfl (fun ls hl => ?_)
  refine lv_iinc (v := (x3 + (1 : Int32))) (lv' := [(3, .int (x3 + (1 : Int32))), (2, .int s0), (0, .ref (ad 0)), (1, .int x1)]) hx hb d_MO_bracketEnd_77 hl (k := 3) rfl rfl (by decide) rfl (fun ls hl => ?_)
  refine lv_goto (tgt := 9) hx hb d_MO_bracketEnd_80 (by decide) ?_
  exact hK9 x1 s0 (x3 + (1 : Int32)) t hf _ _ _ w (lv_sub hl [2, 3, 1, 0] rfl)
set_option maxRecDepth 100000 in
set_option maxHeartbeats 4000000 in
theorem b_MO_bracketEnd_56 {SX : State → Heap → Prop} {dC : Nat → ClassId} {dI : Nat → Nat → Nat} {ad en : Nat → Nat} {ca : Nat → ClassId} {p : Program} {l : Launch} {e : Env} {s : State} {m : MethodId} {args : Array Value} {below : List Frame} {meth : Method} {c : Code} {res : (Int32 × mz_St)} (E : mz_En SX 55 mz_cl dC dI ad ca p s m meth c prog_15_method_43_code 5 "MacroHouseModel" (some (.int))) (n : Nat) (K9 : Int32 → Int32 → Int32 → mz_St → Option (Int32 × mz_St)) (hK9 : ∀ (x1 : Int32) (x2 : Int32) (x3 : Int32) (t : mz_St), K9 x1 x2 x3 t = some res → ∀ (H : Heap) (locs : List Loc) (ls : Array Slot), mz_Wd mz_tM 55 mz_cl dC dI ad en ca s t H locs → lv_has ls 5 [(0, .ref (ad 0)), (1, .int x1), (2, .int x2), (3, .int x3)] → W p l e (r_MO_bracketEnd) s m args below meth c H locs 0 0 (MQ below (mz_Q SX mz_tM 55 mz_cl dC dI ad en ca (some (.int res.1)) res.2) args s 0 0 (mz_A ad 55)) (F0 m 9 ls [])) : ∀ (x1 : Int32) (x2 : Int32) (x3 : Int32) (t : mz_St), f_MO_bracketEnd_56 n K9 x1 x2 x3 t = some res → ∀ (H : Heap) (locs : List Loc) (ls : Array Slot), mz_Wd mz_tM 55 mz_cl dC dI ad en ca s t H locs → lv_has ls 5 [(0, .ref (ad 0)), (1, .int x1), (2, .int x2), (3, .int x3)] → W p l e (r_MO_bracketEnd) s m args below meth c H locs 0 0 (MQ below (mz_Q SX mz_tM 55 mz_cl dC dI ad en ca (some (.int res.1)) res.2) args s 0 0 (mz_A ad 55)) (F0 m 56 ls []) := by
  obtain ⟨hx, hb, hml, hown, hcx, -, -, hSX, -, -, hSK⟩ := id E
  intro x1 x2 x3 t hf H locs ls w hl
  unfold f_MO_bracketEnd_56 at hf
  refine lv_iload_n hx hb d_MO_bracketEnd_56 rfl (lv_at hl 2 rfl) ?_
  refine lv_iconst (v := (1 : Int32)) hx hb d_MO_bracketEnd_57 (by decide) ?_
  refine lv_iadd hx hb d_MO_bracketEnd_58 ?_
  refine lv_goto (tgt := 76) hx hb d_MO_bracketEnd_59 (by decide) ?_
  exact b_MO_bracketEnd_76 E n K9 hK9 x1 x3 (x2 + (1 : Int32)) t hf _ _ _ w (lv_sub hl [0, 1, 3] rfl)
set_option maxRecDepth 100000 in
set_option maxHeartbeats 4000000 in
theorem b_MO_bracketEnd_9 {SX : State → Heap → Prop} {dC : Nat → ClassId} {dI : Nat → Nat → Nat} {ad en : Nat → Nat} {ca : Nat → ClassId} {p : Program} {l : Launch} {e : Env} {s : State} {m : MethodId} {args : Array Value} {below : List Frame} {meth : Method} {c : Code} {res : (Int32 × mz_St)} (E : mz_En SX 55 mz_cl dC dI ad ca p s m meth c prog_15_method_43_code 5 "MacroHouseModel" (some (.int))) (n : Nat) (k : Nat) : ∀ (x1 : Int32) (x2 : Int32) (x3 : Int32) (t : mz_St), f_MO_bracketEnd_9 n k x1 x2 x3 t = some res → ∀ (H : Heap) (locs : List Loc) (ls : Array Slot), mz_Wd mz_tM 55 mz_cl dC dI ad en ca s t H locs → lv_has ls 5 [(0, .ref (ad 0)), (1, .int x1), (2, .int x2), (3, .int x3)] → W p l e (r_MO_bracketEnd) s m args below meth c H locs 0 0 (MQ below (mz_Q SX mz_tM 55 mz_cl dC dI ad en ca (some (.int res.1)) res.2) args s 0 0 (mz_A ad 55)) (F0 m 9 ls []) := by
  obtain ⟨hx, hb, hml, hown, hcx, -, -, hSX, -, -, hSK⟩ := id E
  induction k with
  | zero => intro x1 x2 x3 t hf; exact absurd hf (by unfold f_MO_bracketEnd_9; exact fun h => nomatch h)
  | succ k ih =>
    intro x1 x2 x3 t hf H locs ls w hl
    unfold f_MO_bracketEnd_9 at hf
    refine lv_iload_n hx hb d_MO_bracketEnd_9 rfl (lv_at hl 2 rfl) ?_
    refine lv_if_le (tgt := 83) hx hb d_MO_bracketEnd_10 (by decide) (fun hc2 => ?_) (fun hc2 => ?_)
    · have hf := mz_t hc2 hf
      exact b_MO_bracketEnd_83 E n x2 x3 t hf _ _ _ w (lv_sub hl [0, 2, 3] rfl)
    · have hf := mz_f hc2 hf
      refine lv_iload_n hx hb d_MO_bracketEnd_13 rfl (lv_at hl 3 rfl) ?_
      refine lv_aload_n hx hb d_MO_bracketEnd_14 rfl (lv_at hl 0 rfl) ?_
      refine mz_get E w 0 37 (v := .ref (ad 24)) (by decide) rfl rfl ii_11 (by decide) (Nat.le_of_ble_eq_true rfl) k_1220 rfl d_MO_bracketEnd_15 ?_
      refine lv_iload_n hx hb d_MO_bracketEnd_18 rfl (lv_at hl 1 rfl) ?_
      obtain ⟨hi7, hf⟩ := mz_gd hf
      refine mz_iald E w 24 (by decide) rfl hi7 d_MO_bracketEnd_19 ?_
      refine lv_icmp_ge (tgt := 83) hx hb d_MO_bracketEnd_20 (by decide) (fun hc8 => ?_) (fun hc8 => ?_)
      · have hf := mz_t hc8 hf
        exact b_MO_bracketEnd_83 E n x2 x3 t hf _ _ _ w (lv_sub hl [0, 2, 3] rfl)
      · have hf := mz_f hc8 hf
        refine lv_aload_n hx hb d_MO_bracketEnd_23 rfl (lv_at hl 0 rfl) ?_
        refine mz_get E w 0 6 (v := .int (mz_gI t 0 6)) (by decide) rfl rfl ii_11 (by decide) (Nat.le_of_ble_eq_true rfl) k_1189 rfl d_MO_bracketEnd_24 ?_
        refine lv_if_ne (tgt := 83) hx hb d_MO_bracketEnd_27 (by decide) (fun hc9 => ?_) (fun hc9 => ?_)
        · have hf := mz_f hc9 hf
          exact b_MO_bracketEnd_83 E n x2 x3 t hf _ _ _ w (lv_sub hl [0, 2, 3] rfl)
        · have hf := mz_t hc9 hf
          refine lv_aload_n hx hb d_MO_bracketEnd_30 rfl (lv_at hl 0 rfl) ?_
          refine lv_iload_n hx hb d_MO_bracketEnd_31 rfl (lv_at hl 3 rfl) ?_
          obtain ⟨q10, hq11, hf⟩ := mz_bd hf
          refine mz_callV E w (k := 0) (As := [.int x3]) (rest := []) (c_MO_look hSK l n x3 t q10 hq11) (by decide) rfl rfl k_1475 k_15 k_1472 k_1474 ks_55 hm_MO_look ⟨⟨rfl, rfl⟩, Nat.le_of_ble_eq_true rfl, Nat.le_of_ble_eq_true rfl⟩ rfl hl.1 rfl (Nat.le_of_ble_eq_true rfl) d_MO_bracketEnd_32 ⟨Nat.zero_le _, Nat.zero_le _⟩ (st1 := []) rfl (fun H locs w => ?_)
          refine lv_aload_n hx hb d_MO_bracketEnd_35 rfl (lv_at hl 0 rfl) ?_
          refine lv_iload_n hx hb d_MO_bracketEnd_36 rfl (lv_at hl 3 rfl) ?_
          obtain ⟨q12, hq13, hf⟩ := mz_bd hf
          refine mz_callV E w (k := 0) (As := [.int x3]) (rest := []) (c_MO_firstOf hSK l n x3 q10 q12 hq13) (by decide) rfl rfl k_1479 k_15 k_1476 k_1478 ks_56 hm_MO_firstOf ⟨⟨rfl, rfl⟩, Nat.le_of_ble_eq_true rfl, Nat.le_of_ble_eq_true rfl⟩ rfl hl.1 rfl (Nat.le_of_ble_eq_true rfl) d_MO_bracketEnd_37 ⟨Nat.zero_le _, Nat.zero_le _⟩ (st1 := [.int q12.1]) rfl (fun H locs w => ?_)
          refine lv_istore (lv' := [(4, .int q12.1), (0, .ref (ad 0)), (1, .int x1), (2, .int x2), (3, .int x3)]) hx hb d_MO_bracketEnd_40 hl (by decide) rfl (fun ls hl => ?_)
          refine lv_iload hx hb d_MO_bracketEnd_42 (lv_at hl 0 rfl) ?_
          refine lv_bipush (v := (10 : Int32)) hx hb d_MO_bracketEnd_44 (by decide) ?_
          refine lv_icmp_eq (tgt := 56) hx hb d_MO_bracketEnd_46 (by decide) (fun hc14 => ?_) (fun hc14 => ?_)
          · have hf := mz_t hc14 hf
            exact b_MO_bracketEnd_56 E n (f_MO_bracketEnd_9 n k) ih x1 x2 x3 q12.2 hf _ _ _ w (lv_sub hl [1, 2, 3, 4] rfl)
          · have hf := mz_f hc14 hf
            refine lv_iload hx hb d_MO_bracketEnd_49 (lv_at hl 0 rfl) ?_
            refine lv_bipush (v := (11 : Int32)) hx hb d_MO_bracketEnd_51 (by decide) ?_
            refine lv_icmp_ne (tgt := 62) hx hb d_MO_bracketEnd_53 (by decide) (fun hc15 => ?_) (fun hc15 => ?_)
            · have hf := mz_f hc15 hf
              refine lv_iload hx hb d_MO_bracketEnd_62 (lv_at hl 0 rfl) ?_
              refine lv_bipush (v := (12 : Int32)) hx hb d_MO_bracketEnd_64 (by decide) ?_
              refine lv_icmp_ne (tgt := 75) hx hb d_MO_bracketEnd_66 (by decide) (fun hc16 => ?_) (fun hc16 => ?_)
              · have hf := mz_f hc16 hf
                refine lv_iload_n hx hb d_MO_bracketEnd_75 rfl (lv_at hl 3 rfl) ?_
                exact b_MO_bracketEnd_76 E n (f_MO_bracketEnd_9 n k) ih x1 x3 x2 q12.2 hf _ _ _ w (lv_sub hl [1, 2, 4] rfl)
              · have hf := mz_t hc16 hf
                refine lv_iload_n hx hb d_MO_bracketEnd_69 rfl (lv_at hl 3 rfl) ?_
                refine lv_iconst (v := (1 : Int32)) hx hb d_MO_bracketEnd_70 (by decide) ?_
                refine lv_isub hx hb d_MO_bracketEnd_71 ?_
                refine lv_goto (tgt := 76) hx hb d_MO_bracketEnd_72 (by decide) ?_
                exact b_MO_bracketEnd_76 E n (f_MO_bracketEnd_9 n k) ih x1 x3 (x2 - (1 : Int32)) q12.2 hf _ _ _ w (lv_sub hl [1, 2, 4] rfl)
            · have hf := mz_t hc15 hf
              exact b_MO_bracketEnd_56 E n (f_MO_bracketEnd_9 n k) ih x1 x2 x3 q12.2 hf _ _ _ w (lv_sub hl [1, 2, 3, 4] rfl)
set_option maxRecDepth 100000 in
set_option maxHeartbeats 4000000 in
theorem c_MO_bracketEnd {SX : State → Heap → Prop} {dC : Nat → ClassId} {dI : Nat → Nat → Nat} {ad en : Nat → Nat} {ca : Nat → ClassId} (hSK : mz_SK SX ad 55) (l : Launch) (n : Nat) (x1 : Int32) (t : mz_St) (res : (Int32 × mz_St)) (hf : f_MO_bracketEnd n x1 t = some res) : mz_C SX mz_tM 55 mz_cl dC dI ad en ca l y_MO_bracketEnd prog_15_method_43_code 5 (some (.int)) (r_MO_bracketEnd) [.ref (ad 0), .int x1] t (some (.int res.1)) res.2 := by
  unfold f_MO_bracketEnd at hf
  refine mz_met hSK (by decide) (Nat.le_of_ble_eq_true rfl) ?_
  intro p e s m args below meth c ls E w hl
  obtain ⟨hx, hb, hml, hown, hcx, -, -, hSX, -, -, -⟩ := id E
  have hl : lv_has ls 5 [(0, .ref (ad 0)), (1, .int x1)] := hl
  refine lv_iconst (v := (1 : Int32)) hx hb d_MO_bracketEnd_0 (by decide) ?_
  refine lv_istore_n (lv' := [(2, .int (1 : Int32)), (0, .ref (ad 0)), (1, .int x1)]) hx hb d_MO_bracketEnd_1 rfl hl (by decide) rfl (fun ls hl => ?_)
  refine lv_aload_n hx hb d_MO_bracketEnd_2 rfl (lv_at hl 1 rfl) ?_
  refine mz_get E w 0 38 (v := .ref (ad 25)) (by decide) rfl rfl ii_11 (by decide) (Nat.le_of_ble_eq_true rfl) k_1221 rfl d_MO_bracketEnd_3 ?_
  refine lv_iload_n hx hb d_MO_bracketEnd_6 rfl (lv_at hl 2 rfl) ?_
  obtain ⟨hi1, hf⟩ := mz_gd hf
  refine mz_iald E w 25 (by decide) rfl hi1 d_MO_bracketEnd_7 ?_
  refine lv_istore_n (lv' := [(3, .int (mz_gI t 25 x1.toNatClampNeg)), (2, .int (1 : Int32)), (0, .ref (ad 0)), (1, .int x1)]) hx hb d_MO_bracketEnd_8 rfl hl (by decide) rfl (fun ls hl => ?_)
  exact b_MO_bracketEnd_9 E n n x1 (1 : Int32) (mz_gI t 25 x1.toNatClampNeg) t hf _ _ _ w (lv_sub hl [2, 3, 1, 0] rfl)

/-! MacroHouseModel.repeat()V -/
abbrev r_MO_repeat : Room := { frames := 5, cells := 0, slots := 0, locals := 114 }
def f_MO_repeat_94 (n : Nat) (x1 : Int32) (x3 : Int32) (x4 : Int32) (t : mz_St) : Option mz_St := if x1 ≤ 0 then (some t) else ((f_MO_beginFrame n (2 : Int32) x3 (x4 - (1 : Int32)) x1 (mz_gI t 0 48) (mz_gI t 0 51) t).bind fun q15 => some q15)
def f_MO_repeat (n : Nat) (t : mz_St) : Option mz_St := (f_MO_wholeValue n t).bind fun q1 => if (mz_gI q1.2 0 6) ≤ 0 then ((f_MO_in n q1.1 (0 : Int32) (100 : Int32) q1.2).bind fun q4 => if q4.1 = 0 then ((f_MO_fail n (4 : Int32) (mz_gI q4.2 0 63) q4.2).bind fun q20 => some q20) else (if ¬ (((mz_gI q4.2 0 34) - (1 : Int32)) < 0 ∨ 14 ≤ ((mz_gI q4.2 0 34) - (1 : Int32)).toNatClampNeg) then ((f_MO_bracketEnd n ((mz_gI q4.2 0 34) - (1 : Int32)) q4.2).bind fun q8 => if 0 ≤ q8.1 then (if ¬ (((mz_gI q4.2 0 34) - (1 : Int32)) < 0 ∨ 14 ≤ ((mz_gI q4.2 0 34) - (1 : Int32)).toNatClampNeg) then (mz_let (mz_pI q8.2 25 ((mz_gI q4.2 0 34) - (1 : Int32)).toNatClampNeg q8.1) fun t12 => if q1.1 ≤ 0 then (f_MO_repeat_94 n q1.1 (mz_gI q4.2 25 ((mz_gI q4.2 0 34) - (1 : Int32)).toNatClampNeg) q8.1 t12) else (if (mz_gI t12 0 34) ≤ (12 : Int32) then (f_MO_repeat_94 n q1.1 (mz_gI q4.2 25 ((mz_gI q4.2 0 34) - (1 : Int32)).toNatClampNeg) q8.1 t12) else ((f_MO_fail n (6 : Int32) (mz_gI t12 0 63) t12).bind fun q18 => some q18))) else none) else (some q8.2)) else none)) else (some q1.2)
set_option maxRecDepth 100000 in
set_option maxHeartbeats 4000000 in
theorem b_MO_repeat_94 {SX : State → Heap → Prop} {dC : Nat → ClassId} {dI : Nat → Nat → Nat} {ad en : Nat → Nat} {ca : Nat → ClassId} {p : Program} {l : Launch} {e : Env} {s : State} {m : MethodId} {args : Array Value} {below : List Frame} {meth : Method} {c : Code} {res : mz_St} (E : mz_En SX 55 mz_cl dC dI ad ca p s m meth c prog_15_method_44_code 5 "MacroHouseModel" none) (n : Nat) : ∀ (x1 : Int32) (x3 : Int32) (x4 : Int32) (t : mz_St), f_MO_repeat_94 n x1 x3 x4 t = some res → ∀ (H : Heap) (locs : List Loc) (ls : Array Slot), mz_Wd mz_tM 55 mz_cl dC dI ad en ca s t H locs → lv_has ls 5 [(0, .ref (ad 0)), (1, .int x1), (3, .int x3), (4, .int x4)] → W p l e (r_MO_repeat) s m args below meth c H locs 0 0 (MQ below (mz_Q SX mz_tM 55 mz_cl dC dI ad en ca none res) args s 0 0 (mz_A ad 55)) (F0 m 94 ls []) := by
  obtain ⟨hx, hb, hml, hown, hcx, -, -, hSX, -, -, hSK⟩ := id E
  intro x1 x3 x4 t hf H locs ls w hl
  unfold f_MO_repeat_94 at hf
  refine lv_iload_n hx hb d_MO_repeat_94 rfl (lv_at hl 1 rfl) ?_
  refine lv_if_le (tgt := 117) hx hb d_MO_repeat_95 (by decide) (fun hc14 => ?_) (fun hc14 => ?_)
  · have hf := mz_t hc14 hf
    obtain rfl := Option.some.inj hf
    exact mz_vret E w rfl d_MO_repeat_117
  · have hf := mz_f hc14 hf
    refine lv_aload_n hx hb d_MO_repeat_98 rfl (lv_at hl 0 rfl) ?_
    refine lv_iconst (v := (2 : Int32)) hx hb d_MO_repeat_99 (by decide) ?_
    refine lv_iload_n hx hb d_MO_repeat_100 rfl (lv_at hl 2 rfl) ?_
    refine lv_iload hx hb d_MO_repeat_101 (lv_at hl 3 rfl) ?_
    refine lv_iconst (v := (1 : Int32)) hx hb d_MO_repeat_103 (by decide) ?_
    refine lv_isub hx hb d_MO_repeat_104 ?_
    refine lv_iload_n hx hb d_MO_repeat_105 rfl (lv_at hl 1 rfl) ?_
    refine lv_aload_n hx hb d_MO_repeat_106 rfl (lv_at hl 0 rfl) ?_
    refine mz_get E w 0 48 (v := .int (mz_gI t 0 48)) (by decide) rfl rfl ii_11 (by decide) (Nat.le_of_ble_eq_true rfl) k_1231 rfl d_MO_repeat_107 ?_
    refine lv_aload_n hx hb d_MO_repeat_110 rfl (lv_at hl 0 rfl) ?_
    refine mz_get E w 0 51 (v := .int (mz_gI t 0 51)) (by decide) rfl rfl ii_11 (by decide) (Nat.le_of_ble_eq_true rfl) k_1234 rfl d_MO_repeat_111 ?_
    obtain ⟨q15, hq16, hf⟩ := mz_bd hf
    refine mz_callV E w (k := 0) (As := [.int (2 : Int32), .int x3, .int (x4 - (1 : Int32)), .int x1, .int (mz_gI t 0 48), .int (mz_gI t 0 51)]) (rest := []) (c_MO_beginFrame hSK l n (2 : Int32) x3 (x4 - (1 : Int32)) x1 (mz_gI t 0 48) (mz_gI t 0 51) t q15 hq16) (by decide) rfl rfl k_1455 k_15 k_1452 k_1454 ks_50 hm_MO_beginFrame ⟨⟨rfl, rfl⟩, Nat.le_of_ble_eq_true rfl, Nat.le_of_ble_eq_true rfl⟩ rfl hl.1 rfl (Nat.le_of_ble_eq_true rfl) d_MO_repeat_114 ⟨Nat.zero_le _, Nat.zero_le _⟩ (st1 := []) rfl (fun H locs w => ?_)
    obtain rfl := Option.some.inj hf
    exact mz_vret E w rfl d_MO_repeat_117
set_option maxRecDepth 100000 in
set_option maxHeartbeats 4000000 in
theorem c_MO_repeat {SX : State → Heap → Prop} {dC : Nat → ClassId} {dI : Nat → Nat → Nat} {ad en : Nat → Nat} {ca : Nat → ClassId} (hSK : mz_SK SX ad 55) (l : Launch) (n : Nat) (t : mz_St) (res : mz_St) (hf : f_MO_repeat n t = some res) : mz_C SX mz_tM 55 mz_cl dC dI ad en ca l y_MO_repeat prog_15_method_44_code 5 none (r_MO_repeat) [.ref (ad 0)] t none res := by
  unfold f_MO_repeat at hf
  refine mz_met hSK (by decide) (Nat.le_of_ble_eq_true rfl) ?_
  intro p e s m args below meth c ls E w hl
  obtain ⟨hx, hb, hml, hown, hcx, -, -, hSX, -, -, -⟩ := id E
  have hl : lv_has ls 5 [(0, .ref (ad 0))] := hl
  refine lv_aload_n hx hb d_MO_repeat_0 rfl (lv_at hl 0 rfl) ?_
  obtain ⟨q1, hq2, hf⟩ := mz_bd hf
  refine mz_callV E w (k := 0) (As := []) (rest := []) (c_MO_wholeValue hSK l n t q1 hq2) (by decide) rfl rfl k_1561 k_15 k_1558 k_1560 ks_70 hm_MO_wholeValue ⟨⟨rfl, rfl⟩, Nat.le_of_ble_eq_true rfl, Nat.le_of_ble_eq_true rfl⟩ rfl hl.1 rfl (Nat.le_of_ble_eq_true rfl) d_MO_repeat_1 ⟨Nat.zero_le _, Nat.zero_le _⟩ (st1 := [.int q1.1]) rfl (fun H locs w => ?_)
  refine lv_istore_n (lv' := [(1, .int q1.1), (0, .ref (ad 0))]) hx hb d_MO_repeat_4 rfl hl (by decide) rfl (fun ls hl => ?_)
  refine lv_aload_n hx hb d_MO_repeat_5 rfl (lv_at hl 1 rfl) ?_
  refine mz_get E w 0 6 (v := .int (mz_gI q1.2 0 6)) (by decide) rfl rfl ii_11 (by decide) (Nat.le_of_ble_eq_true rfl) k_1189 rfl d_MO_repeat_6 ?_
  refine lv_if_le (tgt := 13) hx hb d_MO_repeat_9 (by decide) (fun hc3 => ?_) (fun hc3 => ?_)
  · have hf := mz_t hc3 hf
    refine lv_iload_n hx hb d_MO_repeat_13 rfl (lv_at hl 0 rfl) ?_
    refine lv_iconst (v := (0 : Int32)) hx hb d_MO_repeat_14 (by decide) ?_
    refine lv_bipush (v := (100 : Int32)) hx hb d_MO_repeat_15 (by decide) ?_
    obtain ⟨q4, hq5, hf⟩ := mz_bd hf
    refine mz_callS E w (As := [.int q1.1, .int (0 : Int32), .int (100 : Int32)]) (rest := []) (c_MO_in hSK l n q1.1 (0 : Int32) (100 : Int32) q1.2 q4 hq5) k_1435 k_15 k_1433 k_1434 hm_MO_in ⟨⟨rfl, rfl⟩, Nat.le_of_ble_eq_true rfl, Nat.le_of_ble_eq_true rfl⟩ rfl hl.1 rfl (Nat.le_of_ble_eq_true rfl) d_MO_repeat_17 ⟨Nat.zero_le _, Nat.zero_le _⟩ (st1 := [.int q4.1]) rfl (fun H locs w => ?_)
    refine lv_if_ne (tgt := 33) hx hb d_MO_repeat_20 (by decide) (fun hc6 => ?_) (fun hc6 => ?_)
    · have hf := mz_f hc6 hf
      refine lv_aload_n hx hb d_MO_repeat_33 rfl (lv_at hl 1 rfl) ?_
      refine mz_get E w 0 34 (v := .int (mz_gI q4.2 0 34)) (by decide) rfl rfl ii_11 (by decide) (Nat.le_of_ble_eq_true rfl) k_1217 rfl d_MO_repeat_34 ?_
      refine lv_iconst (v := (1 : Int32)) hx hb d_MO_repeat_37 (by decide) ?_
      refine lv_isub hx hb d_MO_repeat_38 ?_
      refine lv_istore_n (lv' := [(2, .int ((mz_gI q4.2 0 34) - (1 : Int32))), (1, .int q1.1), (0, .ref (ad 0))]) hx hb d_MO_repeat_39 rfl hl (by decide) rfl (fun ls hl => ?_)
      refine lv_aload_n hx hb d_MO_repeat_40 rfl (lv_at hl 2 rfl) ?_
      refine mz_get E w 0 38 (v := .ref (ad 25)) (by decide) rfl rfl ii_11 (by decide) (Nat.le_of_ble_eq_true rfl) k_1221 rfl d_MO_repeat_41 ?_
      refine lv_iload_n hx hb d_MO_repeat_44 rfl (lv_at hl 0 rfl) ?_
      obtain ⟨hi7, hf⟩ := mz_gd hf
      refine mz_iald E w 25 (by decide) rfl hi7 d_MO_repeat_45 ?_
      refine lv_istore_n (lv' := [(3, .int (mz_gI q4.2 25 ((mz_gI q4.2 0 34) - (1 : Int32)).toNatClampNeg)), (2, .int ((mz_gI q4.2 0 34) - (1 : Int32))), (1, .int q1.1), (0, .ref (ad 0))]) hx hb d_MO_repeat_46 rfl hl (by decide) rfl (fun ls hl => ?_)
      refine lv_aload_n hx hb d_MO_repeat_47 rfl (lv_at hl 3 rfl) ?_
      refine lv_iload_n hx hb d_MO_repeat_48 rfl (lv_at hl 1 rfl) ?_
      obtain ⟨q8, hq9, hf⟩ := mz_bd hf
      refine mz_callV E w (k := 0) (As := [.int ((mz_gI q4.2 0 34) - (1 : Int32))]) (rest := []) (c_MO_bracketEnd hSK l n ((mz_gI q4.2 0 34) - (1 : Int32)) q4.2 q8 hq9) (by decide) rfl rfl k_1656 k_15 k_1653 k_1655 ks_93 hm_MO_bracketEnd ⟨⟨rfl, rfl⟩, Nat.le_of_ble_eq_true rfl, Nat.le_of_ble_eq_true rfl⟩ rfl hl.1 rfl (Nat.le_of_ble_eq_true rfl) d_MO_repeat_49 ⟨Nat.zero_le _, Nat.zero_le _⟩ (st1 := [.int q8.1]) rfl (fun H locs w => ?_)
      refine lv_istore (lv' := [(4, .int q8.1), (3, .int (mz_gI q4.2 25 ((mz_gI q4.2 0 34) - (1 : Int32)).toNatClampNeg)), (2, .int ((mz_gI q4.2 0 34) - (1 : Int32))), (1, .int q1.1), (0, .ref (ad 0))]) hx hb d_MO_repeat_52 hl (by decide) rfl (fun ls hl => ?_)
      refine lv_iload hx hb d_MO_repeat_54 (lv_at hl 0 rfl) ?_
      refine lv_if_ge (tgt := 60) hx hb d_MO_repeat_56 (by decide) (fun hc10 => ?_) (fun hc10 => ?_)
      · have hf := mz_t hc10 hf
        refine lv_aload_n hx hb d_MO_repeat_60 rfl (lv_at hl 4 rfl) ?_
        refine mz_get E w 0 38 (v := .ref (ad 25)) (by decide) rfl rfl ii_11 (by decide) (Nat.le_of_ble_eq_true rfl) k_1221 rfl d_MO_repeat_61 ?_
        refine lv_iload_n hx hb d_MO_repeat_64 rfl (lv_at hl 2 rfl) ?_
        refine lv_iload hx hb d_MO_repeat_65 (lv_at hl 0 rfl) ?_
        obtain ⟨hi11, hf⟩ := mz_gd hf
        refine mz_iast E w 25 (x := q8.1) (by decide) rfl hi11 d_MO_repeat_67 (fun H locs w => ?_)
        obtain ⟨t12, e_t12, hf⟩ := mz_lt hf
        rw [← e_t12] at w
        refine lv_iload_n hx hb d_MO_repeat_68 rfl (lv_at hl 3 rfl) ?_
        refine lv_if_le (tgt := 94) hx hb d_MO_repeat_69 (by decide) (fun hc13 => ?_) (fun hc13 => ?_)
        · have hf := mz_t hc13 hf
          exact b_MO_repeat_94 E n q1.1 (mz_gI q4.2 25 ((mz_gI q4.2 0 34) - (1 : Int32)).toNatClampNeg) q8.1 t12 hf _ _ _ w (lv_sub hl [4, 3, 1, 0] rfl)
        · have hf := mz_f hc13 hf
          refine lv_aload_n hx hb d_MO_repeat_72 rfl (lv_at hl 4 rfl) ?_
          refine mz_get E w 0 34 (v := .int (mz_gI t12 0 34)) (by decide) rfl rfl ii_11 (by decide) (Nat.le_of_ble_eq_true rfl) k_1217 rfl d_MO_repeat_73 ?_
          refine lv_bipush (v := (12 : Int32)) hx hb d_MO_repeat_76 (by decide) ?_
          refine lv_icmp_le (tgt := 94) hx hb d_MO_repeat_78 (by decide) (fun hc17 => ?_) (fun hc17 => ?_)
          · have hf := mz_t hc17 hf
            exact b_MO_repeat_94 E n q1.1 (mz_gI q4.2 25 ((mz_gI q4.2 0 34) - (1 : Int32)).toNatClampNeg) q8.1 t12 hf _ _ _ w (lv_sub hl [4, 3, 1, 0] rfl)
          · have hf := mz_f hc17 hf
            refine lv_aload_n hx hb d_MO_repeat_81 rfl (lv_at hl 4 rfl) ?_
            refine lv_bipush (v := (6 : Int32)) hx hb d_MO_repeat_82 (by decide) ?_
            refine lv_aload_n hx hb d_MO_repeat_84 rfl (lv_at hl 4 rfl) ?_
            refine mz_get E w 0 63 (v := .int (mz_gI t12 0 63)) (by decide) rfl rfl ii_11 (by decide) (Nat.le_of_ble_eq_true rfl) k_1246 rfl d_MO_repeat_85 ?_
            obtain ⟨q18, hq19, hf⟩ := mz_bd hf
            refine mz_callV E w (k := 0) (As := [.int (6 : Int32), .int (mz_gI t12 0 63)]) (rest := []) (c_MO_fail hSK l n (6 : Int32) (mz_gI t12 0 63) t12 q18 hq19) (by decide) rfl rfl k_1467 k_15 k_1464 k_1466 ks_53 hm_MO_fail ⟨⟨rfl, rfl⟩, Nat.le_of_ble_eq_true rfl, Nat.le_of_ble_eq_true rfl⟩ rfl hl.1 rfl (Nat.le_of_ble_eq_true rfl) d_MO_repeat_88 ⟨Nat.zero_le _, Nat.zero_le _⟩ (st1 := []) rfl (fun H locs w => ?_)
            refine lv_goto (tgt := 117) hx hb d_MO_repeat_91 (by decide) ?_
            obtain rfl := Option.some.inj hf
            exact mz_vret E w rfl d_MO_repeat_117
      · have hf := mz_f hc10 hf
        obtain rfl := Option.some.inj hf
        exact mz_vret E w rfl d_MO_repeat_59
    · have hf := mz_t hc6 hf
      refine lv_aload_n hx hb d_MO_repeat_23 rfl (lv_at hl 1 rfl) ?_
      refine lv_iconst (v := (4 : Int32)) hx hb d_MO_repeat_24 (by decide) ?_
      refine lv_aload_n hx hb d_MO_repeat_25 rfl (lv_at hl 1 rfl) ?_
      refine mz_get E w 0 63 (v := .int (mz_gI q4.2 0 63)) (by decide) rfl rfl ii_11 (by decide) (Nat.le_of_ble_eq_true rfl) k_1246 rfl d_MO_repeat_26 ?_
      obtain ⟨q20, hq21, hf⟩ := mz_bd hf
      refine mz_callV E w (k := 0) (As := [.int (4 : Int32), .int (mz_gI q4.2 0 63)]) (rest := []) (c_MO_fail hSK l n (4 : Int32) (mz_gI q4.2 0 63) q4.2 q20 hq21) (by decide) rfl rfl k_1467 k_15 k_1464 k_1466 ks_53 hm_MO_fail ⟨⟨rfl, rfl⟩, Nat.le_of_ble_eq_true rfl, Nat.le_of_ble_eq_true rfl⟩ rfl hl.1 rfl (Nat.le_of_ble_eq_true rfl) d_MO_repeat_29 ⟨Nat.zero_le _, Nat.zero_le _⟩ (st1 := []) rfl (fun H locs w => ?_)
      obtain rfl := Option.some.inj hf
      exact mz_vret E w rfl d_MO_repeat_32
  · have hf := mz_f hc3 hf
    obtain rfl := Option.some.inj hf
    exact mz_vret E w rfl d_MO_repeat_12

/-! MacroHouseModel.readTexts()I -/
abbrev r_MO_readTexts : Room := { frames := 1, cells := 0, slots := 0, locals := 25 }
def f_MO_readTexts_159 (n : Nat) (K15 : Int32 → Int32 → Int32 → Int32 → mz_St → Option (Int32 × mz_St)) (x1 : Int32) (x2 : Int32) (x3 : Int32) (x4 : Int32) (s1 : Int32) (t : mz_St) : Option (Int32 × mz_St) := if s1 = 0 ∨ s1 = 1 then (mz_let (mz_pI t 0 62 s1) fun t10 => K15 x1 x2 x3 (x4 + (1 : Int32)) t10) else none
def f_MO_readTexts_158 (n : Nat) (K15 : Int32 → Int32 → Int32 → Int32 → mz_St → Option (Int32 × mz_St)) (x1 : Int32) (x2 : Int32) (x3 : Int32) (x4 : Int32) (t : mz_St) : Option (Int32 × mz_St) := f_MO_readTexts_159 n K15 x1 x2 x3 x4 (0 : Int32) t
def f_MO_readTexts_141 (n : Nat) (K15 : Int32 → Int32 → Int32 → Int32 → mz_St → Option (Int32 × mz_St)) (x1 : Int32) (x3 : Int32) (x4 : Int32) (s0 : Int32) (t : mz_St) : Option (Int32 × mz_St) := if (mz_gI t 0 62) = 0 then (f_MO_readTexts_158 n K15 x1 s0 x3 x4 t) else (if s0 < 0 then (f_MO_readTexts_158 n K15 x1 s0 x3 x4 t) else (f_MO_readTexts_159 n K15 x1 s0 x3 x4 (1 : Int32) t))
def f_MO_readTexts_114 (n : Nat) (K15 : Int32 → Int32 → Int32 → Int32 → mz_St → Option (Int32 × mz_St)) (x1 : Int32) (x2 : Int32) (x3 : Int32) (x4 : Int32) (x5 : Int32) (t : mz_St) : Option (Int32 × mz_St) := if x5 = (40 : Int32) then (f_MO_readTexts_141 n K15 x1 x3 x4 (x2 + (1 : Int32)) t) else (if x5 = (41 : Int32) then (f_MO_readTexts_141 n K15 x1 x3 x4 (x2 - (1 : Int32)) t) else (f_MO_readTexts_141 n K15 x1 x3 x4 x2 t))
def f_MO_readTexts_96 (n : Nat) (K15 : Int32 → Int32 → Int32 → Int32 → mz_St → Option (Int32 × mz_St)) (x1 : Int32) (x2 : Int32) (x3 : Int32) (x4 : Int32) (x5 : Int32) (s1 : Int32) (t : mz_St) : Option (Int32 × mz_St) := if s1 = 0 ∨ s1 = 1 then (mz_let (mz_pI t 0 62 s1) fun t14 => (f_MO_hold n x3 x4 t14).bind fun q15 => f_MO_readTexts_114 n K15 (x1 + (1 : Int32)) x2 (x4 + (1 : Int32)) x4 x5 q15) else none
def f_MO_readTexts_95 (n : Nat) (K15 : Int32 → Int32 → Int32 → Int32 → mz_St → Option (Int32 × mz_St)) (x1 : Int32) (x2 : Int32) (x3 : Int32) (x4 : Int32) (x5 : Int32) (t : mz_St) : Option (Int32 × mz_St) := f_MO_readTexts_96 n K15 x1 x2 x3 x4 x5 (0 : Int32) t
def f_MO_readTexts_72 (n : Nat) (K15 : Int32 → Int32 → Int32 → Int32 → mz_St → Option (Int32 × mz_St)) (x1 : Int32) (x2 : Int32) (x3 : Int32) (x4 : Int32) (x5 : Int32) (s0 : Int32) (t : mz_St) : Option (Int32 × mz_St) := if s0 = 0 then (f_MO_readTexts_114 n K15 x1 x2 x3 x4 x5 t) else (if (mz_gI t 0 62) = 0 then (f_MO_readTexts_95 n K15 x1 x2 x3 x4 x5 t) else (if x2 = 0 then (f_MO_readTexts_96 n K15 x1 x2 x3 x4 x5 (1 : Int32) t) else (f_MO_readTexts_95 n K15 x1 x2 x3 x4 x5 t)))
def f_MO_readTexts_71 (n : Nat) (K15 : Int32 → Int32 → Int32 → Int32 → mz_St → Option (Int32 × mz_St)) (x1 : Int32) (x2 : Int32) (x3 : Int32) (x4 : Int32) (x5 : Int32) (t : mz_St) : Option (Int32 × mz_St) := f_MO_readTexts_72 n K15 x1 x2 x3 x4 x5 (0 : Int32) t
def f_MO_readTexts_67 (n : Nat) (K15 : Int32 → Int32 → Int32 → Int32 → mz_St → Option (Int32 × mz_St)) (x1 : Int32) (x2 : Int32) (x3 : Int32) (x4 : Int32) (x5 : Int32) (t : mz_St) : Option (Int32 × mz_St) := f_MO_readTexts_72 n K15 x1 x2 x3 x4 x5 (1 : Int32) t
def f_MO_readTexts_45 (n : Nat) (K15 : Int32 → Int32 → Int32 → Int32 → mz_St → Option (Int32 × mz_St)) (x1 : Int32) (x2 : Int32) (x3 : Int32) (x4 : Int32) (s0 : Int32) (t : mz_St) : Option (Int32 × mz_St) := if s0 = (44 : Int32) then (if x2 = 0 then (f_MO_readTexts_67 n K15 x1 x2 x3 x4 s0 t) else (if x4 = (mz_gI t 0 60) then (f_MO_readTexts_67 n K15 x1 x2 x3 x4 s0 t) else (f_MO_readTexts_71 n K15 x1 x2 x3 x4 s0 t))) else (f_MO_readTexts_71 n K15 x1 x2 x3 x4 s0 t)
def f_MO_readTexts_15 (n : Nat) : Nat → Int32 → Int32 → Int32 → Int32 → mz_St → Option (Int32 × mz_St)
  | 0, _, _, _, _, _ => none
  | k + 1, x1, x2, x3, x4, t => if (mz_gI t 0 60) < x4 then (mz_let (mz_pI t 0 61 (mz_gI t 0 60)) fun t2 => some (x1, t2)) else (if (mz_gI t 0 60) ≤ x4 then (f_MO_readTexts_45 n (f_MO_readTexts_15 n k) x1 x2 x3 x4 (44 : Int32) t) else (if ¬ (x4 < 0 ∨ 6000 ≤ x4.toNatClampNeg) then (f_MO_readTexts_45 n (f_MO_readTexts_15 n k) x1 x2 x3 x4 (mz_gI t 43 x4.toNatClampNeg) t) else none))
def f_MO_readTexts (n : Nat) (t : mz_St) : Option (Int32 × mz_St) := f_MO_readTexts_15 n n (0 : Int32) (0 : Int32) (mz_gI t 0 61) (mz_gI t 0 61) t
set_option maxRecDepth 100000 in
set_option maxHeartbeats 4000000 in
theorem b_MO_readTexts_159 {SX : State → Heap → Prop} {dC : Nat → ClassId} {dI : Nat → Nat → Nat} {ad en : Nat → Nat} {ca : Nat → ClassId} {p : Program} {l : Launch} {e : Env} {s : State} {m : MethodId} {args : Array Value} {below : List Frame} {meth : Method} {c : Code} {res : (Int32 × mz_St)} (E : mz_En SX 55 mz_cl dC dI ad ca p s m meth c prog_15_method_39_code 7 "MacroHouseModel" (some (.int))) (n : Nat) (K15 : Int32 → Int32 → Int32 → Int32 → mz_St → Option (Int32 × mz_St)) (hK15 : ∀ (x1 : Int32) (x2 : Int32) (x3 : Int32) (x4 : Int32) (t : mz_St), K15 x1 x2 x3 x4 t = some res → ∀ (H : Heap) (locs : List Loc) (ls : Array Slot), mz_Wd mz_tM 55 mz_cl dC dI ad en ca s t H locs → lv_has ls 7 [(0, .ref (ad 0)), (1, .int x1), (2, .int x2), (3, .int x3), (4, .int x4)] → W p l e (r_MO_readTexts) s m args below meth c H locs 0 0 (MQ below (mz_Q SX mz_tM 55 mz_cl dC dI ad en ca (some (.int res.1)) res.2) args s 0 0 (mz_A ad 55)) (F0 m 15 ls [])) : ∀ (x1 : Int32) (x2 : Int32) (x3 : Int32) (x4 : Int32) (s1 : Int32) (t : mz_St), f_MO_readTexts_159 n K15 x1 x2 x3 x4 s1 t = some res → ∀ (H : Heap) (locs : List Loc) (ls : Array Slot), mz_Wd mz_tM 55 mz_cl dC dI ad en ca s t H locs → lv_has ls 7 [(0, .ref (ad 0)), (1, .int x1), (2, .int x2), (3, .int x3), (4, .int x4)] → W p l e (r_MO_readTexts) s m args below meth c H locs 0 0 (MQ below (mz_Q SX mz_tM 55 mz_cl dC dI ad en ca (some (.int res.1)) res.2) args s 0 0 (mz_A ad 55)) (F0 m 159 ls [.int s1, .ref (ad 0)]) := by
  obtain ⟨hx, hb, hml, hown, hcx, -, -, hSX, -, -, hSK⟩ := id E
  intro x1 x2 x3 x4 s1 t hf H locs ls w hl
  unfold f_MO_readTexts_159 at hf
  obtain ⟨hz9, hf⟩ := mz_gd hf
  refine mz_put E w 0 62 (v := s1) (by decide) rfl rfl ii_11 tk_11 nm_11 (by decide) (Nat.le_of_ble_eq_true rfl) k_1245 rfl (tk_11 62 (by decide)) rfl (mz_b01 hz9) (mz_f01 hz9) d_MO_readTexts_159 (fun H locs w => ?_)
  obtain ⟨t10, e_t10, hf⟩ := mz_lt hf
  rw [← e_t10] at w
  refine lv_iinc (v := (x4 + (1 : Int32))) (lv' := [(4, .int (x4 + (1 : Int32))), (0, .ref (ad 0)), (1, .int x1), (2, .int x2), (3, .int x3)]) hx hb d_MO_readTexts_162 hl (k := 4) rfl rfl (by decide) rfl (fun ls hl => ?_)
  refine lv_goto (tgt := 15) hx hb d_MO_readTexts_165 (by decide) ?_
  exact hK15 x1 x2 x3 (x4 + (1 : Int32)) t10 hf _ _ _ w (lv_sub hl [1, 2, 3, 4, 0] rfl)
set_option maxRecDepth 100000 in
set_option maxHeartbeats 4000000 in
theorem b_MO_readTexts_158 {SX : State → Heap → Prop} {dC : Nat → ClassId} {dI : Nat → Nat → Nat} {ad en : Nat → Nat} {ca : Nat → ClassId} {p : Program} {l : Launch} {e : Env} {s : State} {m : MethodId} {args : Array Value} {below : List Frame} {meth : Method} {c : Code} {res : (Int32 × mz_St)} (E : mz_En SX 55 mz_cl dC dI ad ca p s m meth c prog_15_method_39_code 7 "MacroHouseModel" (some (.int))) (n : Nat) (K15 : Int32 → Int32 → Int32 → Int32 → mz_St → Option (Int32 × mz_St)) (hK15 : ∀ (x1 : Int32) (x2 : Int32) (x3 : Int32) (x4 : Int32) (t : mz_St), K15 x1 x2 x3 x4 t = some res → ∀ (H : Heap) (locs : List Loc) (ls : Array Slot), mz_Wd mz_tM 55 mz_cl dC dI ad en ca s t H locs → lv_has ls 7 [(0, .ref (ad 0)), (1, .int x1), (2, .int x2), (3, .int x3), (4, .int x4)] → W p l e (r_MO_readTexts) s m args below meth c H locs 0 0 (MQ below (mz_Q SX mz_tM 55 mz_cl dC dI ad en ca (some (.int res.1)) res.2) args s 0 0 (mz_A ad 55)) (F0 m 15 ls [])) : ∀ (x1 : Int32) (x2 : Int32) (x3 : Int32) (x4 : Int32) (t : mz_St), f_MO_readTexts_158 n K15 x1 x2 x3 x4 t = some res → ∀ (H : Heap) (locs : List Loc) (ls : Array Slot), mz_Wd mz_tM 55 mz_cl dC dI ad en ca s t H locs → lv_has ls 7 [(0, .ref (ad 0)), (1, .int x1), (2, .int x2), (3, .int x3), (4, .int x4)] → W p l e (r_MO_readTexts) s m args below meth c H locs 0 0 (MQ below (mz_Q SX mz_tM 55 mz_cl dC dI ad en ca (some (.int res.1)) res.2) args s 0 0 (mz_A ad 55)) (F0 m 158 ls [.ref (ad 0)]) := by
  obtain ⟨hx, hb, hml, hown, hcx, -, -, hSX, -, -, hSK⟩ := id E
  intro x1 x2 x3 x4 t hf H locs ls w hl
  unfold f_MO_readTexts_158 at hf
  refine lv_iconst (v := (0 : Int32)) hx hb d_MO_readTexts_158 (by decide) ?_
  exact b_MO_readTexts_159 E n K15 hK15 x1 x2 x3 x4 (0 : Int32) t hf _ _ _ w (lv_sub hl [0, 1, 2, 3, 4] rfl)
set_option maxRecDepth 100000 in
set_option maxHeartbeats 4000000 in
theorem b_MO_readTexts_141 {SX : State → Heap → Prop} {dC : Nat → ClassId} {dI : Nat → Nat → Nat} {ad en : Nat → Nat} {ca : Nat → ClassId} {p : Program} {l : Launch} {e : Env} {s : State} {m : MethodId} {args : Array Value} {below : List Frame} {meth : Method} {c : Code} {res : (Int32 × mz_St)} (E : mz_En SX 55 mz_cl dC dI ad ca p s m meth c prog_15_method_39_code 7 "MacroHouseModel" (some (.int))) (n : Nat) (K15 : Int32 → Int32 → Int32 → Int32 → mz_St → Option (Int32 × mz_St)) (hK15 : ∀ (x1 : Int32) (x2 : Int32) (x3 : Int32) (x4 : Int32) (t : mz_St), K15 x1 x2 x3 x4 t = some res → ∀ (H : Heap) (locs : List Loc) (ls : Array Slot), mz_Wd mz_tM 55 mz_cl dC dI ad en ca s t H locs → lv_has ls 7 [(0, .ref (ad 0)), (1, .int x1), (2, .int x2), (3, .int x3), (4, .int x4)] → W p l e (r_MO_readTexts) s m args below meth c H locs 0 0 (MQ below (mz_Q SX mz_tM 55 mz_cl dC dI ad en ca (some (.int res.1)) res.2) args s 0 0 (mz_A ad 55)) (F0 m 15 ls [])) : ∀ (x1 : Int32) (x3 : Int32) (x4 : Int32) (s0 : Int32) (t : mz_St), f_MO_readTexts_141 n K15 x1 x3 x4 s0 t = some res → ∀ (H : Heap) (locs : List Loc) (ls : Array Slot), mz_Wd mz_tM 55 mz_cl dC dI ad en ca s t H locs → lv_has ls 7 [(0, .ref (ad 0)), (1, .int x1), (3, .int x3), (4, .int x4)] → W p l e (r_MO_readTexts) s m args below meth c H locs 0 0 (MQ below (mz_Q SX mz_tM 55 mz_cl dC dI ad en ca (some (.int res.1)) res.2) args s 0 0 (mz_A ad 55)) (F0 m 141 ls [.int s0]) := by
  obtain ⟨hx, hb, hml, hown, hcx, -, -, hSX, -, -, hSK⟩ := id E
  intro x1 x3 x4 s0 t hf H locs ls w hl
  unfold f_MO_readTexts_141 at hf
  refine lv_istore_n (lv' := [(2, .int s0), (0, .ref (ad 0)), (1, .int x1), (3, .int x3), (4, .int x4)]) hx hb d_MO_readTexts_141 rfl hl (by decide) rfl (fun ls hl => ?_)
  refine lv_aload_n hx hb d_MO_readTexts_142 rfl (lv_at hl 1 rfl) ?_
  refine lv_aload_n hx hb d_MO_readTexts_143 rfl (lv_at hl 1 rfl) ?_
  refine mz_get E w 0 62 (v := .int (mz_gI t 0 62)) (by decide) rfl rfl ii_11 (by decide) (Nat.le_of_ble_eq_true rfl) k_1245 rfl d_MO_readTexts_144 ?_
  refine lv_if_eq (tgt := 158) hx hb d_MO_readTexts_147 (by decide) (fun hc8 => ?_) (fun hc8 => ?_)
  · have hf := mz_t hc8 hf
    exact b_MO_readTexts_158 E n K15 hK15 x1 s0 x3 x4 t hf _ _ _ w (lv_sub hl [1, 2, 0, 3, 4] rfl)
  · have hf := mz_f hc8 hf
    refine lv_iload_n hx hb d_MO_readTexts_150 rfl (lv_at hl 0 rfl) ?_
    refine lv_if_lt (tgt := 158) hx hb d_MO_readTexts_151 (by decide) (fun hc11 => ?_) (fun hc11 => ?_)
    · have hf := mz_t hc11 hf
      exact b_MO_readTexts_158 E n K15 hK15 x1 s0 x3 x4 t hf _ _ _ w (lv_sub hl [1, 2, 0, 3, 4] rfl)
    · have hf := mz_f hc11 hf
      refine lv_iconst (v := (1 : Int32)) hx hb d_MO_readTexts_154 (by decide) ?_
      refine lv_goto (tgt := 159) hx hb d_MO_readTexts_155 (by decide) ?_
      exact b_MO_readTexts_159 E n K15 hK15 x1 s0 x3 x4 (1 : Int32) t hf _ _ _ w (lv_sub hl [1, 2, 0, 3, 4] rfl)
set_option maxRecDepth 100000 in
set_option maxHeartbeats 4000000 in
theorem b_MO_readTexts_114 {SX : State → Heap → Prop} {dC : Nat → ClassId} {dI : Nat → Nat → Nat} {ad en : Nat → Nat} {ca : Nat → ClassId} {p : Program} {l : Launch} {e : Env} {s : State} {m : MethodId} {args : Array Value} {below : List Frame} {meth : Method} {c : Code} {res : (Int32 × mz_St)} (E : mz_En SX 55 mz_cl dC dI ad ca p s m meth c prog_15_method_39_code 7 "MacroHouseModel" (some (.int))) (n : Nat) (K15 : Int32 → Int32 → Int32 → Int32 → mz_St → Option (Int32 × mz_St)) (hK15 : ∀ (x1 : Int32) (x2 : Int32) (x3 : Int32) (x4 : Int32) (t : mz_St), K15 x1 x2 x3 x4 t = some res → ∀ (H : Heap) (locs : List Loc) (ls : Array Slot), mz_Wd mz_tM 55 mz_cl dC dI ad en ca s t H locs → lv_has ls 7 [(0, .ref (ad 0)), (1, .int x1), (2, .int x2), (3, .int x3), (4, .int x4)] → W p l e (r_MO_readTexts) s m args below meth c H locs 0 0 (MQ below (mz_Q SX mz_tM 55 mz_cl dC dI ad en ca (some (.int res.1)) res.2) args s 0 0 (mz_A ad 55)) (F0 m 15 ls [])) : ∀ (x1 : Int32) (x2 : Int32) (x3 : Int32) (x4 : Int32) (x5 : Int32) (t : mz_St), f_MO_readTexts_114 n K15 x1 x2 x3 x4 x5 t = some res → ∀ (H : Heap) (locs : List Loc) (ls : Array Slot), mz_Wd mz_tM 55 mz_cl dC dI ad en ca s t H locs → lv_has ls 7 [(0, .ref (ad 0)), (1, .int x1), (2, .int x2), (3, .int x3), (4, .int x4), (5, .int x5)] → W p l e (r_MO_readTexts) s m args below meth c H locs 0 0 (MQ below (mz_Q SX mz_tM 55 mz_cl dC dI ad en ca (some (.int res.1)) res.2) args s 0 0 (mz_A ad 55)) (F0 m 114 ls []) := by
  obtain ⟨hx, hb, hml, hown, hcx, -, -, hSX, -, -, hSK⟩ := id E
  intro x1 x2 x3 x4 x5 t hf H locs ls w hl
  unfold f_MO_readTexts_114 at hf
  refine lv_iload hx hb d_MO_readTexts_114 (lv_at hl 5 rfl) ?_
  refine lv_bipush (v := (40 : Int32)) hx hb d_MO_readTexts_116 (by decide) ?_
  refine lv_icmp_ne (tgt := 127) hx hb d_MO_readTexts_118 (by decide) (fun hc6 => ?_) (fun hc6 => ?_)
  · have hf := mz_f hc6 hf
    refine lv_iload hx hb d_MO_readTexts_127 (lv_at hl 5 rfl) ?_
    refine lv_bipush (v := (41 : Int32)) hx hb d_MO_readTexts_129 (by decide) ?_
    refine lv_icmp_ne (tgt := 140) hx hb d_MO_readTexts_131 (by decide) (fun hc7 => ?_) (fun hc7 => ?_)
    · have hf := mz_f hc7 hf
      refine lv_iload_n hx hb d_MO_readTexts_140 rfl (lv_at hl 2 rfl) ?_
      exact b_MO_readTexts_141 E n K15 hK15 x1 x3 x4 x2 t hf _ _ _ w (lv_sub hl [0, 1, 3, 4] rfl)
    · have hf := mz_t hc7 hf
      refine lv_iload_n hx hb d_MO_readTexts_134 rfl (lv_at hl 2 rfl) ?_
      refine lv_iconst (v := (1 : Int32)) hx hb d_MO_readTexts_135 (by decide) ?_
      refine lv_isub hx hb d_MO_readTexts_136 ?_
      refine lv_goto (tgt := 141) hx hb d_MO_readTexts_137 (by decide) ?_
      exact b_MO_readTexts_141 E n K15 hK15 x1 x3 x4 (x2 - (1 : Int32)) t hf _ _ _ w (lv_sub hl [0, 1, 3, 4] rfl)
  · have hf := mz_t hc6 hf
    refine lv_iload_n hx hb d_MO_readTexts_121 rfl (lv_at hl 2 rfl) ?_
    refine lv_iconst (v := (1 : Int32)) hx hb d_MO_readTexts_122 (by decide) ?_
    refine lv_iadd hx hb d_MO_readTexts_123 ?_
    refine lv_goto (tgt := 141) hx hb d_MO_readTexts_124 (by decide) ?_
    exact b_MO_readTexts_141 E n K15 hK15 x1 x3 x4 (x2 + (1 : Int32)) t hf _ _ _ w (lv_sub hl [0, 1, 3, 4] rfl)
set_option maxRecDepth 100000 in
set_option maxHeartbeats 4000000 in
theorem b_MO_readTexts_96 {SX : State → Heap → Prop} {dC : Nat → ClassId} {dI : Nat → Nat → Nat} {ad en : Nat → Nat} {ca : Nat → ClassId} {p : Program} {l : Launch} {e : Env} {s : State} {m : MethodId} {args : Array Value} {below : List Frame} {meth : Method} {c : Code} {res : (Int32 × mz_St)} (E : mz_En SX 55 mz_cl dC dI ad ca p s m meth c prog_15_method_39_code 7 "MacroHouseModel" (some (.int))) (n : Nat) (K15 : Int32 → Int32 → Int32 → Int32 → mz_St → Option (Int32 × mz_St)) (hK15 : ∀ (x1 : Int32) (x2 : Int32) (x3 : Int32) (x4 : Int32) (t : mz_St), K15 x1 x2 x3 x4 t = some res → ∀ (H : Heap) (locs : List Loc) (ls : Array Slot), mz_Wd mz_tM 55 mz_cl dC dI ad en ca s t H locs → lv_has ls 7 [(0, .ref (ad 0)), (1, .int x1), (2, .int x2), (3, .int x3), (4, .int x4)] → W p l e (r_MO_readTexts) s m args below meth c H locs 0 0 (MQ below (mz_Q SX mz_tM 55 mz_cl dC dI ad en ca (some (.int res.1)) res.2) args s 0 0 (mz_A ad 55)) (F0 m 15 ls [])) : ∀ (x1 : Int32) (x2 : Int32) (x3 : Int32) (x4 : Int32) (x5 : Int32) (s1 : Int32) (t : mz_St), f_MO_readTexts_96 n K15 x1 x2 x3 x4 x5 s1 t = some res → ∀ (H : Heap) (locs : List Loc) (ls : Array Slot), mz_Wd mz_tM 55 mz_cl dC dI ad en ca s t H locs → lv_has ls 7 [(0, .ref (ad 0)), (1, .int x1), (2, .int x2), (3, .int x3), (4, .int x4), (5, .int x5)] → W p l e (r_MO_readTexts) s m args below meth c H locs 0 0 (MQ below (mz_Q SX mz_tM 55 mz_cl dC dI ad en ca (some (.int res.1)) res.2) args s 0 0 (mz_A ad 55)) (F0 m 96 ls [.int s1, .ref (ad 0)]) := by
  obtain ⟨hx, hb, hml, hown, hcx, -, -, hSX, -, -, hSK⟩ := id E
  intro x1 x2 x3 x4 x5 s1 t hf H locs ls w hl
  unfold f_MO_readTexts_96 at hf
  obtain ⟨hz13, hf⟩ := mz_gd hf
  refine mz_put E w 0 62 (v := s1) (by decide) rfl rfl ii_11 tk_11 nm_11 (by decide) (Nat.le_of_ble_eq_true rfl) k_1245 rfl (tk_11 62 (by decide)) rfl (mz_b01 hz13) (mz_f01 hz13) d_MO_readTexts_96 (fun H locs w => ?_)
  obtain ⟨t14, e_t14, hf⟩ := mz_lt hf
  rw [← e_t14] at w
  refine lv_aload_n hx hb d_MO_readTexts_99 rfl (lv_at hl 0 rfl) ?_
  refine lv_iload_n hx hb d_MO_readTexts_100 rfl (lv_at hl 3 rfl) ?_
  refine lv_iload hx hb d_MO_readTexts_101 (lv_at hl 4 rfl) ?_
  obtain ⟨q15, hq16, hf⟩ := mz_bd hf
  refine mz_callV E w (k := 0) (As := [.int x3, .int x4]) (rest := []) (c_MO_hold hSK l n x3 x4 t14 q15 hq16) (by decide) rfl rfl k_1632 k_15 k_1629 k_1631 ks_87 hm_MO_hold ⟨⟨rfl, rfl⟩, Nat.le_of_ble_eq_true rfl, Nat.le_of_ble_eq_true rfl⟩ rfl hl.1 rfl (Nat.le_of_ble_eq_true rfl) d_MO_readTexts_103 ⟨Nat.zero_le _, Nat.zero_le _⟩ (st1 := []) rfl (fun H locs w => ?_)
  refine lv_iinc (v := (x1 + (1 : Int32))) (lv' := [(1, .int (x1 + (1 : Int32))), (0, .ref (ad 0)), (2, .int x2), (3, .int x3), (4, .int x4), (5, .int x5)]) hx hb d_MO_readTexts_106 hl (k := 1) rfl rfl (by decide) rfl (fun ls hl => ?_)
  refine lv_iload hx hb d_MO_readTexts_109 (lv_at hl 4 rfl) ?_
  refine lv_iconst (v := (1 : Int32)) hx hb d_MO_readTexts_111 (by decide) ?_
  refine lv_iadd hx hb d_MO_readTexts_112 ?_
  refine lv_istore_n (lv' := [(3, .int (x4 + (1 : Int32))), (1, .int (x1 + (1 : Int32))), (0, .ref (ad 0)), (2, .int x2), (4, .int x4), (5, .int x5)]) hx hb d_MO_readTexts_113 rfl hl (by decide) rfl (fun ls hl => ?_)
  exact b_MO_readTexts_114 E n K15 hK15 (x1 + (1 : Int32)) x2 (x4 + (1 : Int32)) x4 x5 q15 hf _ _ _ w (lv_sub hl [2, 1, 3, 0, 4, 5] rfl)
set_option maxRecDepth 100000 in
set_option maxHeartbeats 4000000 in
theorem b_MO_readTexts_95 {SX : State → Heap → Prop} {dC : Nat → ClassId} {dI : Nat → Nat → Nat} {ad en : Nat → Nat} {ca : Nat → ClassId} {p : Program} {l : Launch} {e : Env} {s : State} {m : MethodId} {args : Array Value} {below : List Frame} {meth : Method} {c : Code} {res : (Int32 × mz_St)} (E : mz_En SX 55 mz_cl dC dI ad ca p s m meth c prog_15_method_39_code 7 "MacroHouseModel" (some (.int))) (n : Nat) (K15 : Int32 → Int32 → Int32 → Int32 → mz_St → Option (Int32 × mz_St)) (hK15 : ∀ (x1 : Int32) (x2 : Int32) (x3 : Int32) (x4 : Int32) (t : mz_St), K15 x1 x2 x3 x4 t = some res → ∀ (H : Heap) (locs : List Loc) (ls : Array Slot), mz_Wd mz_tM 55 mz_cl dC dI ad en ca s t H locs → lv_has ls 7 [(0, .ref (ad 0)), (1, .int x1), (2, .int x2), (3, .int x3), (4, .int x4)] → W p l e (r_MO_readTexts) s m args below meth c H locs 0 0 (MQ below (mz_Q SX mz_tM 55 mz_cl dC dI ad en ca (some (.int res.1)) res.2) args s 0 0 (mz_A ad 55)) (F0 m 15 ls [])) : ∀ (x1 : Int32) (x2 : Int32) (x3 : Int32) (x4 : Int32) (x5 : Int32) (t : mz_St), f_MO_readTexts_95 n K15 x1 x2 x3 x4 x5 t = some res → ∀ (H : Heap) (locs : List Loc) (ls : Array Slot), mz_Wd mz_tM 55 mz_cl dC dI ad en ca s t H locs → lv_has ls 7 [(0, .ref (ad 0)), (1, .int x1), (2, .int x2), (3, .int x3), (4, .int x4), (5, .int x5)] → W p l e (r_MO_readTexts) s m args below meth c H locs 0 0 (MQ below (mz_Q SX mz_tM 55 mz_cl dC dI ad en ca (some (.int res.1)) res.2) args s 0 0 (mz_A ad 55)) (F0 m 95 ls [.ref (ad 0)]) := by
  obtain ⟨hx, hb, hml, hown, hcx, -, -, hSX, -, -, hSK⟩ := id E
  intro x1 x2 x3 x4 x5 t hf H locs ls w hl
  unfold f_MO_readTexts_95 at hf
  refine lv_iconst (v := (0 : Int32)) hx hb d_MO_readTexts_95 (by decide) ?_
  exact b_MO_readTexts_96 E n K15 hK15 x1 x2 x3 x4 x5 (0 : Int32) t hf _ _ _ w (lv_sub hl [0, 1, 2, 3, 4, 5] rfl)
set_option maxRecDepth 100000 in
set_option maxHeartbeats 4000000 in
theorem b_MO_readTexts_72 {SX : State → Heap → Prop} {dC : Nat → ClassId} {dI : Nat → Nat → Nat} {ad en : Nat → Nat} {ca : Nat → ClassId} {p : Program} {l : Launch} {e : Env} {s : State} {m : MethodId} {args : Array Value} {below : List Frame} {meth : Method} {c : Code} {res : (Int32 × mz_St)} (E : mz_En SX 55 mz_cl dC dI ad ca p s m meth c prog_15_method_39_code 7 "MacroHouseModel" (some (.int))) (n : Nat) (K15 : Int32 → Int32 → Int32 → Int32 → mz_St → Option (Int32 × mz_St)) (hK15 : ∀ (x1 : Int32) (x2 : Int32) (x3 : Int32) (x4 : Int32) (t : mz_St), K15 x1 x2 x3 x4 t = some res → ∀ (H : Heap) (locs : List Loc) (ls : Array Slot), mz_Wd mz_tM 55 mz_cl dC dI ad en ca s t H locs → lv_has ls 7 [(0, .ref (ad 0)), (1, .int x1), (2, .int x2), (3, .int x3), (4, .int x4)] → W p l e (r_MO_readTexts) s m args below meth c H locs 0 0 (MQ below (mz_Q SX mz_tM 55 mz_cl dC dI ad en ca (some (.int res.1)) res.2) args s 0 0 (mz_A ad 55)) (F0 m 15 ls [])) : ∀ (x1 : Int32) (x2 : Int32) (x3 : Int32) (x4 : Int32) (x5 : Int32) (s0 : Int32) (t : mz_St), f_MO_readTexts_72 n K15 x1 x2 x3 x4 x5 s0 t = some res → ∀ (H : Heap) (locs : List Loc) (ls : Array Slot), mz_Wd mz_tM 55 mz_cl dC dI ad en ca s t H locs → lv_has ls 7 [(0, .ref (ad 0)), (1, .int x1), (2, .int x2), (3, .int x3), (4, .int x4), (5, .int x5)] → W p l e (r_MO_readTexts) s m args below meth c H locs 0 0 (MQ below (mz_Q SX mz_tM 55 mz_cl dC dI ad en ca (some (.int res.1)) res.2) args s 0 0 (mz_A ad 55)) (F0 m 72 ls [.int s0]) := by
  obtain ⟨hx, hb, hml, hown, hcx, -, -, hSX, -, -, hSK⟩ := id E
  intro x1 x2 x3 x4 x5 s0 t hf H locs ls w hl
  unfold f_MO_readTexts_72 at hf
  refine lv_istore (lv' := [(6, .int s0), (0, .ref (ad 0)), (1, .int x1), (2, .int x2), (3, .int x3), (4, .int x4), (5, .int x5)]) hx hb d_MO_readTexts_72 hl (by decide) rfl (fun ls hl => ?_)
  refine lv_iload hx hb d_MO_readTexts_74 (lv_at hl 0 rfl) ?_
  refine lv_if_eq (tgt := 114) hx hb d_MO_readTexts_76 (by decide) (fun hc5 => ?_) (fun hc5 => ?_)
  · have hf := mz_t hc5 hf
    exact b_MO_readTexts_114 E n K15 hK15 x1 x2 x3 x4 x5 t hf _ _ _ w (lv_sub hl [1, 2, 3, 4, 5, 6] rfl)
  · have hf := mz_f hc5 hf
    refine lv_aload_n hx hb d_MO_readTexts_79 rfl (lv_at hl 1 rfl) ?_
    refine lv_aload_n hx hb d_MO_readTexts_80 rfl (lv_at hl 1 rfl) ?_
    refine mz_get E w 0 62 (v := .int (mz_gI t 0 62)) (by decide) rfl rfl ii_11 (by decide) (Nat.le_of_ble_eq_true rfl) k_1245 rfl d_MO_readTexts_81 ?_
    refine lv_if_eq (tgt := 95) hx hb d_MO_readTexts_84 (by decide) (fun hc12 => ?_) (fun hc12 => ?_)
    · have hf := mz_t hc12 hf
      exact b_MO_readTexts_95 E n K15 hK15 x1 x2 x3 x4 x5 t hf _ _ _ w (lv_sub hl [1, 2, 3, 4, 5, 6] rfl)
    · have hf := mz_f hc12 hf
      refine lv_iload_n hx hb d_MO_readTexts_87 rfl (lv_at hl 3 rfl) ?_
      refine lv_if_ne (tgt := 95) hx hb d_MO_readTexts_88 (by decide) (fun hc17 => ?_) (fun hc17 => ?_)
      · have hf := mz_f hc17 hf
        exact b_MO_readTexts_95 E n K15 hK15 x1 x2 x3 x4 x5 t hf _ _ _ w (lv_sub hl [1, 2, 3, 4, 5, 6] rfl)
      · have hf := mz_t hc17 hf
        refine lv_iconst (v := (1 : Int32)) hx hb d_MO_readTexts_91 (by decide) ?_
        refine lv_goto (tgt := 96) hx hb d_MO_readTexts_92 (by decide) ?_
        exact b_MO_readTexts_96 E n K15 hK15 x1 x2 x3 x4 x5 (1 : Int32) t hf _ _ _ w (lv_sub hl [1, 2, 3, 4, 5, 6] rfl)
set_option maxRecDepth 100000 in
set_option maxHeartbeats 4000000 in
theorem b_MO_readTexts_71 {SX : State → Heap → Prop} {dC : Nat → ClassId} {dI : Nat → Nat → Nat} {ad en : Nat → Nat} {ca : Nat → ClassId} {p : Program} {l : Launch} {e : Env} {s : State} {m : MethodId} {args : Array Value} {below : List Frame} {meth : Method} {c : Code} {res : (Int32 × mz_St)} (E : mz_En SX 55 mz_cl dC dI ad ca p s m meth c prog_15_method_39_code 7 "MacroHouseModel" (some (.int))) (n : Nat) (K15 : Int32 → Int32 → Int32 → Int32 → mz_St → Option (Int32 × mz_St)) (hK15 : ∀ (x1 : Int32) (x2 : Int32) (x3 : Int32) (x4 : Int32) (t : mz_St), K15 x1 x2 x3 x4 t = some res → ∀ (H : Heap) (locs : List Loc) (ls : Array Slot), mz_Wd mz_tM 55 mz_cl dC dI ad en ca s t H locs → lv_has ls 7 [(0, .ref (ad 0)), (1, .int x1), (2, .int x2), (3, .int x3), (4, .int x4)] → W p l e (r_MO_readTexts) s m args below meth c H locs 0 0 (MQ below (mz_Q SX mz_tM 55 mz_cl dC dI ad en ca (some (.int res.1)) res.2) args s 0 0 (mz_A ad 55)) (F0 m 15 ls [])) : ∀ (x1 : Int32) (x2 : Int32) (x3 : Int32) (x4 : Int32) (x5 : Int32) (t : mz_St), f_MO_readTexts_71 n K15 x1 x2 x3 x4 x5 t = some res → ∀ (H : Heap) (locs : List Loc) (ls : Array Slot), mz_Wd mz_tM 55 mz_cl dC dI ad en ca s t H locs → lv_has ls 7 [(0, .ref (ad 0)), (1, .int x1), (2, .int x2), (3, .int x3), (4, .int x4), (5, .int x5)] → W p l e (r_MO_readTexts) s m args below meth c H locs 0 0 (MQ below (mz_Q SX mz_tM 55 mz_cl dC dI ad en ca (some (.int res.1)) res.2) args s 0 0 (mz_A ad 55)) (F0 m 71 ls []) := by
  obtain ⟨hx, hb, hml, hown, hcx, -, -, hSX, -, -, hSK⟩ := id E
  intro x1 x2 x3 x4 x5 t hf H locs ls w hl
  unfold f_MO_readTexts_71 at hf
  refine lv_iconst (v := (0 : Int32)) hx hb d_MO_readTexts_71 (by decide) ?_
  exact b_MO_readTexts_72 E n K15 hK15 x1 x2 x3 x4 x5 (0 : Int32) t hf _ _ _ w (lv_sub hl [0, 1, 2, 3, 4, 5] rfl)
set_option maxRecDepth 100000 in
set_option maxHeartbeats 4000000 in
theorem b_MO_readTexts_67 {SX : State → Heap → Prop} {dC : Nat → ClassId} {dI : Nat → Nat → Nat} {ad en : Nat → Nat} {ca : Nat → ClassId} {p : Program} {l : Launch} {e : Env} {s : State} {m : MethodId} {args : Array Value} {below : List Frame} {meth : Method} {c : Code} {res : (Int32 × mz_St)} (E : mz_En SX 55 mz_cl dC dI ad ca p s m meth c prog_15_method_39_code 7 "MacroHouseModel" (some (.int))) (n : Nat) (K15 : Int32 → Int32 → Int32 → Int32 → mz_St → Option (Int32 × mz_St)) (hK15 : ∀ (x1 : Int32) (x2 : Int32) (x3 : Int32) (x4 : Int32) (t : mz_St), K15 x1 x2 x3 x4 t = some res → ∀ (H : Heap) (locs : List Loc) (ls : Array Slot), mz_Wd mz_tM 55 mz_cl dC dI ad en ca s t H locs → lv_has ls 7 [(0, .ref (ad 0)), (1, .int x1), (2, .int x2), (3, .int x3), (4, .int x4)] → W p l e (r_MO_readTexts) s m args below meth c H locs 0 0 (MQ below (mz_Q SX mz_tM 55 mz_cl dC dI ad en ca (some (.int res.1)) res.2) args s 0 0 (mz_A ad 55)) (F0 m 15 ls [])) : ∀ (x1 : Int32) (x2 : Int32) (x3 : Int32) (x4 : Int32) (x5 : Int32) (t : mz_St), f_MO_readTexts_67 n K15 x1 x2 x3 x4 x5 t = some res → ∀ (H : Heap) (locs : List Loc) (ls : Array Slot), mz_Wd mz_tM 55 mz_cl dC dI ad en ca s t H locs → lv_has ls 7 [(0, .ref (ad 0)), (1, .int x1), (2, .int x2), (3, .int x3), (4, .int x4), (5, .int x5)] → W p l e (r_MO_readTexts) s m args below meth c H locs 0 0 (MQ below (mz_Q SX mz_tM 55 mz_cl dC dI ad en ca (some (.int res.1)) res.2) args s 0 0 (mz_A ad 55)) (F0 m 67 ls []) := by
  obtain ⟨hx, hb, hml, hown, hcx, -, -, hSX, -, -, hSK⟩ := id E
  intro x1 x2 x3 x4 x5 t hf H locs ls w hl
  unfold f_MO_readTexts_67 at hf
  refine lv_iconst (v := (1 : Int32)) hx hb d_MO_readTexts_67 (by decide) ?_
  refine lv_goto (tgt := 72) hx hb d_MO_readTexts_68 (by decide) ?_
  exact b_MO_readTexts_72 E n K15 hK15 x1 x2 x3 x4 x5 (1 : Int32) t hf _ _ _ w (lv_sub hl [0, 1, 2, 3, 4, 5] rfl)
set_option maxRecDepth 100000 in
set_option maxHeartbeats 4000000 in
theorem b_MO_readTexts_45 {SX : State → Heap → Prop} {dC : Nat → ClassId} {dI : Nat → Nat → Nat} {ad en : Nat → Nat} {ca : Nat → ClassId} {p : Program} {l : Launch} {e : Env} {s : State} {m : MethodId} {args : Array Value} {below : List Frame} {meth : Method} {c : Code} {res : (Int32 × mz_St)} (E : mz_En SX 55 mz_cl dC dI ad ca p s m meth c prog_15_method_39_code 7 "MacroHouseModel" (some (.int))) (n : Nat) (K15 : Int32 → Int32 → Int32 → Int32 → mz_St → Option (Int32 × mz_St)) (hK15 : ∀ (x1 : Int32) (x2 : Int32) (x3 : Int32) (x4 : Int32) (t : mz_St), K15 x1 x2 x3 x4 t = some res → ∀ (H : Heap) (locs : List Loc) (ls : Array Slot), mz_Wd mz_tM 55 mz_cl dC dI ad en ca s t H locs → lv_has ls 7 [(0, .ref (ad 0)), (1, .int x1), (2, .int x2), (3, .int x3), (4, .int x4)] → W p l e (r_MO_readTexts) s m args below meth c H locs 0 0 (MQ below (mz_Q SX mz_tM 55 mz_cl dC dI ad en ca (some (.int res.1)) res.2) args s 0 0 (mz_A ad 55)) (F0 m 15 ls [])) : ∀ (x1 : Int32) (x2 : Int32) (x3 : Int32) (x4 : Int32) (s0 : Int32) (t : mz_St), f_MO_readTexts_45 n K15 x1 x2 x3 x4 s0 t = some res → ∀ (H : Heap) (locs : List Loc) (ls : Array Slot), mz_Wd mz_tM 55 mz_cl dC dI ad en ca s t H locs → lv_has ls 7 [(0, .ref (ad 0)), (1, .int x1), (2, .int x2), (3, .int x3), (4, .int x4)] → W p l e (r_MO_readTexts) s m args below meth c H locs 0 0 (MQ below (mz_Q SX mz_tM 55 mz_cl dC dI ad en ca (some (.int res.1)) res.2) args s 0 0 (mz_A ad 55)) (F0 m 45 ls [.int s0]) := by
  obtain ⟨hx, hb, hml, hown, hcx, -, -, hSX, -, -, hSK⟩ := id E
  intro x1 x2 x3 x4 s0 t hf H locs ls w hl
  unfold f_MO_readTexts_45 at hf
  refine lv_istore (lv' := [(5, .int s0), (0, .ref (ad 0)), (1, .int x1), (2, .int x2), (3, .int x3), (4, .int x4)]) hx hb d_MO_readTexts_45 hl (by decide) rfl (fun ls hl => ?_)
  refine lv_iload hx hb d_MO_readTexts_47 (lv_at hl 0 rfl) ?_
  refine lv_bipush (v := (44 : Int32)) hx hb d_MO_readTexts_49 (by decide) ?_
  refine lv_icmp_ne (tgt := 71) hx hb d_MO_readTexts_51 (by decide) (fun hc4 => ?_) (fun hc4 => ?_)
  · have hf := mz_f hc4 hf
    exact b_MO_readTexts_71 E n K15 hK15 x1 x2 x3 x4 s0 t hf _ _ _ w (lv_sub hl [1, 2, 3, 4, 5, 0] rfl)
  · have hf := mz_t hc4 hf
    refine lv_iload_n hx hb d_MO_readTexts_54 rfl (lv_at hl 3 rfl) ?_
    refine lv_if_eq (tgt := 67) hx hb d_MO_readTexts_55 (by decide) (fun hc18 => ?_) (fun hc18 => ?_)
    · have hf := mz_t hc18 hf
      exact b_MO_readTexts_67 E n K15 hK15 x1 x2 x3 x4 s0 t hf _ _ _ w (lv_sub hl [1, 2, 3, 4, 5, 0] rfl)
    · have hf := mz_f hc18 hf
      refine lv_iload hx hb d_MO_readTexts_58 (lv_at hl 5 rfl) ?_
      refine lv_aload_n hx hb d_MO_readTexts_60 rfl (lv_at hl 1 rfl) ?_
      refine mz_get E w 0 60 (v := .int (mz_gI t 0 60)) (by decide) rfl rfl ii_11 (by decide) (Nat.le_of_ble_eq_true rfl) k_1243 rfl d_MO_readTexts_61 ?_
      refine lv_icmp_ne (tgt := 71) hx hb d_MO_readTexts_64 (by decide) (fun hc19 => ?_) (fun hc19 => ?_)
      · have hf := mz_f hc19 hf
        exact b_MO_readTexts_71 E n K15 hK15 x1 x2 x3 x4 s0 t hf _ _ _ w (lv_sub hl [1, 2, 3, 4, 5, 0] rfl)
      · have hf := mz_t hc19 hf
        exact b_MO_readTexts_67 E n K15 hK15 x1 x2 x3 x4 s0 t hf _ _ _ w (lv_sub hl [1, 2, 3, 4, 5, 0] rfl)
set_option maxRecDepth 100000 in
set_option maxHeartbeats 4000000 in
theorem b_MO_readTexts_15 {SX : State → Heap → Prop} {dC : Nat → ClassId} {dI : Nat → Nat → Nat} {ad en : Nat → Nat} {ca : Nat → ClassId} {p : Program} {l : Launch} {e : Env} {s : State} {m : MethodId} {args : Array Value} {below : List Frame} {meth : Method} {c : Code} {res : (Int32 × mz_St)} (E : mz_En SX 55 mz_cl dC dI ad ca p s m meth c prog_15_method_39_code 7 "MacroHouseModel" (some (.int))) (n : Nat) (k : Nat) : ∀ (x1 : Int32) (x2 : Int32) (x3 : Int32) (x4 : Int32) (t : mz_St), f_MO_readTexts_15 n k x1 x2 x3 x4 t = some res → ∀ (H : Heap) (locs : List Loc) (ls : Array Slot), mz_Wd mz_tM 55 mz_cl dC dI ad en ca s t H locs → lv_has ls 7 [(0, .ref (ad 0)), (1, .int x1), (2, .int x2), (3, .int x3), (4, .int x4)] → W p l e (r_MO_readTexts) s m args below meth c H locs 0 0 (MQ below (mz_Q SX mz_tM 55 mz_cl dC dI ad en ca (some (.int res.1)) res.2) args s 0 0 (mz_A ad 55)) (F0 m 15 ls []) := by
  obtain ⟨hx, hb, hml, hown, hcx, -, -, hSX, -, -, hSK⟩ := id E
  induction k with
  | zero => intro x1 x2 x3 x4 t hf; exact absurd hf (by unfold f_MO_readTexts_15; exact fun h => nomatch h)
  | succ k ih =>
    intro x1 x2 x3 x4 t hf H locs ls w hl
    unfold f_MO_readTexts_15 at hf
    refine lv_iload hx hb d_MO_readTexts_15 (lv_at hl 4 rfl) ?_
    refine lv_aload_n hx hb d_MO_readTexts_17 rfl (lv_at hl 0 rfl) ?_
    refine mz_get E w 0 60 (v := .int (mz_gI t 0 60)) (by decide) rfl rfl ii_11 (by decide) (Nat.le_of_ble_eq_true rfl) k_1243 rfl d_MO_readTexts_18 ?_
    refine lv_icmp_gt (tgt := 168) hx hb d_MO_readTexts_21 (by decide) (fun hc1 => ?_) (fun hc1 => ?_)
    · have hf := mz_t hc1 hf
      refine lv_aload_n hx hb d_MO_readTexts_168 rfl (lv_at hl 0 rfl) ?_
      refine lv_aload_n hx hb d_MO_readTexts_169 rfl (lv_at hl 0 rfl) ?_
      refine mz_get E w 0 60 (v := .int (mz_gI t 0 60)) (by decide) rfl rfl ii_11 (by decide) (Nat.le_of_ble_eq_true rfl) k_1243 rfl d_MO_readTexts_170 ?_
      refine mz_put E w 0 61 (v := (mz_gI t 0 60)) (by decide) rfl rfl ii_11 tk_11 nm_11 (by decide) (Nat.le_of_ble_eq_true rfl) k_1244 rfl (tk_11 61 (by decide)) rfl rfl rfl d_MO_readTexts_173 (fun H locs w => ?_)
      obtain ⟨t2, e_t2, hf⟩ := mz_lt hf
      rw [← e_t2] at w
      refine lv_iload_n hx hb d_MO_readTexts_176 rfl (lv_at hl 1 rfl) ?_
      obtain rfl := Option.some.inj hf
      exact mz_iret E w rfl d_MO_readTexts_177
    · have hf := mz_f hc1 hf
      refine lv_iload hx hb d_MO_readTexts_24 (lv_at hl 4 rfl) ?_
      refine lv_aload_n hx hb d_MO_readTexts_26 rfl (lv_at hl 0 rfl) ?_
      refine mz_get E w 0 60 (v := .int (mz_gI t 0 60)) (by decide) rfl rfl ii_11 (by decide) (Nat.le_of_ble_eq_true rfl) k_1243 rfl d_MO_readTexts_27 ?_
      refine lv_icmp_ge (tgt := 43) hx hb d_MO_readTexts_30 (by decide) (fun hc3 => ?_) (fun hc3 => ?_)
      · have hf := mz_t hc3 hf
        refine lv_bipush (v := (44 : Int32)) hx hb d_MO_readTexts_43 (by decide) ?_
        exact b_MO_readTexts_45 E n (f_MO_readTexts_15 n k) ih x1 x2 x3 x4 (44 : Int32) t hf _ _ _ w (lv_sub hl [0, 1, 2, 3, 4] rfl)
      · have hf := mz_f hc3 hf
        refine lv_aload_n hx hb d_MO_readTexts_33 rfl (lv_at hl 0 rfl) ?_
        refine mz_get E w 0 59 (v := .ref (ad 43)) (by decide) rfl rfl ii_11 (by decide) (Nat.le_of_ble_eq_true rfl) k_1242 rfl d_MO_readTexts_34 ?_
        refine lv_iload hx hb d_MO_readTexts_37 (lv_at hl 4 rfl) ?_
        obtain ⟨hi20, hf⟩ := mz_gd hf
        refine mz_iald E w 43 (by decide) rfl hi20 d_MO_readTexts_39 ?_
        refine lv_goto (tgt := 45) hx hb d_MO_readTexts_40 (by decide) ?_
        exact b_MO_readTexts_45 E n (f_MO_readTexts_15 n k) ih x1 x2 x3 x4 (mz_gI t 43 x4.toNatClampNeg) t hf _ _ _ w (lv_sub hl [0, 1, 2, 3, 4] rfl)
set_option maxRecDepth 100000 in
set_option maxHeartbeats 4000000 in
theorem c_MO_readTexts {SX : State → Heap → Prop} {dC : Nat → ClassId} {dI : Nat → Nat → Nat} {ad en : Nat → Nat} {ca : Nat → ClassId} (hSK : mz_SK SX ad 55) (l : Launch) (n : Nat) (t : mz_St) (res : (Int32 × mz_St)) (hf : f_MO_readTexts n t = some res) : mz_C SX mz_tM 55 mz_cl dC dI ad en ca l y_MO_readTexts prog_15_method_39_code 7 (some (.int)) (r_MO_readTexts) [.ref (ad 0)] t (some (.int res.1)) res.2 := by
  unfold f_MO_readTexts at hf
  refine mz_met hSK (by decide) (Nat.le_of_ble_eq_true rfl) ?_
  intro p e s m args below meth c ls E w hl
  obtain ⟨hx, hb, hml, hown, hcx, -, -, hSX, -, -, -⟩ := id E
  have hl : lv_has ls 7 [(0, .ref (ad 0))] := hl
  refine lv_iconst (v := (0 : Int32)) hx hb d_MO_readTexts_0 (by decide) ?_
  refine lv_istore_n (lv' := [(1, .int (0 : Int32)), (0, .ref (ad 0))]) hx hb d_MO_readTexts_1 rfl hl (by decide) rfl (fun ls hl => ?_)
  refine lv_iconst (v := (0 : Int32)) hx hb d_MO_readTexts_2 (by decide) ?_
  refine lv_istore_n (lv' := [(2, .int (0 : Int32)), (1, .int (0 : Int32)), (0, .ref (ad 0))]) hx hb d_MO_readTexts_3 rfl hl (by decide) rfl (fun ls hl => ?_)
  refine lv_aload_n hx hb d_MO_readTexts_4 rfl (lv_at hl 2 rfl) ?_
  refine mz_get E w 0 61 (v := .int (mz_gI t 0 61)) (by decide) rfl rfl ii_11 (by decide) (Nat.le_of_ble_eq_true rfl) k_1244 rfl d_MO_readTexts_5 ?_
  refine lv_istore_n (lv' := [(3, .int (mz_gI t 0 61)), (2, .int (0 : Int32)), (1, .int (0 : Int32)), (0, .ref (ad 0))]) hx hb d_MO_readTexts_8 rfl hl (by decide) rfl (fun ls hl => ?_)
  refine lv_aload_n hx hb d_MO_readTexts_9 rfl (lv_at hl 3 rfl) ?_
  refine mz_get E w 0 61 (v := .int (mz_gI t 0 61)) (by decide) rfl rfl ii_11 (by decide) (Nat.le_of_ble_eq_true rfl) k_1244 rfl d_MO_readTexts_10 ?_
  refine lv_istore (lv' := [(4, .int (mz_gI t 0 61)), (3, .int (mz_gI t 0 61)), (2, .int (0 : Int32)), (1, .int (0 : Int32)), (0, .ref (ad 0))]) hx hb d_MO_readTexts_13 hl (by decide) rfl (fun ls hl => ?_)
  exact b_MO_readTexts_15 E n n (0 : Int32) (0 : Int32) (mz_gI t 0 61) (mz_gI t 0 61) t hf _ _ _ w (lv_sub hl [4, 3, 2, 1, 0] rfl)

/-! MacroHouseModel.each()V -/
abbrev r_MO_each : Room := { frames := 4, cells := 0, slots := 0, locals := 89 }
def f_MO_each_47 (n : Nat) (x1 : Int64) (x3 : Int64) (x5 : Int32) (x6 : Int32) (s0 : Int32) (t : mz_St) : Option mz_St := if (mz_gI t 0 62) = 0 then ((f_MO_fail n (1 : Int32) (mz_gI t 0 63) t).bind fun q22 => some q22) else (if ¬ (((mz_gI t 0 34) - (1 : Int32)) < 0 ∨ 14 ≤ ((mz_gI t 0 34) - (1 : Int32)).toNatClampNeg) then ((f_MO_bracketEnd n ((mz_gI t 0 34) - (1 : Int32)) t).bind fun q8 => if 0 ≤ q8.1 then (if ¬ (((mz_gI t 0 34) - (1 : Int32)) < 0 ∨ 14 ≤ ((mz_gI t 0 34) - (1 : Int32)).toNatClampNeg) then (mz_let (mz_pI q8.2 25 ((mz_gI t 0 34) - (1 : Int32)).toNatClampNeg q8.1) fun t12 => if (mz_gI t12 0 34) ≤ (12 : Int32) then (if ¬ ((mz_gI t12 0 34) < 0 ∨ 14 ≤ (mz_gI t12 0 34).toNatClampNeg) then (mz_let (mz_pL t12 33 (mz_gI t12 0 34).toNatClampNeg x1) fun t15 => if ¬ ((mz_gI t15 0 34) < 0 ∨ 14 ≤ (mz_gI t15 0 34).toNatClampNeg) then (mz_let (mz_pL t15 34 (mz_gI t15 0 34).toNatClampNeg x3) fun t17 => (f_MO_beginFrame n (3 : Int32) (mz_gI t 25 ((mz_gI t 0 34) - (1 : Int32)).toNatClampNeg) (q8.1 - (1 : Int32)) s0 x5 x6 t17).bind fun q18 => some q18) else none) else none) else ((f_MO_fail n (6 : Int32) (mz_gI t12 0 63) t12).bind fun q20 => some q20)) else none) else (some q8.2)) else none)
def f_MO_each (n : Nat) (t : mz_St) : Option mz_St := (f_MO_word n t).bind fun q1 => (f_MO_sign n (44 : Int32) q1).bind fun q3 => if (mz_gI q3 0 62) = 0 then (f_MO_each_47 n (mz_gL q1 0 65) (mz_gL q1 0 66) (mz_gI q3 0 48) (mz_gI q3 0 51) (0 : Int32) q3) else ((f_MO_readTexts n q3).bind fun q24 => f_MO_each_47 n (mz_gL q1 0 65) (mz_gL q1 0 66) (mz_gI q3 0 48) (mz_gI q3 0 51) q24.1 q24.2)
set_option maxRecDepth 100000 in
set_option maxHeartbeats 4000000 in
theorem b_MO_each_47 {SX : State → Heap → Prop} {dC : Nat → ClassId} {dI : Nat → Nat → Nat} {ad en : Nat → Nat} {ca : Nat → ClassId} {p : Program} {l : Launch} {e : Env} {s : State} {m : MethodId} {args : Array Value} {below : List Frame} {meth : Method} {c : Code} {res : mz_St} (E : mz_En SX 55 mz_cl dC dI ad ca p s m meth c prog_15_method_45_code 11 "MacroHouseModel" none) (n : Nat) : ∀ (x1 : Int64) (x3 : Int64) (x5 : Int32) (x6 : Int32) (s0 : Int32) (t : mz_St), f_MO_each_47 n x1 x3 x5 x6 s0 t = some res → ∀ (H : Heap) (locs : List Loc) (ls : Array Slot), mz_Wd mz_tM 55 mz_cl dC dI ad en ca s t H locs → lv_has ls 11 [(0, .ref (ad 0)), (1, .long x1), (3, .long x3), (5, .int x5), (6, .int x6)] → W p l e (r_MO_each) s m args below meth c H locs 0 0 (MQ below (mz_Q SX mz_tM 55 mz_cl dC dI ad en ca none res) args s 0 0 (mz_A ad 55)) (F0 m 47 ls [.int s0]) := by
  obtain ⟨hx, hb, hml, hown, hcx, -, -, hSX, -, -, hSK⟩ := id E
  intro x1 x3 x5 x6 s0 t hf H locs ls w hl
  unfold f_MO_each_47 at hf
  refine lv_istore (lv' := [(7, .int s0), (0, .ref (ad 0)), (1, .long x1), (3, .long x3), (5, .int x5), (6, .int x6)]) hx hb d_MO_each_47 hl (by decide) rfl (fun ls hl => ?_)
  refine lv_aload_n hx hb d_MO_each_49 rfl (lv_at hl 1 rfl) ?_
  refine mz_get E w 0 62 (v := .int (mz_gI t 0 62)) (by decide) rfl rfl ii_11 (by decide) (Nat.le_of_ble_eq_true rfl) k_1245 rfl d_MO_each_50 ?_
  refine lv_if_ne (tgt := 66) hx hb d_MO_each_53 (by decide) (fun hc6 => ?_) (fun hc6 => ?_)
  · have hf := mz_f hc6 hf
    refine lv_aload_n hx hb d_MO_each_66 rfl (lv_at hl 1 rfl) ?_
    refine mz_get E w 0 34 (v := .int (mz_gI t 0 34)) (by decide) rfl rfl ii_11 (by decide) (Nat.le_of_ble_eq_true rfl) k_1217 rfl d_MO_each_67 ?_
    refine lv_iconst (v := (1 : Int32)) hx hb d_MO_each_70 (by decide) ?_
    refine lv_isub hx hb d_MO_each_71 ?_
    refine lv_istore (lv' := [(8, .int ((mz_gI t 0 34) - (1 : Int32))), (7, .int s0), (0, .ref (ad 0)), (1, .long x1), (3, .long x3), (5, .int x5), (6, .int x6)]) hx hb d_MO_each_72 hl (by decide) rfl (fun ls hl => ?_)
    refine lv_aload_n hx hb d_MO_each_74 rfl (lv_at hl 2 rfl) ?_
    refine mz_get E w 0 38 (v := .ref (ad 25)) (by decide) rfl rfl ii_11 (by decide) (Nat.le_of_ble_eq_true rfl) k_1221 rfl d_MO_each_75 ?_
    refine lv_iload hx hb d_MO_each_78 (lv_at hl 0 rfl) ?_
    obtain ⟨hi7, hf⟩ := mz_gd hf
    refine mz_iald E w 25 (by decide) rfl hi7 d_MO_each_80 ?_
    refine lv_istore (lv' := [(9, .int (mz_gI t 25 ((mz_gI t 0 34) - (1 : Int32)).toNatClampNeg)), (8, .int ((mz_gI t 0 34) - (1 : Int32))), (7, .int s0), (0, .ref (ad 0)), (1, .long x1), (3, .long x3), (5, .int x5), (6, .int x6)]) hx hb d_MO_each_81 hl (by decide) rfl (fun ls hl => ?_)
    refine lv_aload_n hx hb d_MO_each_83 rfl (lv_at hl 3 rfl) ?_
    refine lv_iload hx hb d_MO_each_84 (lv_at hl 1 rfl) ?_
    obtain ⟨q8, hq9, hf⟩ := mz_bd hf
    refine mz_callV E w (k := 0) (As := [.int ((mz_gI t 0 34) - (1 : Int32))]) (rest := []) (c_MO_bracketEnd hSK l n ((mz_gI t 0 34) - (1 : Int32)) t q8 hq9) (by decide) rfl rfl k_1656 k_15 k_1653 k_1655 ks_93 hm_MO_bracketEnd ⟨⟨rfl, rfl⟩, Nat.le_of_ble_eq_true rfl, Nat.le_of_ble_eq_true rfl⟩ rfl hl.1 rfl (Nat.le_of_ble_eq_true rfl) d_MO_each_86 ⟨Nat.zero_le _, Nat.zero_le _⟩ (st1 := [.int q8.1]) rfl (fun H locs w => ?_)
    refine lv_istore (lv' := [(10, .int q8.1), (9, .int (mz_gI t 25 ((mz_gI t 0 34) - (1 : Int32)).toNatClampNeg)), (8, .int ((mz_gI t 0 34) - (1 : Int32))), (7, .int s0), (0, .ref (ad 0)), (1, .long x1), (3, .long x3), (5, .int x5), (6, .int x6)]) hx hb d_MO_each_89 hl (by decide) rfl (fun ls hl => ?_)
    refine lv_iload hx hb d_MO_each_91 (lv_at hl 0 rfl) ?_
    refine lv_if_ge (tgt := 97) hx hb d_MO_each_93 (by decide) (fun hc10 => ?_) (fun hc10 => ?_)
    · have hf := mz_t hc10 hf
      refine lv_aload_n hx hb d_MO_each_97 rfl (lv_at hl 4 rfl) ?_
      refine mz_get E w 0 38 (v := .ref (ad 25)) (by decide) rfl rfl ii_11 (by decide) (Nat.le_of_ble_eq_true rfl) k_1221 rfl d_MO_each_98 ?_
      refine lv_iload hx hb d_MO_each_101 (lv_at hl 2 rfl) ?_
      refine lv_iload hx hb d_MO_each_103 (lv_at hl 0 rfl) ?_
      obtain ⟨hi11, hf⟩ := mz_gd hf
      refine mz_iast E w 25 (x := q8.1) (by decide) rfl hi11 d_MO_each_105 (fun H locs w => ?_)
      obtain ⟨t12, e_t12, hf⟩ := mz_lt hf
      rw [← e_t12] at w
      refine lv_aload_n hx hb d_MO_each_106 rfl (lv_at hl 4 rfl) ?_
      refine mz_get E w 0 34 (v := .int (mz_gI t12 0 34)) (by decide) rfl rfl ii_11 (by decide) (Nat.le_of_ble_eq_true rfl) k_1217 rfl d_MO_each_107 ?_
      refine lv_bipush (v := (12 : Int32)) hx hb d_MO_each_110 (by decide) ?_
      refine lv_icmp_le (tgt := 126) hx hb d_MO_each_112 (by decide) (fun hc13 => ?_) (fun hc13 => ?_)
      · have hf := mz_t hc13 hf
        refine lv_aload_n hx hb d_MO_each_126 rfl (lv_at hl 4 rfl) ?_
        refine mz_get E w 0 46 (v := .ref (ad 33)) (by decide) rfl rfl ii_11 (by decide) (Nat.le_of_ble_eq_true rfl) k_1229 rfl d_MO_each_127 ?_
        refine lv_aload_n hx hb d_MO_each_130 rfl (lv_at hl 4 rfl) ?_
        refine mz_get E w 0 34 (v := .int (mz_gI t12 0 34)) (by decide) rfl rfl ii_11 (by decide) (Nat.le_of_ble_eq_true rfl) k_1217 rfl d_MO_each_131 ?_
        refine lv_lload_n hx hb d_MO_each_134 rfl (lv_at hl 5 rfl) ?_
        obtain ⟨hi14, hf⟩ := mz_gd hf
        refine mz_last E w 33 (x := x1) (by decide) rfl hi14 d_MO_each_135 (fun H locs w => ?_)
        obtain ⟨t15, e_t15, hf⟩ := mz_lt hf
        rw [← e_t15] at w
        refine lv_aload_n hx hb d_MO_each_136 rfl (lv_at hl 4 rfl) ?_
        refine mz_get E w 0 47 (v := .ref (ad 34)) (by decide) rfl rfl ii_11 (by decide) (Nat.le_of_ble_eq_true rfl) k_1230 rfl d_MO_each_137 ?_
        refine lv_aload_n hx hb d_MO_each_140 rfl (lv_at hl 4 rfl) ?_
        refine mz_get E w 0 34 (v := .int (mz_gI t15 0 34)) (by decide) rfl rfl ii_11 (by decide) (Nat.le_of_ble_eq_true rfl) k_1217 rfl d_MO_each_141 ?_
        refine lv_lload_n hx hb d_MO_each_144 rfl (lv_at hl 6 rfl) ?_
        obtain ⟨hi16, hf⟩ := mz_gd hf
        refine mz_last E w 34 (x := x3) (by decide) rfl hi16 d_MO_each_145 (fun H locs w => ?_)
        obtain ⟨t17, e_t17, hf⟩ := mz_lt hf
        rw [← e_t17] at w
        refine lv_aload_n hx hb d_MO_each_146 rfl (lv_at hl 4 rfl) ?_
        refine lv_iconst (v := (3 : Int32)) hx hb d_MO_each_147 (by decide) ?_
        refine lv_iload hx hb d_MO_each_148 (lv_at hl 1 rfl) ?_
        refine lv_iload hx hb d_MO_each_150 (lv_at hl 0 rfl) ?_
        refine lv_iconst (v := (1 : Int32)) hx hb d_MO_each_152 (by decide) ?_
        refine lv_isub hx hb d_MO_each_153 ?_
        refine lv_iload hx hb d_MO_each_154 (lv_at hl 3 rfl) ?_
        refine lv_iload hx hb d_MO_each_156 (lv_at hl 7 rfl) ?_
        refine lv_iload hx hb d_MO_each_158 (lv_at hl 8 rfl) ?_
        obtain ⟨q18, hq19, hf⟩ := mz_bd hf
        refine mz_callV E w (k := 0) (As := [.int (3 : Int32), .int (mz_gI t 25 ((mz_gI t 0 34) - (1 : Int32)).toNatClampNeg), .int (q8.1 - (1 : Int32)), .int s0, .int x5, .int x6]) (rest := []) (c_MO_beginFrame hSK l n (3 : Int32) (mz_gI t 25 ((mz_gI t 0 34) - (1 : Int32)).toNatClampNeg) (q8.1 - (1 : Int32)) s0 x5 x6 t17 q18 hq19) (by decide) rfl rfl k_1455 k_15 k_1452 k_1454 ks_50 hm_MO_beginFrame ⟨⟨rfl, rfl⟩, Nat.le_of_ble_eq_true rfl, Nat.le_of_ble_eq_true rfl⟩ rfl hl.1 rfl (Nat.le_of_ble_eq_true rfl) d_MO_each_160 ⟨Nat.zero_le _, Nat.zero_le _⟩ (st1 := []) rfl (fun H locs w => ?_)
        obtain rfl := Option.some.inj hf
        exact mz_vret E w rfl d_MO_each_163
      · have hf := mz_f hc13 hf
        refine lv_aload_n hx hb d_MO_each_115 rfl (lv_at hl 4 rfl) ?_
        refine lv_bipush (v := (6 : Int32)) hx hb d_MO_each_116 (by decide) ?_
        refine lv_aload_n hx hb d_MO_each_118 rfl (lv_at hl 4 rfl) ?_
        refine mz_get E w 0 63 (v := .int (mz_gI t12 0 63)) (by decide) rfl rfl ii_11 (by decide) (Nat.le_of_ble_eq_true rfl) k_1246 rfl d_MO_each_119 ?_
        obtain ⟨q20, hq21, hf⟩ := mz_bd hf
        refine mz_callV E w (k := 0) (As := [.int (6 : Int32), .int (mz_gI t12 0 63)]) (rest := []) (c_MO_fail hSK l n (6 : Int32) (mz_gI t12 0 63) t12 q20 hq21) (by decide) rfl rfl k_1467 k_15 k_1464 k_1466 ks_53 hm_MO_fail ⟨⟨rfl, rfl⟩, Nat.le_of_ble_eq_true rfl, Nat.le_of_ble_eq_true rfl⟩ rfl hl.1 rfl (Nat.le_of_ble_eq_true rfl) d_MO_each_122 ⟨Nat.zero_le _, Nat.zero_le _⟩ (st1 := []) rfl (fun H locs w => ?_)
        obtain rfl := Option.some.inj hf
        exact mz_vret E w rfl d_MO_each_125
    · have hf := mz_f hc10 hf
      obtain rfl := Option.some.inj hf
      exact mz_vret E w rfl d_MO_each_96
  · have hf := mz_t hc6 hf
    refine lv_aload_n hx hb d_MO_each_56 rfl (lv_at hl 1 rfl) ?_
    refine lv_iconst (v := (1 : Int32)) hx hb d_MO_each_57 (by decide) ?_
    refine lv_aload_n hx hb d_MO_each_58 rfl (lv_at hl 1 rfl) ?_
    refine mz_get E w 0 63 (v := .int (mz_gI t 0 63)) (by decide) rfl rfl ii_11 (by decide) (Nat.le_of_ble_eq_true rfl) k_1246 rfl d_MO_each_59 ?_
    obtain ⟨q22, hq23, hf⟩ := mz_bd hf
    refine mz_callV E w (k := 0) (As := [.int (1 : Int32), .int (mz_gI t 0 63)]) (rest := []) (c_MO_fail hSK l n (1 : Int32) (mz_gI t 0 63) t q22 hq23) (by decide) rfl rfl k_1467 k_15 k_1464 k_1466 ks_53 hm_MO_fail ⟨⟨rfl, rfl⟩, Nat.le_of_ble_eq_true rfl, Nat.le_of_ble_eq_true rfl⟩ rfl hl.1 rfl (Nat.le_of_ble_eq_true rfl) d_MO_each_62 ⟨Nat.zero_le _, Nat.zero_le _⟩ (st1 := []) rfl (fun H locs w => ?_)
    obtain rfl := Option.some.inj hf
    exact mz_vret E w rfl d_MO_each_65
set_option maxRecDepth 100000 in
set_option maxHeartbeats 4000000 in
theorem c_MO_each {SX : State → Heap → Prop} {dC : Nat → ClassId} {dI : Nat → Nat → Nat} {ad en : Nat → Nat} {ca : Nat → ClassId} (hSK : mz_SK SX ad 55) (l : Launch) (n : Nat) (t : mz_St) (res : mz_St) (hf : f_MO_each n t = some res) : mz_C SX mz_tM 55 mz_cl dC dI ad en ca l y_MO_each prog_15_method_45_code 11 none (r_MO_each) [.ref (ad 0)] t none res := by
  unfold f_MO_each at hf
  refine mz_met hSK (by decide) (Nat.le_of_ble_eq_true rfl) ?_
  intro p e s m args below meth c ls E w hl
  obtain ⟨hx, hb, hml, hown, hcx, -, -, hSX, -, -, -⟩ := id E
  have hl : lv_has ls 11 [(0, .ref (ad 0))] := hl
  refine lv_aload_n hx hb d_MO_each_0 rfl (lv_at hl 0 rfl) ?_
  obtain ⟨q1, hq2, hf⟩ := mz_bd hf
  refine mz_callV E w (k := 0) (As := []) (rest := []) (c_MO_word hSK l n t q1 hq2) (by decide) rfl rfl k_1557 k_15 k_1554 k_1556 ks_69 hm_MO_word ⟨⟨rfl, rfl⟩, Nat.le_of_ble_eq_true rfl, Nat.le_of_ble_eq_true rfl⟩ rfl hl.1 rfl (Nat.le_of_ble_eq_true rfl) d_MO_each_1 ⟨Nat.zero_le _, Nat.zero_le _⟩ (st1 := []) rfl (fun H locs w => ?_)
  refine lv_aload_n hx hb d_MO_each_4 rfl (lv_at hl 0 rfl) ?_
  refine mz_get E w 0 65 (v := .long (mz_gL q1 0 65)) (by decide) rfl rfl ii_11 (by decide) (Nat.le_of_ble_eq_true rfl) k_1248 rfl d_MO_each_5 ?_
  refine lv_lstore_n (lv' := [(1, .long (mz_gL q1 0 65)), (0, .ref (ad 0))]) hx hb d_MO_each_8 rfl hl (by decide) rfl (fun ls hl => ?_)
  refine lv_aload_n hx hb d_MO_each_9 rfl (lv_at hl 1 rfl) ?_
  refine mz_get E w 0 66 (v := .long (mz_gL q1 0 66)) (by decide) rfl rfl ii_11 (by decide) (Nat.le_of_ble_eq_true rfl) k_1249 rfl d_MO_each_10 ?_
  refine lv_lstore_n (lv' := [(3, .long (mz_gL q1 0 66)), (1, .long (mz_gL q1 0 65)), (0, .ref (ad 0))]) hx hb d_MO_each_13 rfl hl (by decide) rfl (fun ls hl => ?_)
  refine lv_aload_n hx hb d_MO_each_14 rfl (lv_at hl 2 rfl) ?_
  refine lv_bipush (v := (44 : Int32)) hx hb d_MO_each_15 (by decide) ?_
  obtain ⟨q3, hq4, hf⟩ := mz_bd hf
  refine mz_callV E w (k := 0) (As := [.int (44 : Int32)]) (rest := []) (c_MO_sign hSK l n (44 : Int32) q1 q3 hq4) (by decide) rfl rfl k_1604 k_15 k_1601 k_1603 ks_80 hm_MO_sign ⟨⟨rfl, rfl⟩, Nat.le_of_ble_eq_true rfl, Nat.le_of_ble_eq_true rfl⟩ rfl hl.1 rfl (Nat.le_of_ble_eq_true rfl) d_MO_each_17 ⟨Nat.zero_le _, Nat.zero_le _⟩ (st1 := []) rfl (fun H locs w => ?_)
  refine lv_aload_n hx hb d_MO_each_20 rfl (lv_at hl 2 rfl) ?_
  refine mz_get E w 0 48 (v := .int (mz_gI q3 0 48)) (by decide) rfl rfl ii_11 (by decide) (Nat.le_of_ble_eq_true rfl) k_1231 rfl d_MO_each_21 ?_
  refine lv_istore (lv' := [(5, .int (mz_gI q3 0 48)), (3, .long (mz_gL q1 0 66)), (1, .long (mz_gL q1 0 65)), (0, .ref (ad 0))]) hx hb d_MO_each_24 hl (by decide) rfl (fun ls hl => ?_)
  refine lv_aload_n hx hb d_MO_each_26 rfl (lv_at hl 3 rfl) ?_
  refine mz_get E w 0 51 (v := .int (mz_gI q3 0 51)) (by decide) rfl rfl ii_11 (by decide) (Nat.le_of_ble_eq_true rfl) k_1234 rfl d_MO_each_27 ?_
  refine lv_istore (lv' := [(6, .int (mz_gI q3 0 51)), (5, .int (mz_gI q3 0 48)), (3, .long (mz_gL q1 0 66)), (1, .long (mz_gL q1 0 65)), (0, .ref (ad 0))]) hx hb d_MO_each_30 hl (by decide) rfl (fun ls hl => ?_)
  refine lv_aload_n hx hb d_MO_each_32 rfl (lv_at hl 4 rfl) ?_
  refine mz_get E w 0 62 (v := .int (mz_gI q3 0 62)) (by decide) rfl rfl ii_11 (by decide) (Nat.le_of_ble_eq_true rfl) k_1245 rfl d_MO_each_33 ?_
  refine lv_if_eq (tgt := 46) hx hb d_MO_each_36 (by decide) (fun hc5 => ?_) (fun hc5 => ?_)
  · have hf := mz_t hc5 hf
    refine lv_iconst (v := (0 : Int32)) hx hb d_MO_each_46 (by decide) ?_
    exact b_MO_each_47 E n (mz_gL q1 0 65) (mz_gL q1 0 66) (mz_gI q3 0 48) (mz_gI q3 0 51) (0 : Int32) q3 hf _ _ _ w (lv_sub hl [4, 3, 2, 1, 0] rfl)
  · have hf := mz_f hc5 hf
    refine lv_aload_n hx hb d_MO_each_39 rfl (lv_at hl 4 rfl) ?_
    obtain ⟨q24, hq25, hf⟩ := mz_bd hf
    refine mz_callV E w (k := 0) (As := []) (rest := []) (c_MO_readTexts hSK l n q3 q24 hq25) (by decide) rfl rfl k_1664 k_15 k_1661 k_1663 ks_95 hm_MO_readTexts ⟨⟨rfl, rfl⟩, Nat.le_of_ble_eq_true rfl, Nat.le_of_ble_eq_true rfl⟩ rfl hl.1 rfl (Nat.le_of_ble_eq_true rfl) d_MO_each_40 ⟨Nat.zero_le _, Nat.zero_le _⟩ (st1 := [.int q24.1]) rfl (fun H locs w => ?_)
    refine lv_goto (tgt := 47) hx hb d_MO_each_43 (by decide) ?_
    exact b_MO_each_47 E n (mz_gL q1 0 65) (mz_gL q1 0 66) (mz_gI q3 0 48) (mz_gI q3 0 51) q24.1 q24.2 hf _ _ _ w (lv_sub hl [4, 3, 2, 1, 0] rfl)

/-! MacroHouseModel.leave()V -/
abbrev r_MO_leave : Room := { frames := 3, cells := 0, slots := 0, locals := 60 }
def f_MO_leave_50 (n : Nat) : Nat → Int32 → mz_St → Option mz_St
  | 0, _, _ => none
  | k + 1, x1, t => if (mz_gI t 0 34) ≤ x1 then (some t) else ((f_MO_endFrame n t).bind fun q10 => (f_MO_leave_50 n k) x1 q10)
def f_MO_leave (n : Nat) (t : mz_St) : Option mz_St := (f_MO_macroFrame n t).bind fun q1 => (f_MO_lineEnds n q1.2).bind fun q3 => if (mz_gI q3 0 62) = 0 then ((f_MO_fail n (1 : Int32) (mz_gI q3 0 63) q3).bind fun q14 => some q14) else (if 0 ≤ q1.1 then (if ¬ (q1.1 < 0 ∨ 14 ≤ q1.1.toNatClampNeg) then (mz_let (mz_pI q3 0 53 (mz_gI q3 30 q1.1.toNatClampNeg)) fun t8 => f_MO_leave_50 n n q1.1 t8) else none) else ((f_MO_fail n (5 : Int32) (mz_gI q3 0 63) q3).bind fun q12 => some q12))
set_option maxRecDepth 100000 in
set_option maxHeartbeats 4000000 in
theorem b_MO_leave_50 {SX : State → Heap → Prop} {dC : Nat → ClassId} {dI : Nat → Nat → Nat} {ad en : Nat → Nat} {ca : Nat → ClassId} {p : Program} {l : Launch} {e : Env} {s : State} {m : MethodId} {args : Array Value} {below : List Frame} {meth : Method} {c : Code} {res : mz_St} (E : mz_En SX 55 mz_cl dC dI ad ca p s m meth c prog_15_method_54_code 2 "MacroHouseModel" none) (n : Nat) (k : Nat) : ∀ (x1 : Int32) (t : mz_St), f_MO_leave_50 n k x1 t = some res → ∀ (H : Heap) (locs : List Loc) (ls : Array Slot), mz_Wd mz_tM 55 mz_cl dC dI ad en ca s t H locs → lv_has ls 2 [(0, .ref (ad 0)), (1, .int x1)] → W p l e (r_MO_leave) s m args below meth c H locs 0 0 (MQ below (mz_Q SX mz_tM 55 mz_cl dC dI ad en ca none res) args s 0 0 (mz_A ad 55)) (F0 m 50 ls []) := by
  obtain ⟨hx, hb, hml, hown, hcx, -, -, hSX, -, -, hSK⟩ := id E
  induction k with
  | zero => intro x1 t hf; exact absurd hf (by unfold f_MO_leave_50; exact fun h => nomatch h)
  | succ k ih =>
    intro x1 t hf H locs ls w hl
    unfold f_MO_leave_50 at hf
    refine lv_aload_n hx hb d_MO_leave_50 rfl (lv_at hl 0 rfl) ?_
    refine mz_get E w 0 34 (v := .int (mz_gI t 0 34)) (by decide) rfl rfl ii_11 (by decide) (Nat.le_of_ble_eq_true rfl) k_1217 rfl d_MO_leave_51 ?_
    refine lv_iload_n hx hb d_MO_leave_54 rfl (lv_at hl 1 rfl) ?_
    refine lv_icmp_le (tgt := 65) hx hb d_MO_leave_55 (by decide) (fun hc9 => ?_) (fun hc9 => ?_)
    · have hf := mz_t hc9 hf
      obtain rfl := Option.some.inj hf
      exact mz_vret E w rfl d_MO_leave_65
    · have hf := mz_f hc9 hf
      refine lv_aload_n hx hb d_MO_leave_58 rfl (lv_at hl 0 rfl) ?_
      obtain ⟨q10, hq11, hf⟩ := mz_bd hf
      refine mz_callV E w (k := 0) (As := []) (rest := []) (c_MO_endFrame hSK l n t q10 hq11) (by decide) rfl rfl k_1471 k_15 k_1468 k_1470 ks_54 hm_MO_endFrame ⟨⟨rfl, rfl⟩, Nat.le_of_ble_eq_true rfl, Nat.le_of_ble_eq_true rfl⟩ rfl hl.1 rfl (Nat.le_of_ble_eq_true rfl) d_MO_leave_59 ⟨Nat.zero_le _, Nat.zero_le _⟩ (st1 := []) rfl (fun H locs w => ?_)
      refine lv_goto (tgt := 50) hx hb d_MO_leave_62 (by decide) ?_
      exact ih x1 q10 hf _ _ _ w (lv_sub hl [0, 1] rfl)
set_option maxRecDepth 100000 in
set_option maxHeartbeats 4000000 in
theorem c_MO_leave {SX : State → Heap → Prop} {dC : Nat → ClassId} {dI : Nat → Nat → Nat} {ad en : Nat → Nat} {ca : Nat → ClassId} (hSK : mz_SK SX ad 55) (l : Launch) (n : Nat) (t : mz_St) (res : mz_St) (hf : f_MO_leave n t = some res) : mz_C SX mz_tM 55 mz_cl dC dI ad en ca l y_MO_leave prog_15_method_54_code 2 none (r_MO_leave) [.ref (ad 0)] t none res := by
  unfold f_MO_leave at hf
  refine mz_met hSK (by decide) (Nat.le_of_ble_eq_true rfl) ?_
  intro p e s m args below meth c ls E w hl
  obtain ⟨hx, hb, hml, hown, hcx, -, -, hSX, -, -, -⟩ := id E
  have hl : lv_has ls 2 [(0, .ref (ad 0))] := hl
  refine lv_aload_n hx hb d_MO_leave_0 rfl (lv_at hl 0 rfl) ?_
  obtain ⟨q1, hq2, hf⟩ := mz_bd hf
  refine mz_callV E w (k := 0) (As := []) (rest := []) (c_MO_macroFrame hSK l n t q1 hq2) (by decide) rfl rfl k_1525 k_15 k_1522 k_1524 ks_61 hm_MO_macroFrame ⟨⟨rfl, rfl⟩, Nat.le_of_ble_eq_true rfl, Nat.le_of_ble_eq_true rfl⟩ rfl hl.1 rfl (Nat.le_of_ble_eq_true rfl) d_MO_leave_1 ⟨Nat.zero_le _, Nat.zero_le _⟩ (st1 := [.int q1.1]) rfl (fun H locs w => ?_)
  refine lv_istore_n (lv' := [(1, .int q1.1), (0, .ref (ad 0))]) hx hb d_MO_leave_4 rfl hl (by decide) rfl (fun ls hl => ?_)
  refine lv_aload_n hx hb d_MO_leave_5 rfl (lv_at hl 1 rfl) ?_
  obtain ⟨q3, hq4, hf⟩ := mz_bd hf
  refine mz_callV E w (k := 0) (As := []) (rest := []) (c_MO_lineEnds hSK l n q1.2 q3 hq4) (by decide) rfl rfl k_1608 k_15 k_1605 k_1607 ks_81 hm_MO_lineEnds ⟨⟨rfl, rfl⟩, Nat.le_of_ble_eq_true rfl, Nat.le_of_ble_eq_true rfl⟩ rfl hl.1 rfl (Nat.le_of_ble_eq_true rfl) d_MO_leave_6 ⟨Nat.zero_le _, Nat.zero_le _⟩ (st1 := []) rfl (fun H locs w => ?_)
  refine lv_aload_n hx hb d_MO_leave_9 rfl (lv_at hl 1 rfl) ?_
  refine mz_get E w 0 62 (v := .int (mz_gI q3 0 62)) (by decide) rfl rfl ii_11 (by decide) (Nat.le_of_ble_eq_true rfl) k_1245 rfl d_MO_leave_10 ?_
  refine lv_if_ne (tgt := 26) hx hb d_MO_leave_13 (by decide) (fun hc5 => ?_) (fun hc5 => ?_)
  · have hf := mz_f hc5 hf
    refine lv_iload_n hx hb d_MO_leave_26 rfl (lv_at hl 0 rfl) ?_
    refine lv_if_ge (tgt := 40) hx hb d_MO_leave_27 (by decide) (fun hc6 => ?_) (fun hc6 => ?_)
    · have hf := mz_t hc6 hf
      refine lv_aload_n hx hb d_MO_leave_40 rfl (lv_at hl 1 rfl) ?_
      refine lv_aload_n hx hb d_MO_leave_41 rfl (lv_at hl 1 rfl) ?_
      refine mz_get E w 0 43 (v := .ref (ad 30)) (by decide) rfl rfl ii_11 (by decide) (Nat.le_of_ble_eq_true rfl) k_1226 rfl d_MO_leave_42 ?_
      refine lv_iload_n hx hb d_MO_leave_45 rfl (lv_at hl 0 rfl) ?_
      obtain ⟨hi7, hf⟩ := mz_gd hf
      refine mz_iald E w 30 (by decide) rfl hi7 d_MO_leave_46 ?_
      refine mz_put E w 0 53 (v := (mz_gI q3 30 q1.1.toNatClampNeg)) (by decide) rfl rfl ii_11 tk_11 nm_11 (by decide) (Nat.le_of_ble_eq_true rfl) k_1236 rfl (tk_11 53 (by decide)) rfl rfl rfl d_MO_leave_47 (fun H locs w => ?_)
      obtain ⟨t8, e_t8, hf⟩ := mz_lt hf
      rw [← e_t8] at w
      exact b_MO_leave_50 E n n q1.1 t8 hf _ _ _ w (lv_sub hl [1, 0] rfl)
    · have hf := mz_f hc6 hf
      refine lv_aload_n hx hb d_MO_leave_30 rfl (lv_at hl 1 rfl) ?_
      refine lv_iconst (v := (5 : Int32)) hx hb d_MO_leave_31 (by decide) ?_
      refine lv_aload_n hx hb d_MO_leave_32 rfl (lv_at hl 1 rfl) ?_
      refine mz_get E w 0 63 (v := .int (mz_gI q3 0 63)) (by decide) rfl rfl ii_11 (by decide) (Nat.le_of_ble_eq_true rfl) k_1246 rfl d_MO_leave_33 ?_
      obtain ⟨q12, hq13, hf⟩ := mz_bd hf
      refine mz_callV E w (k := 0) (As := [.int (5 : Int32), .int (mz_gI q3 0 63)]) (rest := []) (c_MO_fail hSK l n (5 : Int32) (mz_gI q3 0 63) q3 q12 hq13) (by decide) rfl rfl k_1467 k_15 k_1464 k_1466 ks_53 hm_MO_fail ⟨⟨rfl, rfl⟩, Nat.le_of_ble_eq_true rfl, Nat.le_of_ble_eq_true rfl⟩ rfl hl.1 rfl (Nat.le_of_ble_eq_true rfl) d_MO_leave_36 ⟨Nat.zero_le _, Nat.zero_le _⟩ (st1 := []) rfl (fun H locs w => ?_)
      obtain rfl := Option.some.inj hf
      exact mz_vret E w rfl d_MO_leave_39
  · have hf := mz_t hc5 hf
    refine lv_aload_n hx hb d_MO_leave_16 rfl (lv_at hl 1 rfl) ?_
    refine lv_iconst (v := (1 : Int32)) hx hb d_MO_leave_17 (by decide) ?_
    refine lv_aload_n hx hb d_MO_leave_18 rfl (lv_at hl 1 rfl) ?_
    refine mz_get E w 0 63 (v := .int (mz_gI q3 0 63)) (by decide) rfl rfl ii_11 (by decide) (Nat.le_of_ble_eq_true rfl) k_1246 rfl d_MO_leave_19 ?_
    obtain ⟨q14, hq15, hf⟩ := mz_bd hf
    refine mz_callV E w (k := 0) (As := [.int (1 : Int32), .int (mz_gI q3 0 63)]) (rest := []) (c_MO_fail hSK l n (1 : Int32) (mz_gI q3 0 63) q3 q14 hq15) (by decide) rfl rfl k_1467 k_15 k_1464 k_1466 ks_53 hm_MO_fail ⟨⟨rfl, rfl⟩, Nat.le_of_ble_eq_true rfl, Nat.le_of_ble_eq_true rfl⟩ rfl hl.1 rfl (Nat.le_of_ble_eq_true rfl) d_MO_leave_22 ⟨Nat.zero_le _, Nat.zero_le _⟩ (st1 := []) rfl (fun H locs w => ?_)
    obtain rfl := Option.some.inj hf
    exact mz_vret E w rfl d_MO_leave_25

/-! MacroHouseModel.direct(II)V -/
abbrev r_MO_direct : Room := { frames := 6, cells := 0, slots := 0, locals := 140 }
def f_MO_direct_108 (n : Nat) (s1 : Int32) (t : mz_St) : Option mz_St := (f_MO_openIf n s1 (0 : Int32) t).bind fun q12 => some q12
def f_MO_direct_164 (n : Nat) (t : mz_St) : Option mz_St := (f_MO_fail n (5 : Int32) (mz_gI t 0 63) t).bind fun q18 => some q18
def f_MO_direct (n : Nat) (x1 : Int32) (x2 : Int32) (t : mz_St) : Option mz_St := if x1 = (1 : Int32) then ((f_MO_setConstant n t).bind fun q2 => some q2) else (if x1 = (2 : Int32) then ((f_MO_forgetConstant n t).bind fun q5 => some q5) else (if x1 = (3 : Int32) then ((f_MO_wholeValue n t).bind fun q8 => if (mz_gI q8.2 0 6) = 0 then (if q8.1 = 0 then (f_MO_direct_108 n (0 : Int32) q8.2) else (f_MO_direct_108 n (1 : Int32) q8.2)) else (some q8.2)) else (if x1 = (4 : Int32) then ((f_MO_ifSame n t).bind fun q15 => some q15) else (if x1 = (5 : Int32) then (f_MO_direct_164 n  t) else (if x1 = (6 : Int32) then (f_MO_direct_164 n  t) else (if x1 = (7 : Int32) then (f_MO_direct_164 n  t) else (if x1 = (8 : Int32) then ((f_MO_define n x2 t).bind fun q23 => some q23) else (if x1 = (9 : Int32) then (f_MO_direct_164 n  t) else (if x1 = (10 : Int32) then ((f_MO_repeat n t).bind fun q27 => some q27) else (if x1 = (11 : Int32) then ((f_MO_each n t).bind fun q30 => some q30) else (if x1 = (12 : Int32) then (f_MO_direct_164 n  t) else (if x1 = (13 : Int32) then ((f_MO_leave n t).bind fun q34 => some q34) else (if x1 = (14 : Int32) then ((f_MO_fail n (7 : Int32) (mz_gI t 0 63) t).bind fun q37 => some q37) else (f_MO_direct_164 n  t))))))))))))))
set_option maxRecDepth 100000 in
set_option maxHeartbeats 4000000 in
theorem b_MO_direct_108 {SX : State → Heap → Prop} {dC : Nat → ClassId} {dI : Nat → Nat → Nat} {ad en : Nat → Nat} {ca : Nat → ClassId} {p : Program} {l : Launch} {e : Env} {s : State} {m : MethodId} {args : Array Value} {below : List Frame} {meth : Method} {c : Code} {res : mz_St} (E : mz_En SX 55 mz_cl dC dI ad ca p s m meth c prog_15_method_58_code 4 "MacroHouseModel" none) (n : Nat) : ∀ (s1 : Int32) (t : mz_St), f_MO_direct_108 n s1 t = some res → ∀ (H : Heap) (locs : List Loc) (ls : Array Slot), mz_Wd mz_tM 55 mz_cl dC dI ad en ca s t H locs → lv_has ls 4 [] → W p l e (r_MO_direct) s m args below meth c H locs 0 0 (MQ below (mz_Q SX mz_tM 55 mz_cl dC dI ad en ca none res) args s 0 0 (mz_A ad 55)) (F0 m 108 ls [.int s1, .ref (ad 0)]) := by
  obtain ⟨hx, hb, hml, hown, hcx, -, -, hSX, -, -, hSK⟩ := id E
  intro s1 t hf H locs ls w hl
  unfold f_MO_direct_108 at hf
  refine lv_iconst (v := (0 : Int32)) hx hb d_MO_direct_108 (by decide) ?_
  obtain ⟨q12, hq13, hf⟩ := mz_bd hf
  refine mz_callV E w (k := 0) (As := [.int s1, .int (0 : Int32)]) (rest := []) (c_MO_openIf hSK l n s1 (0 : Int32) t q12 hq13) (by decide) rfl rfl k_1509 k_15 k_1506 k_1508 ks_57 hm_MO_openIf ⟨⟨rfl, rfl⟩, Nat.le_of_ble_eq_true rfl, Nat.le_of_ble_eq_true rfl⟩ rfl hl.1 rfl (Nat.le_of_ble_eq_true rfl) d_MO_direct_109 ⟨Nat.zero_le _, Nat.zero_le _⟩ (st1 := []) rfl (fun H locs w => ?_)
  refine lv_goto (tgt := 173) hx hb d_MO_direct_112 (by decide) ?_
  obtain rfl := Option.some.inj hf
  exact mz_vret E w rfl d_MO_direct_173
set_option maxRecDepth 100000 in
set_option maxHeartbeats 4000000 in
theorem b_MO_direct_164 {SX : State → Heap → Prop} {dC : Nat → ClassId} {dI : Nat → Nat → Nat} {ad en : Nat → Nat} {ca : Nat → ClassId} {p : Program} {l : Launch} {e : Env} {s : State} {m : MethodId} {args : Array Value} {below : List Frame} {meth : Method} {c : Code} {res : mz_St} (E : mz_En SX 55 mz_cl dC dI ad ca p s m meth c prog_15_method_58_code 4 "MacroHouseModel" none) (n : Nat) : ∀ (t : mz_St), f_MO_direct_164 n t = some res → ∀ (H : Heap) (locs : List Loc) (ls : Array Slot), mz_Wd mz_tM 55 mz_cl dC dI ad en ca s t H locs → lv_has ls 4 [(0, .ref (ad 0))] → W p l e (r_MO_direct) s m args below meth c H locs 0 0 (MQ below (mz_Q SX mz_tM 55 mz_cl dC dI ad en ca none res) args s 0 0 (mz_A ad 55)) (F0 m 164 ls []) := by
  obtain ⟨hx, hb, hml, hown, hcx, -, -, hSX, -, -, hSK⟩ := id E
  intro t hf H locs ls w hl
  unfold f_MO_direct_164 at hf
  refine lv_aload_n hx hb d_MO_direct_164 rfl (lv_at hl 0 rfl) ?_
  refine lv_iconst (v := (5 : Int32)) hx hb d_MO_direct_165 (by decide) ?_
  refine lv_aload_n hx hb d_MO_direct_166 rfl (lv_at hl 0 rfl) ?_
  refine mz_get E w 0 63 (v := .int (mz_gI t 0 63)) (by decide) rfl rfl ii_11 (by decide) (Nat.le_of_ble_eq_true rfl) k_1246 rfl d_MO_direct_167 ?_
  obtain ⟨q18, hq19, hf⟩ := mz_bd hf
  refine mz_callV E w (k := 0) (As := [.int (5 : Int32), .int (mz_gI t 0 63)]) (rest := []) (c_MO_fail hSK l n (5 : Int32) (mz_gI t 0 63) t q18 hq19) (by decide) rfl rfl k_1467 k_15 k_1464 k_1466 ks_53 hm_MO_fail ⟨⟨rfl, rfl⟩, Nat.le_of_ble_eq_true rfl, Nat.le_of_ble_eq_true rfl⟩ rfl hl.1 rfl (Nat.le_of_ble_eq_true rfl) d_MO_direct_170 ⟨Nat.zero_le _, Nat.zero_le _⟩ (st1 := []) rfl (fun H locs w => ?_)
  obtain rfl := Option.some.inj hf
  exact mz_vret E w rfl d_MO_direct_173
set_option maxRecDepth 100000 in
set_option maxHeartbeats 4000000 in
theorem c_MO_direct {SX : State → Heap → Prop} {dC : Nat → ClassId} {dI : Nat → Nat → Nat} {ad en : Nat → Nat} {ca : Nat → ClassId} (hSK : mz_SK SX ad 55) (l : Launch) (n : Nat) (x1 : Int32) (x2 : Int32) (t : mz_St) (res : mz_St) (hf : f_MO_direct n x1 x2 t = some res) : mz_C SX mz_tM 55 mz_cl dC dI ad en ca l y_MO_direct prog_15_method_58_code 4 none (r_MO_direct) [.ref (ad 0), .int x1, .int x2] t none res := by
  unfold f_MO_direct at hf
  refine mz_met hSK (by decide) (Nat.le_of_ble_eq_true rfl) ?_
  intro p e s m args below meth c ls E w hl
  obtain ⟨hx, hb, hml, hown, hcx, -, -, hSX, -, -, -⟩ := id E
  have hl : lv_has ls 4 [(0, .ref (ad 0)), (1, .int x1), (2, .int x2)] := hl
  refine lv_iload_n hx hb d_MO_direct_0 rfl (lv_at hl 1 rfl) ?_
  by_cases hc1 : x1 = (1 : Int32)
  · have hf := mz_t hc1 hf
    refine lv_tableIn (off := 71) (tgt := 72) hx hb d_MO_direct_1 (by rw [hc1]; decide) (by rw [hc1]; decide) (by rw [hc1]; rfl) (by decide) ?_
    refine lv_aload_n hx hb d_MO_direct_72 rfl (lv_at hl 0 rfl) ?_
    obtain ⟨q2, hq3, hf⟩ := mz_bd hf
    refine mz_callV E w (k := 0) (As := []) (rest := []) (c_MO_setConstant hSK l n t q2 hq3) (by decide) rfl rfl k_1620 k_15 k_1617 k_1619 ks_84 hm_MO_setConstant ⟨⟨rfl, rfl⟩, Nat.le_of_ble_eq_true rfl, Nat.le_of_ble_eq_true rfl⟩ rfl hl.1 rfl (Nat.le_of_ble_eq_true rfl) d_MO_direct_73 ⟨Nat.zero_le _, Nat.zero_le _⟩ (st1 := []) rfl (fun H locs w => ?_)
    refine lv_goto (tgt := 173) hx hb d_MO_direct_76 (by decide) ?_
    obtain rfl := Option.some.inj hf
    exact mz_vret E w rfl d_MO_direct_173
  · have hf := mz_f hc1 hf
    by_cases hc4 : x1 = (2 : Int32)
    · have hf := mz_t hc4 hf
      refine lv_tableIn (off := 78) (tgt := 79) hx hb d_MO_direct_1 (by rw [hc4]; decide) (by rw [hc4]; decide) (by rw [hc4]; rfl) (by decide) ?_
      refine lv_aload_n hx hb d_MO_direct_79 rfl (lv_at hl 0 rfl) ?_
      obtain ⟨q5, hq6, hf⟩ := mz_bd hf
      refine mz_callV E w (k := 0) (As := []) (rest := []) (c_MO_forgetConstant hSK l n t q5 hq6) (by decide) rfl rfl k_1624 k_15 k_1621 k_1623 ks_85 hm_MO_forgetConstant ⟨⟨rfl, rfl⟩, Nat.le_of_ble_eq_true rfl, Nat.le_of_ble_eq_true rfl⟩ rfl hl.1 rfl (Nat.le_of_ble_eq_true rfl) d_MO_direct_80 ⟨Nat.zero_le _, Nat.zero_le _⟩ (st1 := []) rfl (fun H locs w => ?_)
      refine lv_goto (tgt := 173) hx hb d_MO_direct_83 (by decide) ?_
      obtain rfl := Option.some.inj hf
      exact mz_vret E w rfl d_MO_direct_173
    · have hf := mz_f hc4 hf
      by_cases hc7 : x1 = (3 : Int32)
      · have hf := mz_t hc7 hf
        refine lv_tableIn (off := 85) (tgt := 86) hx hb d_MO_direct_1 (by rw [hc7]; decide) (by rw [hc7]; decide) (by rw [hc7]; rfl) (by decide) ?_
        refine lv_aload_n hx hb d_MO_direct_86 rfl (lv_at hl 0 rfl) ?_
        obtain ⟨q8, hq9, hf⟩ := mz_bd hf
        refine mz_callV E w (k := 0) (As := []) (rest := []) (c_MO_wholeValue hSK l n t q8 hq9) (by decide) rfl rfl k_1561 k_15 k_1558 k_1560 ks_70 hm_MO_wholeValue ⟨⟨rfl, rfl⟩, Nat.le_of_ble_eq_true rfl, Nat.le_of_ble_eq_true rfl⟩ rfl hl.1 rfl (Nat.le_of_ble_eq_true rfl) d_MO_direct_87 ⟨Nat.zero_le _, Nat.zero_le _⟩ (st1 := [.int q8.1]) rfl (fun H locs w => ?_)
        refine lv_istore_n (lv' := [(3, .int q8.1), (0, .ref (ad 0)), (1, .int x1), (2, .int x2)]) hx hb d_MO_direct_90 rfl hl (by decide) rfl (fun ls hl => ?_)
        refine lv_aload_n hx hb d_MO_direct_91 rfl (lv_at hl 1 rfl) ?_
        refine mz_get E w 0 6 (v := .int (mz_gI q8.2 0 6)) (by decide) rfl rfl ii_11 (by decide) (Nat.le_of_ble_eq_true rfl) k_1189 rfl d_MO_direct_92 ?_
        refine lv_if_ne (tgt := 173) hx hb d_MO_direct_95 (by decide) (fun hc10 => ?_) (fun hc10 => ?_)
        · have hf := mz_f hc10 hf
          obtain rfl := Option.some.inj hf
          exact mz_vret E w rfl d_MO_direct_173
        · have hf := mz_t hc10 hf
          refine lv_aload_n hx hb d_MO_direct_98 rfl (lv_at hl 1 rfl) ?_
          refine lv_iload_n hx hb d_MO_direct_99 rfl (lv_at hl 0 rfl) ?_
          refine lv_if_eq (tgt := 107) hx hb d_MO_direct_100 (by decide) (fun hc11 => ?_) (fun hc11 => ?_)
          · have hf := mz_t hc11 hf
            refine lv_iconst (v := (0 : Int32)) hx hb d_MO_direct_107 (by decide) ?_
            exact b_MO_direct_108 E n (0 : Int32) q8.2 hf _ _ _ w (lv_sub hl [] rfl)
          · have hf := mz_f hc11 hf
            refine lv_iconst (v := (1 : Int32)) hx hb d_MO_direct_103 (by decide) ?_
            refine lv_goto (tgt := 108) hx hb d_MO_direct_104 (by decide) ?_
            exact b_MO_direct_108 E n (1 : Int32) q8.2 hf _ _ _ w (lv_sub hl [] rfl)
      · have hf := mz_f hc7 hf
        by_cases hc14 : x1 = (4 : Int32)
        · have hf := mz_t hc14 hf
          refine lv_tableIn (off := 114) (tgt := 115) hx hb d_MO_direct_1 (by rw [hc14]; decide) (by rw [hc14]; decide) (by rw [hc14]; rfl) (by decide) ?_
          refine lv_aload_n hx hb d_MO_direct_115 rfl (lv_at hl 0 rfl) ?_
          obtain ⟨q15, hq16, hf⟩ := mz_bd hf
          refine mz_callV E w (k := 0) (As := []) (rest := []) (c_MO_ifSame hSK l n t q15 hq16) (by decide) rfl rfl k_1628 k_15 k_1625 k_1627 ks_86 hm_MO_ifSame ⟨⟨rfl, rfl⟩, Nat.le_of_ble_eq_true rfl, Nat.le_of_ble_eq_true rfl⟩ rfl hl.1 rfl (Nat.le_of_ble_eq_true rfl) d_MO_direct_116 ⟨Nat.zero_le _, Nat.zero_le _⟩ (st1 := []) rfl (fun H locs w => ?_)
          refine lv_goto (tgt := 173) hx hb d_MO_direct_119 (by decide) ?_
          obtain rfl := Option.some.inj hf
          exact mz_vret E w rfl d_MO_direct_173
        · have hf := mz_f hc14 hf
          by_cases hc17 : x1 = (5 : Int32)
          · have hf := mz_t hc17 hf
            refine lv_tableIn (off := 163) (tgt := 164) hx hb d_MO_direct_1 (by rw [hc17]; decide) (by rw [hc17]; decide) (by rw [hc17]; rfl) (by decide) ?_
            exact b_MO_direct_164 E n  t hf _ _ _ w (lv_sub hl [0] rfl)
          · have hf := mz_f hc17 hf
            by_cases hc20 : x1 = (6 : Int32)
            · have hf := mz_t hc20 hf
              refine lv_tableIn (off := 163) (tgt := 164) hx hb d_MO_direct_1 (by rw [hc20]; decide) (by rw [hc20]; decide) (by rw [hc20]; rfl) (by decide) ?_
              exact b_MO_direct_164 E n  t hf _ _ _ w (lv_sub hl [0] rfl)
            · have hf := mz_f hc20 hf
              by_cases hc21 : x1 = (7 : Int32)
              · have hf := mz_t hc21 hf
                refine lv_tableIn (off := 163) (tgt := 164) hx hb d_MO_direct_1 (by rw [hc21]; decide) (by rw [hc21]; decide) (by rw [hc21]; rfl) (by decide) ?_
                exact b_MO_direct_164 E n  t hf _ _ _ w (lv_sub hl [0] rfl)
              · have hf := mz_f hc21 hf
                by_cases hc22 : x1 = (8 : Int32)
                · have hf := mz_t hc22 hf
                  refine lv_tableIn (off := 121) (tgt := 122) hx hb d_MO_direct_1 (by rw [hc22]; decide) (by rw [hc22]; decide) (by rw [hc22]; rfl) (by decide) ?_
                  refine lv_aload_n hx hb d_MO_direct_122 rfl (lv_at hl 0 rfl) ?_
                  refine lv_iload_n hx hb d_MO_direct_123 rfl (lv_at hl 2 rfl) ?_
                  obtain ⟨q23, hq24, hf⟩ := mz_bd hf
                  refine mz_callV E w (k := 0) (As := [.int x2]) (rest := []) (c_MO_define hSK l n x2 t q23 hq24) (by decide) rfl rfl k_1636 k_15 k_1633 k_1635 ks_88 hm_MO_define ⟨⟨rfl, rfl⟩, Nat.le_of_ble_eq_true rfl, Nat.le_of_ble_eq_true rfl⟩ rfl hl.1 rfl (Nat.le_of_ble_eq_true rfl) d_MO_direct_124 ⟨Nat.zero_le _, Nat.zero_le _⟩ (st1 := []) rfl (fun H locs w => ?_)
                  refine lv_goto (tgt := 173) hx hb d_MO_direct_127 (by decide) ?_
                  obtain rfl := Option.some.inj hf
                  exact mz_vret E w rfl d_MO_direct_173
                · have hf := mz_f hc22 hf
                  by_cases hc25 : x1 = (9 : Int32)
                  · have hf := mz_t hc25 hf
                    refine lv_tableIn (off := 163) (tgt := 164) hx hb d_MO_direct_1 (by rw [hc25]; decide) (by rw [hc25]; decide) (by rw [hc25]; rfl) (by decide) ?_
                    exact b_MO_direct_164 E n  t hf _ _ _ w (lv_sub hl [0] rfl)
                  · have hf := mz_f hc25 hf
                    by_cases hc26 : x1 = (10 : Int32)
                    · have hf := mz_t hc26 hf
                      refine lv_tableIn (off := 129) (tgt := 130) hx hb d_MO_direct_1 (by rw [hc26]; decide) (by rw [hc26]; decide) (by rw [hc26]; rfl) (by decide) ?_
                      refine lv_aload_n hx hb d_MO_direct_130 rfl (lv_at hl 0 rfl) ?_
                      obtain ⟨q27, hq28, hf⟩ := mz_bd hf
                      refine mz_callV E w (k := 0) (As := []) (rest := []) (c_MO_repeat hSK l n t q27 hq28) (by decide) rfl rfl k_1652 k_15 k_1649 k_1651 ks_92 hm_MO_repeat ⟨⟨rfl, rfl⟩, Nat.le_of_ble_eq_true rfl, Nat.le_of_ble_eq_true rfl⟩ rfl hl.1 rfl (Nat.le_of_ble_eq_true rfl) d_MO_direct_131 ⟨Nat.zero_le _, Nat.zero_le _⟩ (st1 := []) rfl (fun H locs w => ?_)
                      refine lv_goto (tgt := 173) hx hb d_MO_direct_134 (by decide) ?_
                      obtain rfl := Option.some.inj hf
                      exact mz_vret E w rfl d_MO_direct_173
                    · have hf := mz_f hc26 hf
                      by_cases hc29 : x1 = (11 : Int32)
                      · have hf := mz_t hc29 hf
                        refine lv_tableIn (off := 136) (tgt := 137) hx hb d_MO_direct_1 (by rw [hc29]; decide) (by rw [hc29]; decide) (by rw [hc29]; rfl) (by decide) ?_
                        refine lv_aload_n hx hb d_MO_direct_137 rfl (lv_at hl 0 rfl) ?_
                        obtain ⟨q30, hq31, hf⟩ := mz_bd hf
                        refine mz_callV E w (k := 0) (As := []) (rest := []) (c_MO_each hSK l n t q30 hq31) (by decide) rfl rfl k_1660 k_15 k_1657 k_1659 ks_94 hm_MO_each ⟨⟨rfl, rfl⟩, Nat.le_of_ble_eq_true rfl, Nat.le_of_ble_eq_true rfl⟩ rfl hl.1 rfl (Nat.le_of_ble_eq_true rfl) d_MO_direct_138 ⟨Nat.zero_le _, Nat.zero_le _⟩ (st1 := []) rfl (fun H locs w => ?_)
                        refine lv_goto (tgt := 173) hx hb d_MO_direct_141 (by decide) ?_
                        obtain rfl := Option.some.inj hf
                        exact mz_vret E w rfl d_MO_direct_173
                      · have hf := mz_f hc29 hf
                        by_cases hc32 : x1 = (12 : Int32)
                        · have hf := mz_t hc32 hf
                          refine lv_tableIn (off := 163) (tgt := 164) hx hb d_MO_direct_1 (by rw [hc32]; decide) (by rw [hc32]; decide) (by rw [hc32]; rfl) (by decide) ?_
                          exact b_MO_direct_164 E n  t hf _ _ _ w (lv_sub hl [0] rfl)
                        · have hf := mz_f hc32 hf
                          by_cases hc33 : x1 = (13 : Int32)
                          · have hf := mz_t hc33 hf
                            refine lv_tableIn (off := 143) (tgt := 144) hx hb d_MO_direct_1 (by rw [hc33]; decide) (by rw [hc33]; decide) (by rw [hc33]; rfl) (by decide) ?_
                            refine lv_aload_n hx hb d_MO_direct_144 rfl (lv_at hl 0 rfl) ?_
                            obtain ⟨q34, hq35, hf⟩ := mz_bd hf
                            refine mz_callV E w (k := 0) (As := []) (rest := []) (c_MO_leave hSK l n t q34 hq35) (by decide) rfl rfl k_1668 k_15 k_1665 k_1667 ks_96 hm_MO_leave ⟨⟨rfl, rfl⟩, Nat.le_of_ble_eq_true rfl, Nat.le_of_ble_eq_true rfl⟩ rfl hl.1 rfl (Nat.le_of_ble_eq_true rfl) d_MO_direct_145 ⟨Nat.zero_le _, Nat.zero_le _⟩ (st1 := []) rfl (fun H locs w => ?_)
                            refine lv_goto (tgt := 173) hx hb d_MO_direct_148 (by decide) ?_
                            obtain rfl := Option.some.inj hf
                            exact mz_vret E w rfl d_MO_direct_173
                          · have hf := mz_f hc33 hf
                            by_cases hc36 : x1 = (14 : Int32)
                            · have hf := mz_t hc36 hf
                              refine lv_tableIn (off := 150) (tgt := 151) hx hb d_MO_direct_1 (by rw [hc36]; decide) (by rw [hc36]; decide) (by rw [hc36]; rfl) (by decide) ?_
                              refine lv_aload_n hx hb d_MO_direct_151 rfl (lv_at hl 0 rfl) ?_
                              refine lv_bipush (v := (7 : Int32)) hx hb d_MO_direct_152 (by decide) ?_
                              refine lv_aload_n hx hb d_MO_direct_154 rfl (lv_at hl 0 rfl) ?_
                              refine mz_get E w 0 63 (v := .int (mz_gI t 0 63)) (by decide) rfl rfl ii_11 (by decide) (Nat.le_of_ble_eq_true rfl) k_1246 rfl d_MO_direct_155 ?_
                              obtain ⟨q37, hq38, hf⟩ := mz_bd hf
                              refine mz_callV E w (k := 0) (As := [.int (7 : Int32), .int (mz_gI t 0 63)]) (rest := []) (c_MO_fail hSK l n (7 : Int32) (mz_gI t 0 63) t q37 hq38) (by decide) rfl rfl k_1467 k_15 k_1464 k_1466 ks_53 hm_MO_fail ⟨⟨rfl, rfl⟩, Nat.le_of_ble_eq_true rfl, Nat.le_of_ble_eq_true rfl⟩ rfl hl.1 rfl (Nat.le_of_ble_eq_true rfl) d_MO_direct_158 ⟨Nat.zero_le _, Nat.zero_le _⟩ (st1 := []) rfl (fun H locs w => ?_)
                              refine lv_goto (tgt := 173) hx hb d_MO_direct_161 (by decide) ?_
                              obtain rfl := Option.some.inj hf
                              exact mz_vret E w rfl d_MO_direct_173
                            · have hf := mz_f hc36 hf
                              refine lv_tableOut (tgt := 164) hx hb d_MO_direct_1 (by have := lv_neT (a := 1) hc1 rfl; have := lv_neT (a := 2) hc4 rfl; have := lv_neT (a := 3) hc7 rfl; have := lv_neT (a := 4) hc14 rfl; have := lv_neT (a := 5) hc17 rfl; have := lv_neT (a := 6) hc20 rfl; have := lv_neT (a := 7) hc21 rfl; have := lv_neT (a := 8) hc22 rfl; have := lv_neT (a := 9) hc25 rfl; have := lv_neT (a := 10) hc26 rfl; have := lv_neT (a := 11) hc29 rfl; have := lv_neT (a := 12) hc32 rfl; have := lv_neT (a := 13) hc33 rfl; have := lv_neT (a := 14) hc36 rfl; omega) (by decide) ?_
                              exact b_MO_direct_164 E n  t hf _ _ _ w (lv_sub hl [0] rfl)
