/-! MacroHouseModel.bracketEnd(I)I -/
abbrev r_MO_bracketEnd : Room := { frames := 3, cells := 0, slots := 0, locals := 65 }
def f_MO_bracketEnd_83 (n : Nat) (x2 : Int32) (x3 : Int32) (t : mz_St) : Option (Int32 × mz_St) := if (mz_gI t 0 6) ≤ 0 then (if x2 ≤ 0 then (some (x3, t)) else ((f_MO_fail n (5 : Int32) (mz_gI t 0 63) t).bind fun q5 => some ((-1 : Int32), q5))) else (some ((-1 : Int32), t))
def f_MO_bracketEnd_76 (n : Nat) (K9 : Int32 → Int32 → Int32 → mz_St → Option (Int32 × mz_St)) (x1 : Int32) (x3 : Int32) (s0 : Int32) (t : mz_St) : Option (Int32 × mz_St) := K9 x1 s0 (x3 + (1 : Int32)) t
def f_MO_bracketEnd_56 (n : Nat) (K9 : Int32 → Int32 → Int32 → mz_St → Option (Int32 × mz_St)) (x1 : Int32) (x2 : Int32) (x3 : Int32) (t : mz_St) : Option (Int32 × mz_St) := f_MO_bracketEnd_76 n K9 x1 x3 (x2 + (1 : Int32)) t
def f_MO_bracketEnd_9 (n : Nat) : Nat → Int32 → Int32 → Int32 → mz_St → Option (Int32 × mz_St)
  | 0, _, _, _, _ => none
  | k + 1, x1, x2, x3, t => if x2 ≤ 0 then (f_MO_bracketEnd_83 n x2 x3 t) else (if ¬ (x1 < 0 ∨ 14 ≤ x1.toNatClampNeg) then (if (mz_gI t 24 x1.toNatClampNeg) ≤ x3 then (f_MO_bracketEnd_83 n x2 x3 t) else (if (mz_gI t 0 6) = 0 then ((f_MO_look n x3 t).bind fun q10 => (f_MO_firstOf n x3 q10).bind fun q12 => if q12.1 = (10 : Int32) then (f_MO_bracketEnd_56 n (f_MO_bracketEnd_9 n k) x1 x2 x3 q12.2) else (if q12.1 = (11 : Int32) then (f_MO_bracketEnd_56 n (f_MO_bracketEnd_9 n k) x1 x2 x3 q12.2) else (if q12.1 = (12 : Int32) then (f_MO_bracketEnd_76 n (f_MO_bracketEnd_9 n k) x1 x3 (x2 - (1 : Int32)) q12.2) else (f_MO_bracketEnd_76 n (f_MO_bracketEnd_9 n k) x1 x3 x2 q12.2)))) else (f_MO_bracketEnd_83 n x2 x3 t))) else none)
def f_MO_bracketEnd (n : Nat) (x1 : Int32) (t : mz_St) : Option (Int32 × mz_St) := if ¬ (x1 < 0 ∨ 14 ≤ x1.toNatClampNeg) then (f_MO_bracketEnd_9 n n x1 (1 : Int32) (mz_gI t 25 x1.toNatClampNeg) t) else none
set_option maxRecDepth 100000 in
set_option maxHeartbeats 4000000 in
theorem b_MO_bracketEnd_83 {SX : State → Heap → Prop} {dC : Nat → ClassId} {dI : Nat → Nat → Nat} {ad en : Nat → Nat} {ca : Nat → ClassId} {p : Program} {l : Launch} {e : Env} {s : State} {m : MethodId} {args : Array Value} {below : List Frame} {meth : Method} {c : Code} {res : (Int32 × mz_St)} (E : mz_En SX 55 mz_cl dC dI ad ca p s m meth c prog_15_method_43_code 5 "MacroHouseModel" (some (.int))) (n : Nat) : ∀ (x2 : Int32) (x3 : Int32) (t : mz_St), f_MO_bracketEnd_83 n x2 x3 t = some res → ∀ (H : Heap) (locs : List Loc) (ls : Array Slot), mz_Wd mz_tM 55 mz_cl dC dI ad en ca s t H locs → lv_has ls 5 [(0, .ref (ad 0)), (2, .int x2), (3, .int x3)] → W p l e r_MO_bracketEnd s m args below meth c H locs 0 0 (MQ below (mz_Q SX mz_tM 55 mz_cl dC dI ad en ca (some (.int res.1)) res.2) args s 0 0 (mz_A ad 55)) (F0 m 83 ls []) := by
  obtain ⟨hx, hb, hml, hown, hcx, -, -, hSX, -, -, hSK⟩ := id E
  intro x2 x3 t hf H locs ls w hl
  unfold f_MO_bracketEnd_83 at hf
  refine lv_aload_n hx hb d_MO_bracketEnd_83 rfl (lv_at hl 0 rfl) ?_
  refine mz_get E w 0 6 (v := .int (mz_gI t 0 6)) (by decide) rfl rfl ii_11 (by decide) (Nat.le_of_ble_eq_true rfl) k_1189 rfl d_MO_bracketEnd_84 ?_
  refine lv_if_le (tgt := 92) hx hb d_MO_bracketEnd_87 (by decide) (fun hc3 => ?_) (fun hc3 => ?_)
  · have hf := mz_t hc3 hf
    refine lv_iload_n hx hb d_MO_bracketEnd_92 rfl (lv_at hl 1 rfl) ?_
    refine lv_if_le (tgt := 107) hx hb d_MO_bracketEnd_93 (by decide) (fun hc4 => ?_) (fun hc4 => ?_)
    · have hf := mz_t hc4 hf
      refine lv_iload_n hx hb d_MO_bracketEnd_107 rfl (lv_at hl 2 rfl) ?_
      obtain rfl := Option.some.inj hf
      exact mz_iret E w rfl d_MO_bracketEnd_108
    · have hf := mz_f hc4 hf
      refine lv_aload_n hx hb d_MO_bracketEnd_96 rfl (lv_at hl 0 rfl) ?_
      refine lv_iconst (v := (5 : Int32)) hx hb d_MO_bracketEnd_97 (by decide) ?_
      refine lv_aload_n hx hb d_MO_bracketEnd_98 rfl (lv_at hl 0 rfl) ?_
      refine mz_get E w 0 63 (v := .int (mz_gI t 0 63)) (by decide) rfl rfl ii_11 (by decide) (Nat.le_of_ble_eq_true rfl) k_1246 rfl d_MO_bracketEnd_99 ?_
      obtain ⟨q5, hq6, hf⟩ := mz_bd hf
      refine mz_callV E w (k := 0) (As := [.int (5 : Int32), .int (mz_gI t 0 63)]) (rest := []) (c_MO_fail hSK l n (5 : Int32) (mz_gI t 0 63) t q5 hq6) (by decide) rfl rfl k_1467 k_15 k_1464 k_1466 ks_53 hm_MO_fail ⟨⟨rfl, rfl⟩, Nat.le_of_ble_eq_true rfl, Nat.le_of_ble_eq_true rfl⟩ rfl hl.1 rfl (Nat.le_of_ble_eq_true rfl) d_MO_bracketEnd_102 ⟨Nat.zero_le _, Nat.zero_le _⟩ (st1 := []) rfl (fun H locs w => ?_)
      refine lv_iconst (v := (-1 : Int32)) hx hb d_MO_bracketEnd_105 (by decide) ?_
      obtain rfl := Option.some.inj hf
      exact mz_iret E w rfl d_MO_bracketEnd_106
  · have hf := mz_f hc3 hf
    refine lv_iconst (v := (-1 : Int32)) hx hb d_MO_bracketEnd_90 (by decide) ?_
    obtain rfl := Option.some.inj hf
    exact mz_iret E w rfl d_MO_bracketEnd_91
set_option maxRecDepth 100000 in
set_option maxHeartbeats 4000000 in
theorem b_MO_bracketEnd_76 {SX : State → Heap → Prop} {dC : Nat → ClassId} {dI : Nat → Nat → Nat} {ad en : Nat → Nat} {ca : Nat → ClassId} {p : Program} {l : Launch} {e : Env} {s : State} {m : MethodId} {args : Array Value} {below : List Frame} {meth : Method} {c : Code} {res : (Int32 × mz_St)} (E : mz_En SX 55 mz_cl dC dI ad ca p s m meth c prog_15_method_43_code 5 "MacroHouseModel" (some (.int))) (n : Nat) (K9 : Int32 → Int32 → Int32 → mz_St → Option (Int32 × mz_St)) (hK9 : ∀ (x1 : Int32) (x2 : Int32) (x3 : Int32) (t : mz_St), K9 x1 x2 x3 t = some res → ∀ (H : Heap) (locs : List Loc) (ls : Array Slot), mz_Wd mz_tM 55 mz_cl dC dI ad en ca s t H locs → lv_has ls 5 [(0, .ref (ad 0)), (1, .int x1), (2, .int x2), (3, .int x3)] → W p l e r_MO_bracketEnd s m args below meth c H locs 0 0 (MQ below (mz_Q SX mz_tM 55 mz_cl dC dI ad en ca (some (.int res.1)) res.2) args s 0 0 (mz_A ad 55)) (F0 m 9 ls [])) : ∀ (x1 : Int32) (x3 : Int32) (s0 : Int32) (t : mz_St), f_MO_bracketEnd_76 n K9 x1 x3 s0 t = some res → ∀ (H : Heap) (locs : List Loc) (ls : Array Slot), mz_Wd mz_tM 55 mz_cl dC dI ad en ca s t H locs → lv_has ls 5 [(0, .ref (ad 0)), (1, .int x1), (3, .int x3)] → W p l e r_MO_bracketEnd s m args below meth c H locs 0 0 (MQ below (mz_Q SX mz_tM 55 mz_cl dC dI ad en ca (some (.int res.1)) res.2) args s 0 0 (mz_A ad 55)) (F0 m 76 ls [.int s0]) := by
  obtain ⟨hx, hb, hml, hown, hcx, -, -, hSX, -, -, hSK⟩ := id E
  intro x1 x3 s0 t hf H locs ls w hl
  unfold f_MO_bracketEnd_76 at hf
  refine lv_istore_n (lv' := [(2, .int s0), (0, .ref (ad 0)), (1, .int x1), (3, .int x3)]) hx hb d_MO_bracketEnd_76 rfl hl (by decide) rfl (fun ls hl => ?_)
  refine lv_iinc (v := (x3 + (1 : Int32))) (lv' := [(3, .int (x3 + (1 : Int32))), (2, .int s0), (0, .ref (ad 0)), (1, .int x1)]) hx hb d_MO_bracketEnd_77 hl (k := 3) rfl rfl (by decide) rfl (fun ls hl => ?_)
  refine lv_goto (tgt := 9) hx hb d_MO_bracketEnd_80 (by decide) ?_
  exact hK9 x1 s0 (x3 + (1 : Int32)) t hf _ _ _ w (lv_sub hl [2, 3, 1, 0] rfl)
set_option maxRecDepth 100000 in
set_option maxHeartbeats 4000000 in
theorem b_MO_bracketEnd_56 {SX : State → Heap → Prop} {dC : Nat → ClassId} {dI : Nat → Nat → Nat} {ad en : Nat → Nat} {ca : Nat → ClassId} {p : Program} {l : Launch} {e : Env} {s : State} {m : MethodId} {args : Array Value} {below : List Frame} {meth : Method} {c : Code} {res : (Int32 × mz_St)} (E : mz_En SX 55 mz_cl dC dI ad ca p s m meth c prog_15_method_43_code 5 "MacroHouseModel" (some (.int))) (n : Nat) (K9 : Int32 → Int32 → Int32 → mz_St → Option (Int32 × mz_St)) (hK9 : ∀ (x1 : Int32) (x2 : Int32) (x3 : Int32) (t : mz_St), K9 x1 x2 x3 t = some res → ∀ (H : Heap) (locs : List Loc) (ls : Array Slot), mz_Wd mz_tM 55 mz_cl dC dI ad en ca s t H locs → lv_has ls 5 [(0, .ref (ad 0)), (1, .int x1), (2, .int x2), (3, .int x3)] → W p l e r_MO_bracketEnd s m args below meth c H locs 0 0 (MQ below (mz_Q SX mz_tM 55 mz_cl dC dI ad en ca (some (.int res.1)) res.2) args s 0 0 (mz_A ad 55)) (F0 m 9 ls [])) : ∀ (x1 : Int32) (x2 : Int32) (x3 : Int32) (t : mz_St), f_MO_bracketEnd_56 n K9 x1 x2 x3 t = some res → ∀ (H : Heap) (locs : List Loc) (ls : Array Slot), mz_Wd mz_tM 55 mz_cl dC dI ad en ca s t H locs → lv_has ls 5 [(0, .ref (ad 0)), (1, .int x1), (2, .int x2), (3, .int x3)] → W p l e r_MO_bracketEnd s m args below meth c H locs 0 0 (MQ below (mz_Q SX mz_tM 55 mz_cl dC dI ad en ca (some (.int res.1)) res.2) args s 0 0 (mz_A ad 55)) (F0 m 56 ls []) := by
  obtain ⟨hx, hb, hml, hown, hcx, -, -, hSX, -, -, hSK⟩ := id E
  intro x1 x2 x3 t hf H locs ls w hl
  unfold f_MO_bracketEnd_56 at hf
  refine lv_iload_n hx hb d_MO_bracketEnd_56 rfl (lv_at hl 2 rfl) ?_
  refine lv_iconst (v := (1 : Int32)) hx hb d_MO_bracketEnd_57 (by decide) ?_
  refine lv_iadd hx hb d_MO_bracketEnd_58 ?_
  refine lv_goto (tgt := 76) hx hb d_MO_bracketEnd_59 (by decide) ?_
  exact b_MO_bracketEnd_76 E n K9 hK9 x1 x3 (x2 + (1 : Int32)) t hf _ _ _ w (lv_sub hl [0, 1, 3] rfl)
set_option maxRecDepth 100000 in
set_option maxHeartbeats 4000000 in
theorem b_MO_bracketEnd_9 {SX : State → Heap → Prop} {dC : Nat → ClassId} {dI : Nat → Nat → Nat} {ad en : Nat → Nat} {ca : Nat → ClassId} {p : Program} {l : Launch} {e : Env} {s : State} {m : MethodId} {args : Array Value} {below : List Frame} {meth : Method} {c : Code} {res : (Int32 × mz_St)} (E : mz_En SX 55 mz_cl dC dI ad ca p s m meth c prog_15_method_43_code 5 "MacroHouseModel" (some (.int))) (n : Nat) (k : Nat) : ∀ (x1 : Int32) (x2 : Int32) (x3 : Int32) (t : mz_St), f_MO_bracketEnd_9 n k x1 x2 x3 t = some res → ∀ (H : Heap) (locs : List Loc) (ls : Array Slot), mz_Wd mz_tM 55 mz_cl dC dI ad en ca s t H locs → lv_has ls 5 [(0, .ref (ad 0)), (1, .int x1), (2, .int x2), (3, .int x3)] → W p l e r_MO_bracketEnd s m args below meth c H locs 0 0 (MQ below (mz_Q SX mz_tM 55 mz_cl dC dI ad en ca (some (.int res.1)) res.2) args s 0 0 (mz_A ad 55)) (F0 m 9 ls []) := by
  obtain ⟨hx, hb, hml, hown, hcx, -, -, hSX, -, -, hSK⟩ := id E
  induction k with
  | zero => intro x1 x2 x3 t hf; exact absurd hf (by unfold f_MO_bracketEnd_9; exact fun h => nomatch h)
  | succ k ih =>
    intro x1 x2 x3 t hf H locs ls w hl
    unfold f_MO_bracketEnd_9 at hf
    refine lv_iload_n hx hb d_MO_bracketEnd_9 rfl (lv_at hl 2 rfl) ?_
    refine lv_if_le (tgt := 83) hx hb d_MO_bracketEnd_10 (by decide) (fun hc2 => ?_) (fun hc2 => ?_)
    · have hf := mz_t hc2 hf
      exact b_MO_bracketEnd_83 E n x2 x3 t hf _ _ _ w (lv_sub hl [0, 2, 3] rfl)
    · have hf := mz_f hc2 hf
      refine lv_iload_n hx hb d_MO_bracketEnd_13 rfl (lv_at hl 3 rfl) ?_
      refine lv_aload_n hx hb d_MO_bracketEnd_14 rfl (lv_at hl 0 rfl) ?_
      refine mz_get E w 0 37 (v := .ref (ad 24)) (by decide) rfl rfl ii_11 (by decide) (Nat.le_of_ble_eq_true rfl) k_1220 rfl d_MO_bracketEnd_15 ?_
      refine lv_iload_n hx hb d_MO_bracketEnd_18 rfl (lv_at hl 1 rfl) ?_
      obtain ⟨hi7, hf⟩ := mz_gd hf
      refine mz_iald E w 24 (by decide) rfl hi7 d_MO_bracketEnd_19 ?_
      refine lv_icmp_ge (tgt := 83) hx hb d_MO_bracketEnd_20 (by decide) (fun hc8 => ?_) (fun hc8 => ?_)
      · have hf := mz_t hc8 hf
        exact b_MO_bracketEnd_83 E n x2 x3 t hf _ _ _ w (lv_sub hl [0, 2, 3] rfl)
      · have hf := mz_f hc8 hf
        refine lv_aload_n hx hb d_MO_bracketEnd_23 rfl (lv_at hl 0 rfl) ?_
        refine mz_get E w 0 6 (v := .int (mz_gI t 0 6)) (by decide) rfl rfl ii_11 (by decide) (Nat.le_of_ble_eq_true rfl) k_1189 rfl d_MO_bracketEnd_24 ?_
        refine lv_if_ne (tgt := 83) hx hb d_MO_bracketEnd_27 (by decide) (fun hc9 => ?_) (fun hc9 => ?_)
        · have hf := mz_f hc9 hf
          exact b_MO_bracketEnd_83 E n x2 x3 t hf _ _ _ w (lv_sub hl [0, 2, 3] rfl)
        · have hf := mz_t hc9 hf
          refine lv_aload_n hx hb d_MO_bracketEnd_30 rfl (lv_at hl 0 rfl) ?_
          refine lv_iload_n hx hb d_MO_bracketEnd_31 rfl (lv_at hl 3 rfl) ?_
          obtain ⟨q10, hq11, hf⟩ := mz_bd hf
          refine mz_callV E w (k := 0) (As := [.int x3]) (rest := []) (c_MO_look hSK l n x3 t q10 hq11) (by decide) rfl rfl k_1475 k_15 k_1472 k_1474 ks_55 hm_MO_look ⟨⟨rfl, rfl⟩, Nat.le_of_ble_eq_true rfl, Nat.le_of_ble_eq_true rfl⟩ rfl hl.1 rfl (Nat.le_of_ble_eq_true rfl) d_MO_bracketEnd_32 ⟨Nat.zero_le _, Nat.zero_le _⟩ (st1 := []) rfl (fun H locs w => ?_)
          refine lv_aload_n hx hb d_MO_bracketEnd_35 rfl (lv_at hl 0 rfl) ?_
          refine lv_iload_n hx hb d_MO_bracketEnd_36 rfl (lv_at hl 3 rfl) ?_
          obtain ⟨q12, hq13, hf⟩ := mz_bd hf
          refine mz_callV E w (k := 0) (As := [.int x3]) (rest := []) (c_MO_firstOf hSK l n x3 q10 q12 hq13) (by decide) rfl rfl k_1479 k_15 k_1476 k_1478 ks_56 hm_MO_firstOf ⟨⟨rfl, rfl⟩, Nat.le_of_ble_eq_true rfl, Nat.le_of_ble_eq_true rfl⟩ rfl hl.1 rfl (Nat.le_of_ble_eq_true rfl) d_MO_bracketEnd_37 ⟨Nat.zero_le _, Nat.zero_le _⟩ (st1 := [.int q12.1]) rfl (fun H locs w => ?_)
          refine lv_istore (lv' := [(4, .int q12.1), (0, .ref (ad 0)), (1, .int x1), (2, .int x2), (3, .int x3)]) hx hb d_MO_bracketEnd_40 hl (by decide) rfl (fun ls hl => ?_)
          refine lv_iload hx hb d_MO_bracketEnd_42 (lv_at hl 0 rfl) ?_
          refine lv_bipush (v := (10 : Int32)) hx hb d_MO_bracketEnd_44 (by decide) ?_
          refine lv_icmp_eq (tgt := 56) hx hb d_MO_bracketEnd_46 (by decide) (fun hc14 => ?_) (fun hc14 => ?_)
          · have hf := mz_t hc14 hf
            exact b_MO_bracketEnd_56 E n (f_MO_bracketEnd_9 n k) ih x1 x2 x3 q12.2 hf _ _ _ w (lv_sub hl [1, 2, 3, 4] rfl)
          · have hf := mz_f hc14 hf
            refine lv_iload hx hb d_MO_bracketEnd_49 (lv_at hl 0 rfl) ?_
            refine lv_bipush (v := (11 : Int32)) hx hb d_MO_bracketEnd_51 (by decide) ?_
            refine lv_icmp_ne (tgt := 62) hx hb d_MO_bracketEnd_53 (by decide) (fun hc15 => ?_) (fun hc15 => ?_)
            · have hf := mz_f hc15 hf
              refine lv_iload hx hb d_MO_bracketEnd_62 (lv_at hl 0 rfl) ?_
              refine lv_bipush (v := (12 : Int32)) hx hb d_MO_bracketEnd_64 (by decide) ?_
              refine lv_icmp_ne (tgt := 75) hx hb d_MO_bracketEnd_66 (by decide) (fun hc16 => ?_) (fun hc16 => ?_)
              · have hf := mz_f hc16 hf
                refine lv_iload_n hx hb d_MO_bracketEnd_75 rfl (lv_at hl 3 rfl) ?_
                exact b_MO_bracketEnd_76 E n (f_MO_bracketEnd_9 n k) ih x1 x3 x2 q12.2 hf _ _ _ w (lv_sub hl [1, 2, 4] rfl)
              · have hf := mz_t hc16 hf
                refine lv_iload_n hx hb d_MO_bracketEnd_69 rfl (lv_at hl 3 rfl) ?_
                refine lv_iconst (v := (1 : Int32)) hx hb d_MO_bracketEnd_70 (by decide) ?_
                refine lv_isub hx hb d_MO_bracketEnd_71 ?_
                refine lv_goto (tgt := 76) hx hb d_MO_bracketEnd_72 (by decide) ?_
                exact b_MO_bracketEnd_76 E n (f_MO_bracketEnd_9 n k) ih x1 x3 (x2 - (1 : Int32)) q12.2 hf _ _ _ w (lv_sub hl [1, 2, 4] rfl)
            · have hf := mz_t hc15 hf
              exact b_MO_bracketEnd_56 E n (f_MO_bracketEnd_9 n k) ih x1 x2 x3 q12.2 hf _ _ _ w (lv_sub hl [1, 2, 3, 4] rfl)
set_option maxRecDepth 100000 in
set_option maxHeartbeats 4000000 in
theorem c_MO_bracketEnd {SX : State → Heap → Prop} {dC : Nat → ClassId} {dI : Nat → Nat → Nat} {ad en : Nat → Nat} {ca : Nat → ClassId} (hSK : mz_SK SX ad 55) (l : Launch) (n : Nat) (x1 : Int32) (t : mz_St) (res : (Int32 × mz_St)) (hf : f_MO_bracketEnd n x1 t = some res) : mz_C SX mz_tM 55 mz_cl dC dI ad en ca l y_MO_bracketEnd prog_15_method_43_code 5 (some (.int)) r_MO_bracketEnd [.ref (ad 0), .int x1] t (some (.int res.1)) res.2 := by
  unfold f_MO_bracketEnd at hf
  refine mz_met hSK (by decide) (Nat.le_of_ble_eq_true rfl) ?_
  intro p e s m args below meth c ls E w hl
  obtain ⟨hx, hb, hml, hown, hcx, -, -, hSX, -, -, -⟩ := id E
  have hl : lv_has ls 5 [(0, .ref (ad 0)), (1, .int x1)] := hl
  refine lv_iconst (v := (1 : Int32)) hx hb d_MO_bracketEnd_0 (by decide) ?_
  refine lv_istore_n (lv' := [(2, .int (1 : Int32)), (0, .ref (ad 0)), (1, .int x1)]) hx hb d_MO_bracketEnd_1 rfl hl (by decide) rfl (fun ls hl => ?_)
  refine lv_aload_n hx hb d_MO_bracketEnd_2 rfl (lv_at hl 1 rfl) ?_
  refine mz_get E w 0 38 (v := .ref (ad 25)) (by decide) rfl rfl ii_11 (by decide) (Nat.le_of_ble_eq_true rfl) k_1221 rfl d_MO_bracketEnd_3 ?_
  refine lv_iload_n hx hb d_MO_bracketEnd_6 rfl (lv_at hl 2 rfl) ?_
  obtain ⟨hi1, hf⟩ := mz_gd hf
  refine mz_iald E w 25 (by decide) rfl hi1 d_MO_bracketEnd_7 ?_
  refine lv_istore_n (lv' := [(3, .int (mz_gI t 25 x1.toNatClampNeg)), (2, .int (1 : Int32)), (0, .ref (ad 0)), (1, .int x1)]) hx hb d_MO_bracketEnd_8 rfl hl (by decide) rfl (fun ls hl => ?_)
  exact b_MO_bracketEnd_9 E n n x1 (1 : Int32) (mz_gI t 25 x1.toNatClampNeg) t hf _ _ _ w (lv_sub hl [2, 3, 1, 0] rfl)

/-! MacroHouseModel.repeat()V -/
abbrev r_MO_repeat : Room := { frames := 5, cells := 0, slots := 0, locals := 114 }
def f_MO_repeat_94 (n : Nat) (x1 : Int32) (x3 : Int32) (x4 : Int32) (t : mz_St) : Option mz_St := if x1 ≤ 0 then (some t) else ((f_MO_beginFrame n (2 : Int32) x3 (x4 - (1 : Int32)) x1 (mz_gI t 0 48) (mz_gI t 0 51) t).bind fun q15 => some q15)
def f_MO_repeat (n : Nat) (t : mz_St) : Option mz_St := (f_MO_wholeValue n t).bind fun q1 => if (mz_gI q1.2 0 6) ≤ 0 then ((f_MO_in n q1.1 (0 : Int32) (100 : Int32) q1.2).bind fun q4 => if q4.1 = 0 then ((f_MO_fail n (4 : Int32) (mz_gI q4.2 0 63) q4.2).bind fun q20 => some q20) else (if ¬ (((mz_gI q4.2 0 34) - (1 : Int32)) < 0 ∨ 14 ≤ ((mz_gI q4.2 0 34) - (1 : Int32)).toNatClampNeg) then ((f_MO_bracketEnd n ((mz_gI q4.2 0 34) - (1 : Int32)) q4.2).bind fun q8 => if 0 ≤ q8.1 then (if ¬ (((mz_gI q4.2 0 34) - (1 : Int32)) < 0 ∨ 14 ≤ ((mz_gI q4.2 0 34) - (1 : Int32)).toNatClampNeg) then (mz_let (mz_pI q8.2 25 ((mz_gI q4.2 0 34) - (1 : Int32)).toNatClampNeg q8.1) fun t12 => if q1.1 ≤ 0 then (f_MO_repeat_94 n q1.1 (mz_gI q4.2 25 ((mz_gI q4.2 0 34) - (1 : Int32)).toNatClampNeg) q8.1 t12) else (if (mz_gI t12 0 34) ≤ (12 : Int32) then (f_MO_repeat_94 n q1.1 (mz_gI q4.2 25 ((mz_gI q4.2 0 34) - (1 : Int32)).toNatClampNeg) q8.1 t12) else ((f_MO_fail n (6 : Int32) (mz_gI t12 0 63) t12).bind fun q18 => some q18))) else none) else (some q8.2)) else none)) else (some q1.2)
set_option maxRecDepth 100000 in
set_option maxHeartbeats 4000000 in
theorem b_MO_repeat_94 {SX : State → Heap → Prop} {dC : Nat → ClassId} {dI : Nat → Nat → Nat} {ad en : Nat → Nat} {ca : Nat → ClassId} {p : Program} {l : Launch} {e : Env} {s : State} {m : MethodId} {args : Array Value} {below : List Frame} {meth : Method} {c : Code} {res : mz_St} (E : mz_En SX 55 mz_cl dC dI ad ca p s m meth c prog_15_method_44_code 5 "MacroHouseModel" none) (n : Nat) : ∀ (x1 : Int32) (x3 : Int32) (x4 : Int32) (t : mz_St), f_MO_repeat_94 n x1 x3 x4 t = some res → ∀ (H : Heap) (locs : List Loc) (ls : Array Slot), mz_Wd mz_tM 55 mz_cl dC dI ad en ca s t H locs → lv_has ls 5 [(0, .ref (ad 0)), (1, .int x1), (3, .int x3), (4, .int x4)] → W p l e r_MO_repeat s m args below meth c H locs 0 0 (MQ below (mz_Q SX mz_tM 55 mz_cl dC dI ad en ca none res) args s 0 0 (mz_A ad 55)) (F0 m 94 ls []) := by
  obtain ⟨hx, hb, hml, hown, hcx, -, -, hSX, -, -, hSK⟩ := id E
  intro x1 x3 x4 t hf H locs ls w hl
  unfold f_MO_repeat_94 at hf
  refine lv_iload_n hx hb d_MO_repeat_94 rfl (lv_at hl 1 rfl) ?_
  refine lv_if_le (tgt := 117) hx hb d_MO_repeat_95 (by decide) (fun hc14 => ?_) (fun hc14 => ?_)
  · have hf := mz_t hc14 hf
    obtain rfl := Option.some.inj hf
    exact mz_vret E w rfl d_MO_repeat_117
  · have hf := mz_f hc14 hf
    refine lv_aload_n hx hb d_MO_repeat_98 rfl (lv_at hl 0 rfl) ?_
    refine lv_iconst (v := (2 : Int32)) hx hb d_MO_repeat_99 (by decide) ?_
    refine lv_iload_n hx hb d_MO_repeat_100 rfl (lv_at hl 2 rfl) ?_
    refine lv_iload hx hb d_MO_repeat_101 (lv_at hl 3 rfl) ?_
    refine lv_iconst (v := (1 : Int32)) hx hb d_MO_repeat_103 (by decide) ?_
    refine lv_isub hx hb d_MO_repeat_104 ?_
    refine lv_iload_n hx hb d_MO_repeat_105 rfl (lv_at hl 1 rfl) ?_
    refine lv_aload_n hx hb d_MO_repeat_106 rfl (lv_at hl 0 rfl) ?_
    refine mz_get E w 0 48 (v := .int (mz_gI t 0 48)) (by decide) rfl rfl ii_11 (by decide) (Nat.le_of_ble_eq_true rfl) k_1231 rfl d_MO_repeat_107 ?_
    refine lv_aload_n hx hb d_MO_repeat_110 rfl (lv_at hl 0 rfl) ?_
    refine mz_get E w 0 51 (v := .int (mz_gI t 0 51)) (by decide) rfl rfl ii_11 (by decide) (Nat.le_of_ble_eq_true rfl) k_1234 rfl d_MO_repeat_111 ?_
    obtain ⟨q15, hq16, hf⟩ := mz_bd hf
    refine mz_callV E w (k := 0) (As := [.int (2 : Int32), .int x3, .int (x4 - (1 : Int32)), .int x1, .int (mz_gI t 0 48), .int (mz_gI t 0 51)]) (rest := []) (c_MO_beginFrame hSK l n (2 : Int32) x3 (x4 - (1 : Int32)) x1 (mz_gI t 0 48) (mz_gI t 0 51) t q15 hq16) (by decide) rfl rfl k_1455 k_15 k_1452 k_1454 ks_50 hm_MO_beginFrame ⟨⟨rfl, rfl⟩, Nat.le_of_ble_eq_true rfl, Nat.le_of_ble_eq_true rfl⟩ rfl hl.1 rfl (Nat.le_of_ble_eq_true rfl) d_MO_repeat_114 ⟨Nat.zero_le _, Nat.zero_le _⟩ (st1 := []) rfl (fun H locs w => ?_)
    obtain rfl := Option.some.inj hf
    exact mz_vret E w rfl d_MO_repeat_117
set_option maxRecDepth 100000 in
set_option maxHeartbeats 4000000 in
theorem c_MO_repeat {SX : State → Heap → Prop} {dC : Nat → ClassId} {dI : Nat → Nat → Nat} {ad en : Nat → Nat} {ca : Nat → ClassId} (hSK : mz_SK SX ad 55) (l : Launch) (n : Nat) (t : mz_St) (res : mz_St) (hf : f_MO_repeat n t = some res) : mz_C SX mz_tM 55 mz_cl dC dI ad en ca l y_MO_repeat prog_15_method_44_code 5 none r_MO_repeat [.ref (ad 0)] t none res := by
  unfold f_MO_repeat at hf
  refine mz_met hSK (by decide) (Nat.le_of_ble_eq_true rfl) ?_
  intro p e s m args below meth c ls E w hl
  obtain ⟨hx, hb, hml, hown, hcx, -, -, hSX, -, -, -⟩ := id E
  have hl : lv_has ls 5 [(0, .ref (ad 0))] := hl
  refine lv_aload_n hx hb d_MO_repeat_0 rfl (lv_at hl 0 rfl) ?_
  obtain ⟨q1, hq2, hf⟩ := mz_bd hf
  refine mz_callV E w (k := 0) (As := []) (rest := []) (c_MO_wholeValue hSK l n t q1 hq2) (by decide) rfl rfl k_1561 k_15 k_1558 k_1560 ks_70 hm_MO_wholeValue ⟨⟨rfl, rfl⟩, Nat.le_of_ble_eq_true rfl, Nat.le_of_ble_eq_true rfl⟩ rfl hl.1 rfl (Nat.le_of_ble_eq_true rfl) d_MO_repeat_1 ⟨Nat.zero_le _, Nat.zero_le _⟩ (st1 := [.int q1.1]) rfl (fun H locs w => ?_)
  refine lv_istore_n (lv' := [(1, .int q1.1), (0, .ref (ad 0))]) hx hb d_MO_repeat_4 rfl hl (by decide) rfl (fun ls hl => ?_)
  refine lv_aload_n hx hb d_MO_repeat_5 rfl (lv_at hl 1 rfl) ?_
  refine mz_get E w 0 6 (v := .int (mz_gI q1.2 0 6)) (by decide) rfl rfl ii_11 (by decide) (Nat.le_of_ble_eq_true rfl) k_1189 rfl d_MO_repeat_6 ?_
  refine lv_if_le (tgt := 13) hx hb d_MO_repeat_9 (by decide) (fun hc3 => ?_) (fun hc3 => ?_)
  · have hf := mz_t hc3 hf
    refine lv_iload_n hx hb d_MO_repeat_13 rfl (lv_at hl 0 rfl) ?_
    refine lv_iconst (v := (0 : Int32)) hx hb d_MO_repeat_14 (by decide) ?_
    refine lv_bipush (v := (100 : Int32)) hx hb d_MO_repeat_15 (by decide) ?_
    obtain ⟨q4, hq5, hf⟩ := mz_bd hf
    refine mz_callS E w (As := [.int q1.1, .int (0 : Int32), .int (100 : Int32)]) (rest := []) (c_MO_in hSK l n q1.1 (0 : Int32) (100 : Int32) q1.2 q4 hq5) k_1435 k_15 k_1433 k_1434 hm_MO_in ⟨⟨rfl, rfl⟩, Nat.le_of_ble_eq_true rfl, Nat.le_of_ble_eq_true rfl⟩ rfl hl.1 rfl (Nat.le_of_ble_eq_true rfl) d_MO_repeat_17 ⟨Nat.zero_le _, Nat.zero_le _⟩ (st1 := [.int q4.1]) rfl (fun H locs w => ?_)
    refine lv_if_ne (tgt := 33) hx hb d_MO_repeat_20 (by decide) (fun hc6 => ?_) (fun hc6 => ?_)
    · have hf := mz_f hc6 hf
      refine lv_aload_n hx hb d_MO_repeat_33 rfl (lv_at hl 1 rfl) ?_
      refine mz_get E w 0 34 (v := .int (mz_gI q4.2 0 34)) (by decide) rfl rfl ii_11 (by decide) (Nat.le_of_ble_eq_true rfl) k_1217 rfl d_MO_repeat_34 ?_
      refine lv_iconst (v := (1 : Int32)) hx hb d_MO_repeat_37 (by decide) ?_
      refine lv_isub hx hb d_MO_repeat_38 ?_
      refine lv_istore_n (lv' := [(2, .int ((mz_gI q4.2 0 34) - (1 : Int32))), (1, .int q1.1), (0, .ref (ad 0))]) hx hb d_MO_repeat_39 rfl hl (by decide) rfl (fun ls hl => ?_)
      refine lv_aload_n hx hb d_MO_repeat_40 rfl (lv_at hl 2 rfl) ?_
      refine mz_get E w 0 38 (v := .ref (ad 25)) (by decide) rfl rfl ii_11 (by decide) (Nat.le_of_ble_eq_true rfl) k_1221 rfl d_MO_repeat_41 ?_
      refine lv_iload_n hx hb d_MO_repeat_44 rfl (lv_at hl 0 rfl) ?_
      obtain ⟨hi7, hf⟩ := mz_gd hf
      refine mz_iald E w 25 (by decide) rfl hi7 d_MO_repeat_45 ?_
      refine lv_istore_n (lv' := [(3, .int (mz_gI q4.2 25 ((mz_gI q4.2 0 34) - (1 : Int32)).toNatClampNeg)), (2, .int ((mz_gI q4.2 0 34) - (1 : Int32))), (1, .int q1.1), (0, .ref (ad 0))]) hx hb d_MO_repeat_46 rfl hl (by decide) rfl (fun ls hl => ?_)
      refine lv_aload_n hx hb d_MO_repeat_47 rfl (lv_at hl 3 rfl) ?_
      refine lv_iload_n hx hb d_MO_repeat_48 rfl (lv_at hl 1 rfl) ?_
      obtain ⟨q8, hq9, hf⟩ := mz_bd hf
      refine mz_callV E w (k := 0) (As := [.int ((mz_gI q4.2 0 34) - (1 : Int32))]) (rest := []) (c_MO_bracketEnd hSK l n ((mz_gI q4.2 0 34) - (1 : Int32)) q4.2 q8 hq9) (by decide) rfl rfl k_1656 k_15 k_1653 k_1655 ks_93 hm_MO_bracketEnd ⟨⟨rfl, rfl⟩, Nat.le_of_ble_eq_true rfl, Nat.le_of_ble_eq_true rfl⟩ rfl hl.1 rfl (Nat.le_of_ble_eq_true rfl) d_MO_repeat_49 ⟨Nat.zero_le _, Nat.zero_le _⟩ (st1 := [.int q8.1]) rfl (fun H locs w => ?_)
      refine lv_istore (lv' := [(4, .int q8.1), (3, .int (mz_gI q4.2 25 ((mz_gI q4.2 0 34) - (1 : Int32)).toNatClampNeg)), (2, .int ((mz_gI q4.2 0 34) - (1 : Int32))), (1, .int q1.1), (0, .ref (ad 0))]) hx hb d_MO_repeat_52 hl (by decide) rfl (fun ls hl => ?_)
      refine lv_iload hx hb d_MO_repeat_54 (lv_at hl 0 rfl) ?_
      refine lv_if_ge (tgt := 60) hx hb d_MO_repeat_56 (by decide) (fun hc10 => ?_) (fun hc10 => ?_)
      · have hf := mz_t hc10 hf
        refine lv_aload_n hx hb d_MO_repeat_60 rfl (lv_at hl 4 rfl) ?_
        refine mz_get E w 0 38 (v := .ref (ad 25)) (by decide) rfl rfl ii_11 (by decide) (Nat.le_of_ble_eq_true rfl) k_1221 rfl d_MO_repeat_61 ?_
        refine lv_iload_n hx hb d_MO_repeat_64 rfl (lv_at hl 2 rfl) ?_
        refine lv_iload hx hb d_MO_repeat_65 (lv_at hl 0 rfl) ?_
        obtain ⟨hi11, hf⟩ := mz_gd hf
        refine mz_iast E w 25 (x := q8.1) (by decide) rfl hi11 d_MO_repeat_67 (fun H locs w => ?_)
        obtain ⟨t12, e_t12, hf⟩ := mz_lt hf
        rw [← e_t12] at w
        refine lv_iload_n hx hb d_MO_repeat_68 rfl (lv_at hl 3 rfl) ?_
        refine lv_if_le (tgt := 94) hx hb d_MO_repeat_69 (by decide) (fun hc13 => ?_) (fun hc13 => ?_)
        · have hf := mz_t hc13 hf
          exact b_MO_repeat_94 E n q1.1 (mz_gI q4.2 25 ((mz_gI q4.2 0 34) - (1 : Int32)).toNatClampNeg) q8.1 t12 hf _ _ _ w (lv_sub hl [4, 3, 1, 0] rfl)
        · have hf := mz_f hc13 hf
          refine lv_aload_n hx hb d_MO_repeat_72 rfl (lv_at hl 4 rfl) ?_
          refine mz_get E w 0 34 (v := .int (mz_gI t12 0 34)) (by decide) rfl rfl ii_11 (by decide) (Nat.le_of_ble_eq_true rfl) k_1217 rfl d_MO_repeat_73 ?_
          refine lv_bipush (v := (12 : Int32)) hx hb d_MO_repeat_76 (by decide) ?_
          refine lv_icmp_le (tgt := 94) hx hb d_MO_repeat_78 (by decide) (fun hc17 => ?_) (fun hc17 => ?_)
          · have hf := mz_t hc17 hf
            exact b_MO_repeat_94 E n q1.1 (mz_gI q4.2 25 ((mz_gI q4.2 0 34) - (1 : Int32)).toNatClampNeg) q8.1 t12 hf _ _ _ w (lv_sub hl [4, 3, 1, 0] rfl)
          · have hf := mz_f hc17 hf
            refine lv_aload_n hx hb d_MO_repeat_81 rfl (lv_at hl 4 rfl) ?_
            refine lv_bipush (v := (6 : Int32)) hx hb d_MO_repeat_82 (by decide) ?_
            refine lv_aload_n hx hb d_MO_repeat_84 rfl (lv_at hl 4 rfl) ?_
            refine mz_get E w 0 63 (v := .int (mz_gI t12 0 63)) (by decide) rfl rfl ii_11 (by decide) (Nat.le_of_ble_eq_true rfl) k_1246 rfl d_MO_repeat_85 ?_
            obtain ⟨q18, hq19, hf⟩ := mz_bd hf
            refine mz_callV E w (k := 0) (As := [.int (6 : Int32), .int (mz_gI t12 0 63)]) (rest := []) (c_MO_fail hSK l n (6 : Int32) (mz_gI t12 0 63) t12 q18 hq19) (by decide) rfl rfl k_1467 k_15 k_1464 k_1466 ks_53 hm_MO_fail ⟨⟨rfl, rfl⟩, Nat.le_of_ble_eq_true rfl, Nat.le_of_ble_eq_true rfl⟩ rfl hl.1 rfl (Nat.le_of_ble_eq_true rfl) d_MO_repeat_88 ⟨Nat.zero_le _, Nat.zero_le _⟩ (st1 := []) rfl (fun H locs w => ?_)
            refine lv_goto (tgt := 117) hx hb d_MO_repeat_91 (by decide) ?_
            obtain rfl := Option.some.inj hf
            exact mz_vret E w rfl d_MO_repeat_117
      · have hf := mz_f hc10 hf
        obtain rfl := Option.some.inj hf
        exact mz_vret E w rfl d_MO_repeat_59
    · have hf := mz_t hc6 hf
      refine lv_aload_n hx hb d_MO_repeat_23 rfl (lv_at hl 1 rfl) ?_
      refine lv_iconst (v := (4 : Int32)) hx hb d_MO_repeat_24 (by decide) ?_
      refine lv_aload_n hx hb d_MO_repeat_25 rfl (lv_at hl 1 rfl) ?_
      refine mz_get E w 0 63 (v := .int (mz_gI q4.2 0 63)) (by decide) rfl rfl ii_11 (by decide) (Nat.le_of_ble_eq_true rfl) k_1246 rfl d_MO_repeat_26 ?_
      obtain ⟨q20, hq21, hf⟩ := mz_bd hf
      refine mz_callV E w (k := 0) (As := [.int (4 : Int32), .int (mz_gI q4.2 0 63)]) (rest := []) (c_MO_fail hSK l n (4 : Int32) (mz_gI q4.2 0 63) q4.2 q20 hq21) (by decide) rfl rfl k_1467 k_15 k_1464 k_1466 ks_53 hm_MO_fail ⟨⟨rfl, rfl⟩, Nat.le_of_ble_eq_true rfl, Nat.le_of_ble_eq_true rfl⟩ rfl hl.1 rfl (Nat.le_of_ble_eq_true rfl) d_MO_repeat_29 ⟨Nat.zero_le _, Nat.zero_le _⟩ (st1 := []) rfl (fun H locs w => ?_)
      obtain rfl := Option.some.inj hf
      exact mz_vret E w rfl d_MO_repeat_32
  · have hf := mz_f hc3 hf
    obtain rfl := Option.some.inj hf
    exact mz_vret E w rfl d_MO_repeat_12

/-! MacroHouseModel.readTexts()I -/
abbrev r_MO_readTexts : Room := { frames := 1, cells := 0, slots := 0, locals := 25 }
def f_MO_readTexts_159 (n : Nat) (K15 : Int32 → Int32 → Int32 → Int32 → mz_St → Option (Int32 × mz_St)) (x1 : Int32) (x2 : Int32) (x3 : Int32) (x4 : Int32) (s1 : Int32) (t : mz_St) : Option (Int32 × mz_St) := if s1 = 0 ∨ s1 = 1 then (mz_let (mz_pI t 0 62 s1) fun t10 => K15 x1 x2 x3 (x4 + (1 : Int32)) t10) else none
def f_MO_readTexts_158 (n : Nat) (K15 : Int32 → Int32 → Int32 → Int32 → mz_St → Option (Int32 × mz_St)) (x1 : Int32) (x2 : Int32) (x3 : Int32) (x4 : Int32) (t : mz_St) : Option (Int32 × mz_St) := f_MO_readTexts_159 n K15 x1 x2 x3 x4 (0 : Int32) t
def f_MO_readTexts_141 (n : Nat) (K15 : Int32 → Int32 → Int32 → Int32 → mz_St → Option (Int32 × mz_St)) (x1 : Int32) (x3 : Int32) (x4 : Int32) (s0 : Int32) (t : mz_St) : Option (Int32 × mz_St) := if (mz_gI t 0 62) = 0 then (f_MO_readTexts_158 n K15 x1 s0 x3 x4 t) else (if s0 < 0 then (f_MO_readTexts_158 n K15 x1 s0 x3 x4 t) else (f_MO_readTexts_159 n K15 x1 s0 x3 x4 (1 : Int32) t))
def f_MO_readTexts_114 (n : Nat) (K15 : Int32 → Int32 → Int32 → Int32 → mz_St → Option (Int32 × mz_St)) (x1 : Int32) (x2 : Int32) (x3 : Int32) (x4 : Int32) (x5 : Int32) (t : mz_St) : Option (Int32 × mz_St) := if x5 = (40 : Int32) then (f_MO_readTexts_141 n K15 x1 x3 x4 (x2 + (1 : Int32)) t) else (if x5 = (41 : Int32) then (f_MO_readTexts_141 n K15 x1 x3 x4 (x2 - (1 : Int32)) t) else (f_MO_readTexts_141 n K15 x1 x3 x4 x2 t))
def f_MO_readTexts_96 (n : Nat) (K15 : Int32 → Int32 → Int32 → Int32 → mz_St → Option (Int32 × mz_St)) (x1 : Int32) (x2 : Int32) (x3 : Int32) (x4 : Int32) (x5 : Int32) (s1 : Int32) (t : mz_St) : Option (Int32 × mz_St) := if s1 = 0 ∨ s1 = 1 then (mz_let (mz_pI t 0 62 s1) fun t14 => (f_MO_hold n x3 x4 t14).bind fun q15 => f_MO_readTexts_114 n K15 (x1 + (1 : Int32)) x2 (x4 + (1 : Int32)) x4 x5 q15) else none
def f_MO_readTexts_95 (n : Nat) (K15 : Int32 → Int32 → Int32 → Int32 → mz_St → Option (Int32 × mz_St)) (x1 : Int32) (x2 : Int32) (x3 : Int32) (x4 : Int32) (x5 : Int32) (t : mz_St) : Option (Int32 × mz_St) := f_MO_readTexts_96 n K15 x1 x2 x3 x4 x5 (0 : Int32) t
def f_MO_readTexts_72 (n : Nat) (K15 : Int32 → Int32 → Int32 → Int32 → mz_St → Option (Int32 × mz_St)) (x1 : Int32) (x2 : Int32) (x3 : Int32) (x4 : Int32) (x5 : Int32) (s0 : Int32) (t : mz_St) : Option (Int32 × mz_St) := if s0 = 0 then (f_MO_readTexts_114 n K15 x1 x2 x3 x4 x5 t) else (if (mz_gI t 0 62) = 0 then (f_MO_readTexts_95 n K15 x1 x2 x3 x4 x5 t) else (if x2 = 0 then (f_MO_readTexts_96 n K15 x1 x2 x3 x4 x5 (1 : Int32) t) else (f_MO_readTexts_95 n K15 x1 x2 x3 x4 x5 t)))
def f_MO_readTexts_71 (n : Nat) (K15 : Int32 → Int32 → Int32 → Int32 → mz_St → Option (Int32 × mz_St)) (x1 : Int32) (x2 : Int32) (x3 : Int32) (x4 : Int32) (x5 : Int32) (t : mz_St) : Option (Int32 × mz_St) := f_MO_readTexts_72 n K15 x1 x2 x3 x4 x5 (0 : Int32) t
def f_MO_readTexts_67 (n : Nat) (K15 : Int32 → Int32 → Int32 → Int32 → mz_St → Option (Int32 × mz_St)) (x1 : Int32) (x2 : Int32) (x3 : Int32) (x4 : Int32) (x5 : Int32) (t : mz_St) : Option (Int32 × mz_St) := f_MO_readTexts_72 n K15 x1 x2 x3 x4 x5 (1 : Int32) t
def f_MO_readTexts_45 (n : Nat) (K15 : Int32 → Int32 → Int32 → Int32 → mz_St → Option (Int32 × mz_St)) (x1 : Int32) (x2 : Int32) (x3 : Int32) (x4 : Int32) (s0 : Int32) (t : mz_St) : Option (Int32 × mz_St) := if s0 = (44 : Int32) then (if x2 = 0 then (f_MO_readTexts_67 n K15 x1 x2 x3 x4 s0 t) else (if x4 = (mz_gI t 0 60) then (f_MO_readTexts_67 n K15 x1 x2 x3 x4 s0 t) else (f_MO_readTexts_71 n K15 x1 x2 x3 x4 s0 t))) else (f_MO_readTexts_71 n K15 x1 x2 x3 x4 s0 t)
def f_MO_readTexts_15 (n : Nat) : Nat → Int32 → Int32 → Int32 → Int32 → mz_St → Option (Int32 × mz_St)
  | 0, _, _, _, _, _ => none
  | k + 1, x1, x2, x3, x4, t => if (mz_gI t 0 60) < x4 then (mz_let (mz_pI t 0 61 (mz_gI t 0 60)) fun t2 => some (x1, t2)) else (if (mz_gI t 0 60) ≤ x4 then (f_MO_readTexts_45 n (f_MO_readTexts_15 n k) x1 x2 x3 x4 (44 : Int32) t) else (if ¬ (x4 < 0 ∨ 6000 ≤ x4.toNatClampNeg) then (f_MO_readTexts_45 n (f_MO_readTexts_15 n k) x1 x2 x3 x4 (mz_gI t 43 x4.toNatClampNeg) t) else none))
def f_MO_readTexts (n : Nat) (t : mz_St) : Option (Int32 × mz_St) := f_MO_readTexts_15 n n (0 : Int32) (0 : Int32) (mz_gI t 0 61) (mz_gI t 0 61) t
set_option maxRecDepth 100000 in
set_option maxHeartbeats 4000000 in
theorem b_MO_readTexts_159 {SX : State → Heap → Prop} {dC : Nat → ClassId} {dI : Nat → Nat → Nat} {ad en : Nat → Nat} {ca : Nat → ClassId} {p : Program} {l : Launch} {e : Env} {s : State} {m : MethodId} {args : Array Value} {below : List Frame} {meth : Method} {c : Code} {res : (Int32 × mz_St)} (E : mz_En SX 55 mz_cl dC dI ad ca p s m meth c prog_15_method_39_code 7 "MacroHouseModel" (some (.int))) (n : Nat) (K15 : Int32 → Int32 → Int32 → Int32 → mz_St → Option (Int32 × mz_St)) (hK15 : ∀ (x1 : Int32) (x2 : Int32) (x3 : Int32) (x4 : Int32) (t : mz_St), K15 x1 x2 x3 x4 t = some res → ∀ (H : Heap) (locs : List Loc) (ls : Array Slot), mz_Wd mz_tM 55 mz_cl dC dI ad en ca s t H locs → lv_has ls 7 [(0, .ref (ad 0)), (1, .int x1), (2, .int x2), (3, .int x3), (4, .int x4)] → W p l e r_MO_readTexts s m args below meth c H locs 0 0 (MQ below (mz_Q SX mz_tM 55 mz_cl dC dI ad en ca (some (.int res.1)) res.2) args s 0 0 (mz_A ad 55)) (F0 m 15 ls [])) : ∀ (x1 : Int32) (x2 : Int32) (x3 : Int32) (x4 : Int32) (s1 : Int32) (t : mz_St), f_MO_readTexts_159 n K15 x1 x2 x3 x4 s1 t = some res → ∀ (H : Heap) (locs : List Loc) (ls : Array Slot), mz_Wd mz_tM 55 mz_cl dC dI ad en ca s t H locs → lv_has ls 7 [(0, .ref (ad 0)), (1, .int x1), (2, .int x2), (3, .int x3), (4, .int x4)] → W p l e r_MO_readTexts s m args below meth c H locs 0 0 (MQ below (mz_Q SX mz_tM 55 mz_cl dC dI ad en ca (some (.int res.1)) res.2) args s 0 0 (mz_A ad 55)) (F0 m 159 ls [.int s1, .ref (ad 0)]) := by
  obtain ⟨hx, hb, hml, hown, hcx, -, -, hSX, -, -, hSK⟩ := id E
  intro x1 x2 x3 x4 s1 t hf H locs ls w hl
  unfold f_MO_readTexts_159 at hf
  obtain ⟨hz9, hf⟩ := mz_gd hf
  refine mz_put E w 0 62 (v := s1) (by decide) rfl rfl ii_11 tk_11 nm_11 (by decide) (Nat.le_of_ble_eq_true rfl) k_1245 rfl (tk_11 62 (by decide)) rfl (mz_b01 hz9) rfl d_MO_readTexts_159 (fun H locs w => ?_)
  obtain ⟨t10, e_t10, hf⟩ := mz_lt hf
  rw [← e_t10] at w
  refine lv_iinc (v := (x4 + (1 : Int32))) (lv' := [(4, .int (x4 + (1 : Int32))), (0, .ref (ad 0)), (1, .int x1), (2, .int x2), (3, .int x3)]) hx hb d_MO_readTexts_162 hl (k := 4) rfl rfl (by decide) rfl (fun ls hl => ?_)
  refine lv_goto (tgt := 15) hx hb d_MO_readTexts_165 (by decide) ?_
  exact hK15 x1 x2 x3 (x4 + (1 : Int32)) t10 hf _ _ _ w (lv_sub hl [1, 2, 3, 4, 0] rfl)
set_option maxRecDepth 100000 in
set_option maxHeartbeats 4000000 in
theorem b_MO_readTexts_158 {SX : State → Heap → Prop} {dC : Nat → ClassId} {dI : Nat → Nat → Nat} {ad en : Nat → Nat} {ca : Nat → ClassId} {p : Program} {l : Launch} {e : Env} {s : State} {m : MethodId} {args : Array Value} {below : List Frame} {meth : Method} {c : Code} {res : (Int32 × mz_St)} (E : mz_En SX 55 mz_cl dC dI ad ca p s m meth c prog_15_method_39_code 7 "MacroHouseModel" (some (.int))) (n : Nat) (K15 : Int32 → Int32 → Int32 → Int32 → mz_St → Option (Int32 × mz_St)) (hK15 : ∀ (x1 : Int32) (x2 : Int32) (x3 : Int32) (x4 : Int32) (t : mz_St), K15 x1 x2 x3 x4 t = some res → ∀ (H : Heap) (locs : List Loc) (ls : Array Slot), mz_Wd mz_tM 55 mz_cl dC dI ad en ca s t H locs → lv_has ls 7 [(0, .ref (ad 0)), (1, .int x1), (2, .int x2), (3, .int x3), (4, .int x4)] → W p l e r_MO_readTexts s m args below meth c H locs 0 0 (MQ below (mz_Q SX mz_tM 55 mz_cl dC dI ad en ca (some (.int res.1)) res.2) args s 0 0 (mz_A ad 55)) (F0 m 15 ls [])) : ∀ (x1 : Int32) (x2 : Int32) (x3 : Int32) (x4 : Int32) (t : mz_St), f_MO_readTexts_158 n K15 x1 x2 x3 x4 t = some res → ∀ (H : Heap) (locs : List Loc) (ls : Array Slot), mz_Wd mz_tM 55 mz_cl dC dI ad en ca s t H locs → lv_has ls 7 [(0, .ref (ad 0)), (1, .int x1), (2, .int x2), (3, .int x3), (4, .int x4)] → W p l e r_MO_readTexts s m args below meth c H locs 0 0 (MQ below (mz_Q SX mz_tM 55 mz_cl dC dI ad en ca (some (.int res.1)) res.2) args s 0 0 (mz_A ad 55)) (F0 m 158 ls [.ref (ad 0)]) := by
  obtain ⟨hx, hb, hml, hown, hcx, -, -, hSX, -, -, hSK⟩ := id E
  intro x1 x2 x3 x4 t hf H locs ls w hl
  unfold f_MO_readTexts_158 at hf
  refine lv_iconst (v := (0 : Int32)) hx hb d_MO_readTexts_158 (by decide) ?_
  exact b_MO_readTexts_159 E n K15 hK15 x1 x2 x3 x4 (0 : Int32) t hf _ _ _ w (lv_sub hl [0, 1, 2, 3, 4] rfl)
set_option maxRecDepth 100000 in
set_option maxHeartbeats 4000000 in
theorem b_MO_readTexts_141 {SX : State → Heap → Prop} {dC : Nat → ClassId} {dI : Nat → Nat → Nat} {ad en : Nat → Nat} {ca : Nat → ClassId} {p : Program} {l : Launch} {e : Env} {s : State} {m : MethodId} {args : Array Value} {below : List Frame} {meth : Method} {c : Code} {res : (Int32 × mz_St)} (E : mz_En SX 55 mz_cl dC dI ad ca p s m meth c prog_15_method_39_code 7 "MacroHouseModel" (some (.int))) (n : Nat) (K15 : Int32 → Int32 → Int32 → Int32 → mz_St → Option (Int32 × mz_St)) (hK15 : ∀ (x1 : Int32) (x2 : Int32) (x3 : Int32) (x4 : Int32) (t : mz_St), K15 x1 x2 x3 x4 t = some res → ∀ (H : Heap) (locs : List Loc) (ls : Array Slot), mz_Wd mz_tM 55 mz_cl dC dI ad en ca s t H locs → lv_has ls 7 [(0, .ref (ad 0)), (1, .int x1), (2, .int x2), (3, .int x3), (4, .int x4)] → W p l e r_MO_readTexts s m args below meth c H locs 0 0 (MQ below (mz_Q SX mz_tM 55 mz_cl dC dI ad en ca (some (.int res.1)) res.2) args s 0 0 (mz_A ad 55)) (F0 m 15 ls [])) : ∀ (x1 : Int32) (x3 : Int32) (x4 : Int32) (s0 : Int32) (t : mz_St), f_MO_readTexts_141 n K15 x1 x3 x4 s0 t = some res → ∀ (H : Heap) (locs : List Loc) (ls : Array Slot), mz_Wd mz_tM 55 mz_cl dC dI ad en ca s t H locs → lv_has ls 7 [(0, .ref (ad 0)), (1, .int x1), (3, .int x3), (4, .int x4)] → W p l e r_MO_readTexts s m args below meth c H locs 0 0 (MQ below (mz_Q SX mz_tM 55 mz_cl dC dI ad en ca (some (.int res.1)) res.2) args s 0 0 (mz_A ad 55)) (F0 m 141 ls [.int s0]) := by
  obtain ⟨hx, hb, hml, hown, hcx, -, -, hSX, -, -, hSK⟩ := id E
  intro x1 x3 x4 s0 t hf H locs ls w hl
  unfold f_MO_readTexts_141 at hf
  refine lv_istore_n (lv' := [(2, .int s0), (0, .ref (ad 0)), (1, .int x1), (3, .int x3), (4, .int x4)]) hx hb d_MO_readTexts_141 rfl hl (by decide) rfl (fun ls hl => ?_)
  refine lv_aload_n hx hb d_MO_readTexts_142 rfl (lv_at hl 1 rfl) ?_
  refine lv_aload_n hx hb d_MO_readTexts_143 rfl (lv_at hl 1 rfl) ?_
  refine mz_get E w 0 62 (v := .int (mz_gI t 0 62)) (by decide) rfl rfl ii_11 (by decide) (Nat.le_of_ble_eq_true rfl) k_1245 rfl d_MO_readTexts_144 ?_
  refine lv_if_eq (tgt := 158) hx hb d_MO_readTexts_147 (by decide) (fun hc8 => ?_) (fun hc8 => ?_)
  · have hf := mz_t hc8 hf
    exact b_MO_readTexts_158 E n K15 hK15 x1 s0 x3 x4 t hf _ _ _ w (lv_sub hl [1, 2, 0, 3, 4] rfl)
  · have hf := mz_f hc8 hf
    refine lv_iload_n hx hb d_MO_readTexts_150 rfl (lv_at hl 0 rfl) ?_
    refine lv_if_lt (tgt := 158) hx hb d_MO_readTexts_151 (by decide) (fun hc11 => ?_) (fun hc11 => ?_)
    · have hf := mz_t hc11 hf
      exact b_MO_readTexts_158 E n K15 hK15 x1 s0 x3 x4 t hf _ _ _ w (lv_sub hl [1, 2, 0, 3, 4] rfl)
    · have hf := mz_f hc11 hf
      refine lv_iconst (v := (1 : Int32)) hx hb d_MO_readTexts_154 (by decide) ?_
      refine lv_goto (tgt := 159) hx hb d_MO_readTexts_155 (by decide) ?_
      exact b_MO_readTexts_159 E n K15 hK15 x1 s0 x3 x4 (1 : Int32) t hf _ _ _ w (lv_sub hl [1, 2, 0, 3, 4] rfl)
set_option maxRecDepth 100000 in
set_option maxHeartbeats 4000000 in
theorem b_MO_readTexts_114 {SX : State → Heap → Prop} {dC : Nat → ClassId} {dI : Nat → Nat → Nat} {ad en : Nat → Nat} {ca : Nat → ClassId} {p : Program} {l : Launch} {e : Env} {s : State} {m : MethodId} {args : Array Value} {below : List Frame} {meth : Method} {c : Code} {res : (Int32 × mz_St)} (E : mz_En SX 55 mz_cl dC dI ad ca p s m meth c prog_15_method_39_code 7 "MacroHouseModel" (some (.int))) (n : Nat) (K15 : Int32 → Int32 → Int32 → Int32 → mz_St → Option (Int32 × mz_St)) (hK15 : ∀ (x1 : Int32) (x2 : Int32) (x3 : Int32) (x4 : Int32) (t : mz_St), K15 x1 x2 x3 x4 t = some res → ∀ (H : Heap) (locs : List Loc) (ls : Array Slot), mz_Wd mz_tM 55 mz_cl dC dI ad en ca s t H locs → lv_has ls 7 [(0, .ref (ad 0)), (1, .int x1), (2, .int x2), (3, .int x3), (4, .int x4)] → W p l e r_MO_readTexts s m args below meth c H locs 0 0 (MQ below (mz_Q SX mz_tM 55 mz_cl dC dI ad en ca (some (.int res.1)) res.2) args s 0 0 (mz_A ad 55)) (F0 m 15 ls [])) : ∀ (x1 : Int32) (x2 : Int32) (x3 : Int32) (x4 : Int32) (x5 : Int32) (t : mz_St), f_MO_readTexts_114 n K15 x1 x2 x3 x4 x5 t = some res → ∀ (H : Heap) (locs : List Loc) (ls : Array Slot), mz_Wd mz_tM 55 mz_cl dC dI ad en ca s t H locs → lv_has ls 7 [(0, .ref (ad 0)), (1, .int x1), (2, .int x2), (3, .int x3), (4, .int x4), (5, .int x5)] → W p l e r_MO_readTexts s m args below meth c H locs 0 0 (MQ below (mz_Q SX mz_tM 55 mz_cl dC dI ad en ca (some (.int res.1)) res.2) args s 0 0 (mz_A ad 55)) (F0 m 114 ls []) := by
  obtain ⟨hx, hb, hml, hown, hcx, -, -, hSX, -, -, hSK⟩ := id E
  intro x1 x2 x3 x4 x5 t hf H locs ls w hl
  unfold f_MO_readTexts_114 at hf
  refine lv_iload hx hb d_MO_readTexts_114 (lv_at hl 5 rfl) ?_
  refine lv_bipush (v := (40 : Int32)) hx hb d_MO_readTexts_116 (by decide) ?_
  refine lv_icmp_ne (tgt := 127) hx hb d_MO_readTexts_118 (by decide) (fun hc6 => ?_) (fun hc6 => ?_)
  · have hf := mz_f hc6 hf
    refine lv_iload hx hb d_MO_readTexts_127 (lv_at hl 5 rfl) ?_
    refine lv_bipush (v := (41 : Int32)) hx hb d_MO_readTexts_129 (by decide) ?_
    refine lv_icmp_ne (tgt := 140) hx hb d_MO_readTexts_131 (by decide) (fun hc7 => ?_) (fun hc7 => ?_)
    · have hf := mz_f hc7 hf
      refine lv_iload_n hx hb d_MO_readTexts_140 rfl (lv_at hl 2 rfl) ?_
      exact b_MO_readTexts_141 E n K15 hK15 x1 x3 x4 x2 t hf _ _ _ w (lv_sub hl [0, 1, 3, 4] rfl)
    · have hf := mz_t hc7 hf
      refine lv_iload_n hx hb d_MO_readTexts_134 rfl (lv_at hl 2 rfl) ?_
      refine lv_iconst (v := (1 : Int32)) hx hb d_MO_readTexts_135 (by decide) ?_
      refine lv_isub hx hb d_MO_readTexts_136 ?_
      refine lv_goto (tgt := 141) hx hb d_MO_readTexts_137 (by decide) ?_
      exact b_MO_readTexts_141 E n K15 hK15 x1 x3 x4 (x2 - (1 : Int32)) t hf _ _ _ w (lv_sub hl [0, 1, 3, 4] rfl)
  · have hf := mz_t hc6 hf
    refine lv_iload_n hx hb d_MO_readTexts_121 rfl (lv_at hl 2 rfl) ?_
    refine lv_iconst (v := (1 : Int32)) hx hb d_MO_readTexts_122 (by decide) ?_
    refine lv_iadd hx hb d_MO_readTexts_123 ?_
    refine lv_goto (tgt := 141) hx hb d_MO_readTexts_124 (by decide) ?_
    exact b_MO_readTexts_141 E n K15 hK15 x1 x3 x4 (x2 + (1 : Int32)) t hf _ _ _ w (lv_sub hl [0, 1, 3, 4] rfl)
set_option maxRecDepth 100000 in
set_option maxHeartbeats 4000000 in
theorem b_MO_readTexts_96 {SX : State → Heap → Prop} {dC : Nat → ClassId} {dI : Nat → Nat → Nat} {ad en : Nat → Nat} {ca : Nat → ClassId} {p : Program} {l : Launch} {e : Env} {s : State} {m : MethodId} {args : Array Value} {below : List Frame} {meth : Method} {c : Code} {res : (Int32 × mz_St)} (E : mz_En SX 55 mz_cl dC dI ad ca p s m meth c prog_15_method_39_code 7 "MacroHouseModel" (some (.int))) (n : Nat) (K15 : Int32 → Int32 → Int32 → Int32 → mz_St → Option (Int32 × mz_St)) (hK15 : ∀ (x1 : Int32) (x2 : Int32) (x3 : Int32) (x4 : Int32) (t : mz_St), K15 x1 x2 x3 x4 t = some res → ∀ (H : Heap) (locs : List Loc) (ls : Array Slot), mz_Wd mz_tM 55 mz_cl dC dI ad en ca s t H locs → lv_has ls 7 [(0, .ref (ad 0)), (1, .int x1), (2, .int x2), (3, .int x3), (4, .int x4)] → W p l e r_MO_readTexts s m args below meth c H locs 0 0 (MQ below (mz_Q SX mz_tM 55 mz_cl dC dI ad en ca (some (.int res.1)) res.2) args s 0 0 (mz_A ad 55)) (F0 m 15 ls [])) : ∀ (x1 : Int32) (x2 : Int32) (x3 : Int32) (x4 : Int32) (x5 : Int32) (s1 : Int32) (t : mz_St), f_MO_readTexts_96 n K15 x1 x2 x3 x4 x5 s1 t = some res → ∀ (H : Heap) (locs : List Loc) (ls : Array Slot), mz_Wd mz_tM 55 mz_cl dC dI ad en ca s t H locs → lv_has ls 7 [(0, .ref (ad 0)), (1, .int x1), (2, .int x2), (3, .int x3), (4, .int x4), (5, .int x5)] → W p l e r_MO_readTexts s m args below meth c H locs 0 0 (MQ below (mz_Q SX mz_tM 55 mz_cl dC dI ad en ca (some (.int res.1)) res.2) args s 0 0 (mz_A ad 55)) (F0 m 96 ls [.int s1, .ref (ad 0)]) := by
  obtain ⟨hx, hb, hml, hown, hcx, -, -, hSX, -, -, hSK⟩ := id E
  intro x1 x2 x3 x4 x5 s1 t hf H locs ls w hl
  unfold f_MO_readTexts_96 at hf
  obtain ⟨hz13, hf⟩ := mz_gd hf
  refine mz_put E w 0 62 (v := s1) (by decide) rfl rfl ii_11 tk_11 nm_11 (by decide) (Nat.le_of_ble_eq_true rfl) k_1245 rfl (tk_11 62 (by decide)) rfl (mz_b01 hz13) rfl d_MO_readTexts_96 (fun H locs w => ?_)
  obtain ⟨t14, e_t14, hf⟩ := mz_lt hf
  rw [← e_t14] at w
  refine lv_aload_n hx hb d_MO_readTexts_99 rfl (lv_at hl 0 rfl) ?_
  refine lv_iload_n hx hb d_MO_readTexts_100 rfl (lv_at hl 3 rfl) ?_
  refine lv_iload hx hb d_MO_readTexts_101 (lv_at hl 4 rfl) ?_
  obtain ⟨q15, hq16, hf⟩ := mz_bd hf
  refine mz_callV E w (k := 0) (As := [.int x3, .int x4]) (rest := []) (c_MO_hold hSK l n x3 x4 t14 q15 hq16) (by decide) rfl rfl k_1632 k_15 k_1629 k_1631 ks_87 hm_MO_hold ⟨⟨rfl, rfl⟩, Nat.le_of_ble_eq_true rfl, Nat.le_of_ble_eq_true rfl⟩ rfl hl.1 rfl (Nat.le_of_ble_eq_true rfl) d_MO_readTexts_103 ⟨Nat.zero_le _, Nat.zero_le _⟩ (st1 := []) rfl (fun H locs w => ?_)
  refine lv_iinc (v := (x1 + (1 : Int32))) (lv' := [(1, .int (x1 + (1 : Int32))), (0, .ref (ad 0)), (2, .int x2), (3, .int x3), (4, .int x4), (5, .int x5)]) hx hb d_MO_readTexts_106 hl (k := 1) rfl rfl (by decide) rfl (fun ls hl => ?_)
  refine lv_iload hx hb d_MO_readTexts_109 (lv_at hl 4 rfl) ?_
  refine lv_iconst (v := (1 : Int32)) hx hb d_MO_readTexts_111 (by decide) ?_
  refine lv_iadd hx hb d_MO_readTexts_112 ?_
  refine lv_istore_n (lv' := [(3, .int (x4 + (1 : Int32))), (1, .int (x1 + (1 : Int32))), (0, .ref (ad 0)), (2, .int x2), (4, .int x4), (5, .int x5)]) hx hb d_MO_readTexts_113 rfl hl (by decide) rfl (fun ls hl => ?_)
  exact b_MO_readTexts_114 E n K15 hK15 (x1 + (1 : Int32)) x2 (x4 + (1 : Int32)) x4 x5 q15 hf _ _ _ w (lv_sub hl [2, 1, 3, 0, 4, 5] rfl)
set_option maxRecDepth 100000 in
set_option maxHeartbeats 4000000 in
theorem b_MO_readTexts_95 {SX : State → Heap → Prop} {dC : Nat → ClassId} {dI : Nat → Nat → Nat} {ad en : Nat → Nat} {ca : Nat → ClassId} {p : Program} {l : Launch} {e : Env} {s : State} {m : MethodId} {args : Array Value} {below : List Frame} {meth : Method} {c : Code} {res : (Int32 × mz_St)} (E : mz_En SX 55 mz_cl dC dI ad ca p s m meth c prog_15_method_39_code 7 "MacroHouseModel" (some (.int))) (n : Nat) (K15 : Int32 → Int32 → Int32 → Int32 → mz_St → Option (Int32 × mz_St)) (hK15 : ∀ (x1 : Int32) (x2 : Int32) (x3 : Int32) (x4 : Int32) (t : mz_St), K15 x1 x2 x3 x4 t = some res → ∀ (H : Heap) (locs : List Loc) (ls : Array Slot), mz_Wd mz_tM 55 mz_cl dC dI ad en ca s t H locs → lv_has ls 7 [(0, .ref (ad 0)), (1, .int x1), (2, .int x2), (3, .int x3), (4, .int x4)] → W p l e r_MO_readTexts s m args below meth c H locs 0 0 (MQ below (mz_Q SX mz_tM 55 mz_cl dC dI ad en ca (some (.int res.1)) res.2) args s 0 0 (mz_A ad 55)) (F0 m 15 ls [])) : ∀ (x1 : Int32) (x2 : Int32) (x3 : Int32) (x4 : Int32) (x5 : Int32) (t : mz_St), f_MO_readTexts_95 n K15 x1 x2 x3 x4 x5 t = some res → ∀ (H : Heap) (locs : List Loc) (ls : Array Slot), mz_Wd mz_tM 55 mz_cl dC dI ad en ca s t H locs → lv_has ls 7 [(0, .ref (ad 0)), (1, .int x1), (2, .int x2), (3, .int x3), (4, .int x4), (5, .int x5)] → W p l e r_MO_readTexts s m args below meth c H locs 0 0 (MQ below (mz_Q SX mz_tM 55 mz_cl dC dI ad en ca (some (.int res.1)) res.2) args s 0 0 (mz_A ad 55)) (F0 m 95 ls [.ref (ad 0)]) := by
  obtain ⟨hx, hb, hml, hown, hcx, -, -, hSX, -, -, hSK⟩ := id E
  intro x1 x2 x3 x4 x5 t hf H locs ls w hl
  unfold f_MO_readTexts_95 at hf
  refine lv_iconst (v := (0 : Int32)) hx hb d_MO_readTexts_95 (by decide) ?_
  exact b_MO_readTexts_96 E n K15 hK15 x1 x2 x3 x4 x5 (0 : Int32) t hf _ _ _ w (lv_sub hl [0, 1, 2, 3, 4, 5] rfl)
set_option maxRecDepth 100000 in
set_option maxHeartbeats 4000000 in
theorem b_MO_readTexts_72 {SX : State → Heap → Prop} {dC : Nat → ClassId} {dI : Nat → Nat → Nat} {ad en : Nat → Nat} {ca : Nat → ClassId} {p : Program} {l : Launch} {e : Env} {s : State} {m : MethodId} {args : Array Value} {below : List Frame} {meth : Method} {c : Code} {res : (Int32 × mz_St)} (E : mz_En SX 55 mz_cl dC dI ad ca p s m meth c prog_15_method_39_code 7 "MacroHouseModel" (some (.int))) (n : Nat) (K15 : Int32 → Int32 → Int32 → Int32 → mz_St → Option (Int32 × mz_St)) (hK15 : ∀ (x1 : Int32) (x2 : Int32) (x3 : Int32) (x4 : Int32) (t : mz_St), K15 x1 x2 x3 x4 t = some res → ∀ (H : Heap) (locs : List Loc) (ls : Array Slot), mz_Wd mz_tM 55 mz_cl dC dI ad en ca s t H locs → lv_has ls 7 [(0, .ref (ad 0)), (1, .int x1), (2, .int x2), (3, .int x3), (4, .int x4)] → W p l e r_MO_readTexts s m args below meth c H locs 0 0 (MQ below (mz_Q SX mz_tM 55 mz_cl dC dI ad en ca (some (.int res.1)) res.2) args s 0 0 (mz_A ad 55)) (F0 m 15 ls [])) : ∀ (x1 : Int32) (x2 : Int32) (x3 : Int32) (x4 : Int32) (x5 : Int32) (s0 : Int32) (t : mz_St), f_MO_readTexts_72 n K15 x1 x2 x3 x4 x5 s0 t = some res → ∀ (H : Heap) (locs : List Loc) (ls : Array Slot), mz_Wd mz_tM 55 mz_cl dC dI ad en ca s t H locs → lv_has ls 7 [(0, .ref (ad 0)), (1, .int x1), (2, .int x2), (3, .int x3), (4, .int x4), (5, .int x5)] → W p l e r_MO_readTexts s m args below meth c H locs 0 0 (MQ below (mz_Q SX mz_tM 55 mz_cl dC dI ad en ca (some (.int res.1)) res.2) args s 0 0 (mz_A ad 55)) (F0 m 72 ls [.int s0]) := by
  obtain ⟨hx, hb, hml, hown, hcx, -, -, hSX, -, -, hSK⟩ := id E
  intro x1 x2 x3 x4 x5 s0 t hf H locs ls w hl
  unfold f_MO_readTexts_72 at hf
  refine lv_istore (lv' := [(6, .int s0), (0, .ref (ad 0)), (1, .int x1), (2, .int x2), (3, .int x3), (4, .int x4), (5, .int x5)]) hx hb d_MO_readTexts_72 hl (by decide) rfl (fun ls hl => ?_)
  refine lv_iload hx hb d_MO_readTexts_74 (lv_at hl 0 rfl) ?_
  refine lv_if_eq (tgt := 114) hx hb d_MO_readTexts_76 (by decide) (fun hc5 => ?_) (fun hc5 => ?_)
  · have hf := mz_t hc5 hf
    exact b_MO_readTexts_114 E n K15 hK15 x1 x2 x3 x4 x5 t hf _ _ _ w (lv_sub hl [1, 2, 3, 4, 5, 6] rfl)
  · have hf := mz_f hc5 hf
    refine lv_aload_n hx hb d_MO_readTexts_79 rfl (lv_at hl 1 rfl) ?_
    refine lv_aload_n hx hb d_MO_readTexts_80 rfl (lv_at hl 1 rfl) ?_
    refine mz_get E w 0 62 (v := .int (mz_gI t 0 62)) (by decide) rfl rfl ii_11 (by decide) (Nat.le_of_ble_eq_true rfl) k_1245 rfl d_MO_readTexts_81 ?_
    refine lv_if_eq (tgt := 95) hx hb d_MO_readTexts_84 (by decide) (fun hc12 => ?_) (fun hc12 => ?_)
    · have hf := mz_t hc12 hf
      exact b_MO_readTexts_95 E n K15 hK15 x1 x2 x3 x4 x5 t hf _ _ _ w (lv_sub hl [1, 2, 3, 4, 5, 6] rfl)
    · have hf := mz_f hc12 hf
      refine lv_iload_n hx hb d_MO_readTexts_87 rfl (lv_at hl 3 rfl) ?_
      refine lv_if_ne (tgt := 95) hx hb d_MO_readTexts_88 (by decide) (fun hc17 => ?_) (fun hc17 => ?_)
      · have hf := mz_f hc17 hf
        exact b_MO_readTexts_95 E n K15 hK15 x1 x2 x3 x4 x5 t hf _ _ _ w (lv_sub hl [1, 2, 3, 4, 5, 6] rfl)
      · have hf := mz_t hc17 hf
        refine lv_iconst (v := (1 : Int32)) hx hb d_MO_readTexts_91 (by decide) ?_
        refine lv_goto (tgt := 96) hx hb d_MO_readTexts_92 (by decide) ?_
        exact b_MO_readTexts_96 E n K15 hK15 x1 x2 x3 x4 x5 (1 : Int32) t hf _ _ _ w (lv_sub hl [1, 2, 3, 4, 5, 6] rfl)
set_option maxRecDepth 100000 in
set_option maxHeartbeats 4000000 in
theorem b_MO_readTexts_71 {SX : State → Heap → Prop} {dC : Nat → ClassId} {dI : Nat → Nat → Nat} {ad en : Nat → Nat} {ca : Nat → ClassId} {p : Program} {l : Launch} {e : Env} {s : State} {m : MethodId} {args : Array Value} {below : List Frame} {meth : Method} {c : Code} {res : (Int32 × mz_St)} (E : mz_En SX 55 mz_cl dC dI ad ca p s m meth c prog_15_method_39_code 7 "MacroHouseModel" (some (.int))) (n : Nat) (K15 : Int32 → Int32 → Int32 → Int32 → mz_St → Option (Int32 × mz_St)) (hK15 : ∀ (x1 : Int32) (x2 : Int32) (x3 : Int32) (x4 : Int32) (t : mz_St), K15 x1 x2 x3 x4 t = some res → ∀ (H : Heap) (locs : List Loc) (ls : Array Slot), mz_Wd mz_tM 55 mz_cl dC dI ad en ca s t H locs → lv_has ls 7 [(0, .ref (ad 0)), (1, .int x1), (2, .int x2), (3, .int x3), (4, .int x4)] → W p l e r_MO_readTexts s m args below meth c H locs 0 0 (MQ below (mz_Q SX mz_tM 55 mz_cl dC dI ad en ca (some (.int res.1)) res.2) args s 0 0 (mz_A ad 55)) (F0 m 15 ls [])) : ∀ (x1 : Int32) (x2 : Int32) (x3 : Int32) (x4 : Int32) (x5 : Int32) (t : mz_St), f_MO_readTexts_71 n K15 x1 x2 x3 x4 x5 t = some res → ∀ (H : Heap) (locs : List Loc) (ls : Array Slot), mz_Wd mz_tM 55 mz_cl dC dI ad en ca s t H locs → lv_has ls 7 [(0, .ref (ad 0)), (1, .int x1), (2, .int x2), (3, .int x3), (4, .int x4), (5, .int x5)] → W p l e r_MO_readTexts s m args below meth c H locs 0 0 (MQ below (mz_Q SX mz_tM 55 mz_cl dC dI ad en ca (some (.int res.1)) res.2) args s 0 0 (mz_A ad 55)) (F0 m 71 ls []) := by
  obtain ⟨hx, hb, hml, hown, hcx, -, -, hSX, -, -, hSK⟩ := id E
  intro x1 x2 x3 x4 x5 t hf H locs ls w hl
  unfold f_MO_readTexts_71 at hf
  refine lv_iconst (v := (0 : Int32)) hx hb d_MO_readTexts_71 (by decide) ?_
  exact b_MO_readTexts_72 E n K15 hK15 x1 x2 x3 x4 x5 (0 : Int32) t hf _ _ _ w (lv_sub hl [0, 1, 2, 3, 4, 5] rfl)
set_option maxRecDepth 100000 in
set_option maxHeartbeats 4000000 in
theorem b_MO_readTexts_67 {SX : State → Heap → Prop} {dC : Nat → ClassId} {dI : Nat → Nat → Nat} {ad en : Nat → Nat} {ca : Nat → ClassId} {p : Program} {l : Launch} {e : Env} {s : State} {m : MethodId} {args : Array Value} {below : List Frame} {meth : Method} {c : Code} {res : (Int32 × mz_St)} (E : mz_En SX 55 mz_cl dC dI ad ca p s m meth c prog_15_method_39_code 7 "MacroHouseModel" (some (.int))) (n : Nat) (K15 : Int32 → Int32 → Int32 → Int32 → mz_St → Option (Int32 × mz_St)) (hK15 : ∀ (x1 : Int32) (x2 : Int32) (x3 : Int32) (x4 : Int32) (t : mz_St), K15 x1 x2 x3 x4 t = some res → ∀ (H : Heap) (locs : List Loc) (ls : Array Slot), mz_Wd mz_tM 55 mz_cl dC dI ad en ca s t H locs → lv_has ls 7 [(0, .ref (ad 0)), (1, .int x1), (2, .int x2), (3, .int x3), (4, .int x4)] → W p l e r_MO_readTexts s m args below meth c H locs 0 0 (MQ below (mz_Q SX mz_tM 55 mz_cl dC dI ad en ca (some (.int res.1)) res.2) args s 0 0 (mz_A ad 55)) (F0 m 15 ls [])) : ∀ (x1 : Int32) (x2 : Int32) (x3 : Int32) (x4 : Int32) (x5 : Int32) (t : mz_St), f_MO_readTexts_67 n K15 x1 x2 x3 x4 x5 t = some res → ∀ (H : Heap) (locs : List Loc) (ls : Array Slot), mz_Wd mz_tM 55 mz_cl dC dI ad en ca s t H locs → lv_has ls 7 [(0, .ref (ad 0)), (1, .int x1), (2, .int x2), (3, .int x3), (4, .int x4), (5, .int x5)] → W p l e r_MO_readTexts s m args below meth c H locs 0 0 (MQ below (mz_Q SX mz_tM 55 mz_cl dC dI ad en ca (some (.int res.1)) res.2) args s 0 0 (mz_A ad 55)) (F0 m 67 ls []) := by
  obtain ⟨hx, hb, hml, hown, hcx, -, -, hSX, -, -, hSK⟩ := id E
  intro x1 x2 x3 x4 x5 t hf H locs ls w hl
  unfold f_MO_readTexts_67 at hf
  refine lv_iconst (v := (1 : Int32)) hx hb d_MO_readTexts_67 (by decide) ?_
  refine lv_goto (tgt := 72) hx hb d_MO_readTexts_68 (by decide) ?_
  exact b_MO_readTexts_72 E n K15 hK15 x1 x2 x3 x4 x5 (1 : Int32) t hf _ _ _ w (lv_sub hl [0, 1, 2, 3, 4, 5] rfl)
set_option maxRecDepth 100000 in
set_option maxHeartbeats 4000000 in
theorem b_MO_readTexts_45 {SX : State → Heap → Prop} {dC : Nat → ClassId} {dI : Nat → Nat → Nat} {ad en : Nat → Nat} {ca : Nat → ClassId} {p : Program} {l : Launch} {e : Env} {s : State} {m : MethodId} {args : Array Value} {below : List Frame} {meth : Method} {c : Code} {res : (Int32 × mz_St)} (E : mz_En SX 55 mz_cl dC dI ad ca p s m meth c prog_15_method_39_code 7 "MacroHouseModel" (some (.int))) (n : Nat) (K15 : Int32 → Int32 → Int32 → Int32 → mz_St → Option (Int32 × mz_St)) (hK15 : ∀ (x1 : Int32) (x2 : Int32) (x3 : Int32) (x4 : Int32) (t : mz_St), K15 x1 x2 x3 x4 t = some res → ∀ (H : Heap) (locs : List Loc) (ls : Array Slot), mz_Wd mz_tM 55 mz_cl dC dI ad en ca s t H locs → lv_has ls 7 [(0, .ref (ad 0)), (1, .int x1), (2, .int x2), (3, .int x3), (4, .int x4)] → W p l e r_MO_readTexts s m args below meth c H locs 0 0 (MQ below (mz_Q SX mz_tM 55 mz_cl dC dI ad en ca (some (.int res.1)) res.2) args s 0 0 (mz_A ad 55)) (F0 m 15 ls [])) : ∀ (x1 : Int32) (x2 : Int32) (x3 : Int32) (x4 : Int32) (s0 : Int32) (t : mz_St), f_MO_readTexts_45 n K15 x1 x2 x3 x4 s0 t = some res → ∀ (H : Heap) (locs : List Loc) (ls : Array Slot), mz_Wd mz_tM 55 mz_cl dC dI ad en ca s t H locs → lv_has ls 7 [(0, .ref (ad 0)), (1, .int x1), (2, .int x2), (3, .int x3), (4, .int x4)] → W p l e r_MO_readTexts s m args below meth c H locs 0 0 (MQ below (mz_Q SX mz_tM 55 mz_cl dC dI ad en ca (some (.int res.1)) res.2) args s 0 0 (mz_A ad 55)) (F0 m 45 ls [.int s0]) := by
  obtain ⟨hx, hb, hml, hown, hcx, -, -, hSX, -, -, hSK⟩ := id E
  intro x1 x2 x3 x4 s0 t hf H locs ls w hl
  unfold f_MO_readTexts_45 at hf
  refine lv_istore (lv' := [(5, .int s0), (0, .ref (ad 0)), (1, .int x1), (2, .int x2), (3, .int x3), (4, .int x4)]) hx hb d_MO_readTexts_45 hl (by decide) rfl (fun ls hl => ?_)
  refine lv_iload hx hb d_MO_readTexts_47 (lv_at hl 0 rfl) ?_
  refine lv_bipush (v := (44 : Int32)) hx hb d_MO_readTexts_49 (by decide) ?_
  refine lv_icmp_ne (tgt := 71) hx hb d_MO_readTexts_51 (by decide) (fun hc4 => ?_) (fun hc4 => ?_)
  · have hf := mz_f hc4 hf
    exact b_MO_readTexts_71 E n K15 hK15 x1 x2 x3 x4 s0 t hf _ _ _ w (lv_sub hl [1, 2, 3, 4, 5, 0] rfl)
  · have hf := mz_t hc4 hf
    refine lv_iload_n hx hb d_MO_readTexts_54 rfl (lv_at hl 3 rfl) ?_
    refine lv_if_eq (tgt := 67) hx hb d_MO_readTexts_55 (by decide) (fun hc18 => ?_) (fun hc18 => ?_)
    · have hf := mz_t hc18 hf
      exact b_MO_readTexts_67 E n K15 hK15 x1 x2 x3 x4 s0 t hf _ _ _ w (lv_sub hl [1, 2, 3, 4, 5, 0] rfl)
    · have hf := mz_f hc18 hf
      refine lv_iload hx hb d_MO_readTexts_58 (lv_at hl 5 rfl) ?_
      refine lv_aload_n hx hb d_MO_readTexts_60 rfl (lv_at hl 1 rfl) ?_
      refine mz_get E w 0 60 (v := .int (mz_gI t 0 60)) (by decide) rfl rfl ii_11 (by decide) (Nat.le_of_ble_eq_true rfl) k_1243 rfl d_MO_readTexts_61 ?_
      refine lv_icmp_ne (tgt := 71) hx hb d_MO_readTexts_64 (by decide) (fun hc19 => ?_) (fun hc19 => ?_)
      · have hf := mz_f hc19 hf
        exact b_MO_readTexts_71 E n K15 hK15 x1 x2 x3 x4 s0 t hf _ _ _ w (lv_sub hl [1, 2, 3, 4, 5, 0] rfl)
      · have hf := mz_t hc19 hf
        exact b_MO_readTexts_67 E n K15 hK15 x1 x2 x3 x4 s0 t hf _ _ _ w (lv_sub hl [1, 2, 3, 4, 5, 0] rfl)
set_option maxRecDepth 100000 in
set_option maxHeartbeats 4000000 in
theorem b_MO_readTexts_15 {SX : State → Heap → Prop} {dC : Nat → ClassId} {dI : Nat → Nat → Nat} {ad en : Nat → Nat} {ca : Nat → ClassId} {p : Program} {l : Launch} {e : Env} {s : State} {m : MethodId} {args : Array Value} {below : List Frame} {meth : Method} {c : Code} {res : (Int32 × mz_St)} (E : mz_En SX 55 mz_cl dC dI ad ca p s m meth c prog_15_method_39_code 7 "MacroHouseModel" (some (.int))) (n : Nat) (k : Nat) : ∀ (x1 : Int32) (x2 : Int32) (x3 : Int32) (x4 : Int32) (t : mz_St), f_MO_readTexts_15 n k x1 x2 x3 x4 t = some res → ∀ (H : Heap) (locs : List Loc) (ls : Array Slot), mz_Wd mz_tM 55 mz_cl dC dI ad en ca s t H locs → lv_has ls 7 [(0, .ref (ad 0)), (1, .int x1), (2, .int x2), (3, .int x3), (4, .int x4)] → W p l e r_MO_readTexts s m args below meth c H locs 0 0 (MQ below (mz_Q SX mz_tM 55 mz_cl dC dI ad en ca (some (.int res.1)) res.2) args s 0 0 (mz_A ad 55)) (F0 m 15 ls []) := by
  obtain ⟨hx, hb, hml, hown, hcx, -, -, hSX, -, -, hSK⟩ := id E
  induction k with
  | zero => intro x1 x2 x3 x4 t hf; exact absurd hf (by unfold f_MO_readTexts_15; exact fun h => nomatch h)
  | succ k ih =>
    intro x1 x2 x3 x4 t hf H locs ls w hl
    unfold f_MO_readTexts_15 at hf
    refine lv_iload hx hb d_MO_readTexts_15 (lv_at hl 4 rfl) ?_
    refine lv_aload_n hx hb d_MO_readTexts_17 rfl (lv_at hl 0 rfl) ?_
    refine mz_get E w 0 60 (v := .int (mz_gI t 0 60)) (by decide) rfl rfl ii_11 (by decide) (Nat.le_of_ble_eq_true rfl) k_1243 rfl d_MO_readTexts_18 ?_
    refine lv_icmp_gt (tgt := 168) hx hb d_MO_readTexts_21 (by decide) (fun hc1 => ?_) (fun hc1 => ?_)
    · have hf := mz_t hc1 hf
      refine lv_aload_n hx hb d_MO_readTexts_168 rfl (lv_at hl 0 rfl) ?_
      refine lv_aload_n hx hb d_MO_readTexts_169 rfl (lv_at hl 0 rfl) ?_
      refine mz_get E w 0 60 (v := .int (mz_gI t 0 60)) (by decide) rfl rfl ii_11 (by decide) (Nat.le_of_ble_eq_true rfl) k_1243 rfl d_MO_readTexts_170 ?_
      refine mz_put E w 0 61 (v := (mz_gI t 0 60)) (by decide) rfl rfl ii_11 tk_11 nm_11 (by decide) (Nat.le_of_ble_eq_true rfl) k_1244 rfl (tk_11 61 (by decide)) rfl rfl rfl d_MO_readTexts_173 (fun H locs w => ?_)
      obtain ⟨t2, e_t2, hf⟩ := mz_lt hf
      rw [← e_t2] at w
      refine lv_iload_n hx hb d_MO_readTexts_176 rfl (lv_at hl 1 rfl) ?_
      obtain rfl := Option.some.inj hf
      exact mz_iret E w rfl d_MO_readTexts_177
    · have hf := mz_f hc1 hf
      refine lv_iload hx hb d_MO_readTexts_24 (lv_at hl 4 rfl) ?_
      refine lv_aload_n hx hb d_MO_readTexts_26 rfl (lv_at hl 0 rfl) ?_
      refine mz_get E w 0 60 (v := .int (mz_gI t 0 60)) (by decide) rfl rfl ii_11 (by decide) (Nat.le_of_ble_eq_true rfl) k_1243 rfl d_MO_readTexts_27 ?_
      refine lv_icmp_ge (tgt := 43) hx hb d_MO_readTexts_30 (by decide) (fun hc3 => ?_) (fun hc3 => ?_)
      · have hf := mz_t hc3 hf
        refine lv_bipush (v := (44 : Int32)) hx hb d_MO_readTexts_43 (by decide) ?_
        exact b_MO_readTexts_45 E n (f_MO_readTexts_15 n k) ih x1 x2 x3 x4 (44 : Int32) t hf _ _ _ w (lv_sub hl [0, 1, 2, 3, 4] rfl)
      · have hf := mz_f hc3 hf
        refine lv_aload_n hx hb d_MO_readTexts_33 rfl (lv_at hl 0 rfl) ?_
        refine mz_get E w 0 59 (v := .ref (ad 43)) (by decide) rfl rfl ii_11 (by decide) (Nat.le_of_ble_eq_true rfl) k_1242 rfl d_MO_readTexts_34 ?_
        refine lv_iload hx hb d_MO_readTexts_37 (lv_at hl 4 rfl) ?_
        obtain ⟨hi20, hf⟩ := mz_gd hf
        refine mz_iald E w 43 (by decide) rfl hi20 d_MO_readTexts_39 ?_
        refine lv_goto (tgt := 45) hx hb d_MO_readTexts_40 (by decide) ?_
        exact b_MO_readTexts_45 E n (f_MO_readTexts_15 n k) ih x1 x2 x3 x4 (mz_gI t 43 x4.toNatClampNeg) t hf _ _ _ w (lv_sub hl [0, 1, 2, 3, 4] rfl)
set_option maxRecDepth 100000 in
set_option maxHeartbeats 4000000 in
theorem c_MO_readTexts {SX : State → Heap → Prop} {dC : Nat → ClassId} {dI : Nat → Nat → Nat} {ad en : Nat → Nat} {ca : Nat → ClassId} (hSK : mz_SK SX ad 55) (l : Launch) (n : Nat) (t : mz_St) (res : (Int32 × mz_St)) (hf : f_MO_readTexts n t = some res) : mz_C SX mz_tM 55 mz_cl dC dI ad en ca l y_MO_readTexts prog_15_method_39_code 7 (some (.int)) r_MO_readTexts [.ref (ad 0)] t (some (.int res.1)) res.2 := by
  unfold f_MO_readTexts at hf
  refine mz_met hSK (by decide) (Nat.le_of_ble_eq_true rfl) ?_
  intro p e s m args below meth c ls E w hl
  obtain ⟨hx, hb, hml, hown, hcx, -, -, hSX, -, -, -⟩ := id E
  have hl : lv_has ls 7 [(0, .ref (ad 0))] := hl
  refine lv_iconst (v := (0 : Int32)) hx hb d_MO_readTexts_0 (by decide) ?_
  refine lv_istore_n (lv' := [(1, .int (0 : Int32)), (0, .ref (ad 0))]) hx hb d_MO_readTexts_1 rfl hl (by decide) rfl (fun ls hl => ?_)
  refine lv_iconst (v := (0 : Int32)) hx hb d_MO_readTexts_2 (by decide) ?_
  refine lv_istore_n (lv' := [(2, .int (0 : Int32)), (1, .int (0 : Int32)), (0, .ref (ad 0))]) hx hb d_MO_readTexts_3 rfl hl (by decide) rfl (fun ls hl => ?_)
  refine lv_aload_n hx hb d_MO_readTexts_4 rfl (lv_at hl 2 rfl) ?_
  refine mz_get E w 0 61 (v := .int (mz_gI t 0 61)) (by decide) rfl rfl ii_11 (by decide) (Nat.le_of_ble_eq_true rfl) k_1244 rfl d_MO_readTexts_5 ?_
  refine lv_istore_n (lv' := [(3, .int (mz_gI t 0 61)), (2, .int (0 : Int32)), (1, .int (0 : Int32)), (0, .ref (ad 0))]) hx hb d_MO_readTexts_8 rfl hl (by decide) rfl (fun ls hl => ?_)
  refine lv_aload_n hx hb d_MO_readTexts_9 rfl (lv_at hl 3 rfl) ?_
  refine mz_get E w 0 61 (v := .int (mz_gI t 0 61)) (by decide) rfl rfl ii_11 (by decide) (Nat.le_of_ble_eq_true rfl) k_1244 rfl d_MO_readTexts_10 ?_
  refine lv_istore (lv' := [(4, .int (mz_gI t 0 61)), (3, .int (mz_gI t 0 61)), (2, .int (0 : Int32)), (1, .int (0 : Int32)), (0, .ref (ad 0))]) hx hb d_MO_readTexts_13 hl (by decide) rfl (fun ls hl => ?_)
  exact b_MO_readTexts_15 E n n (0 : Int32) (0 : Int32) (mz_gI t 0 61) (mz_gI t 0 61) t hf _ _ _ w (lv_sub hl [4, 3, 2, 1, 0] rfl)

/-! MacroHouseModel.each()V -/
abbrev r_MO_each : Room := { frames := 4, cells := 0, slots := 0, locals := 89 }
def f_MO_each_47 (n : Nat) (x1 : Int64) (x3 : Int64) (x5 : Int32) (x6 : Int32) (s0 : Int32) (t : mz_St) : Option mz_St := if (mz_gI t 0 62) = 0 then ((f_MO_fail n (1 : Int32) (mz_gI t 0 63) t).bind fun q22 => some q22) else (if ¬ (((mz_gI t 0 34) - (1 : Int32)) < 0 ∨ 14 ≤ ((mz_gI t 0 34) - (1 : Int32)).toNatClampNeg) then ((f_MO_bracketEnd n ((mz_gI t 0 34) - (1 : Int32)) t).bind fun q8 => if 0 ≤ q8.1 then (if ¬ (((mz_gI t 0 34) - (1 : Int32)) < 0 ∨ 14 ≤ ((mz_gI t 0 34) - (1 : Int32)).toNatClampNeg) then (mz_let (mz_pI q8.2 25 ((mz_gI t 0 34) - (1 : Int32)).toNatClampNeg q8.1) fun t12 => if (mz_gI t12 0 34) ≤ (12 : Int32) then (if ¬ ((mz_gI t12 0 34) < 0 ∨ 14 ≤ (mz_gI t12 0 34).toNatClampNeg) then (mz_let (mz_pL t12 33 (mz_gI t12 0 34).toNatClampNeg x1) fun t15 => if ¬ ((mz_gI t15 0 34) < 0 ∨ 14 ≤ (mz_gI t15 0 34).toNatClampNeg) then (mz_let (mz_pL t15 34 (mz_gI t15 0 34).toNatClampNeg x3) fun t17 => (f_MO_beginFrame n (3 : Int32) (mz_gI t 25 ((mz_gI t 0 34) - (1 : Int32)).toNatClampNeg) (q8.1 - (1 : Int32)) s0 x5 x6 t17).bind fun q18 => some q18) else none) else none) else ((f_MO_fail n (6 : Int32) (mz_gI t12 0 63) t12).bind fun q20 => some q20)) else none) else (some q8.2)) else none)
def f_MO_each (n : Nat) (t : mz_St) : Option mz_St := (f_MO_word n t).bind fun q1 => (f_MO_sign n (44 : Int32) q1).bind fun q3 => if (mz_gI q3 0 62) = 0 then (f_MO_each_47 n (mz_gL q1 0 65) (mz_gL q1 0 66) (mz_gI q3 0 48) (mz_gI q3 0 51) (0 : Int32) q3) else ((f_MO_readTexts n q3).bind fun q24 => f_MO_each_47 n (mz_gL q1 0 65) (mz_gL q1 0 66) (mz_gI q3 0 48) (mz_gI q3 0 51) q24.1 q24.2)
set_option maxRecDepth 100000 in
set_option maxHeartbeats 4000000 in
theorem b_MO_each_47 {SX : State → Heap → Prop} {dC : Nat → ClassId} {dI : Nat → Nat → Nat} {ad en : Nat → Nat} {ca : Nat → ClassId} {p : Program} {l : Launch} {e : Env} {s : State} {m : MethodId} {args : Array Value} {below : List Frame} {meth : Method} {c : Code} {res : mz_St} (E : mz_En SX 55 mz_cl dC dI ad ca p s m meth c prog_15_method_45_code 11 "MacroHouseModel" none) (n : Nat) : ∀ (x1 : Int64) (x3 : Int64) (x5 : Int32) (x6 : Int32) (s0 : Int32) (t : mz_St), f_MO_each_47 n x1 x3 x5 x6 s0 t = some res → ∀ (H : Heap) (locs : List Loc) (ls : Array Slot), mz_Wd mz_tM 55 mz_cl dC dI ad en ca s t H locs → lv_has ls 11 [(0, .ref (ad 0)), (1, .long x1), (3, .long x3), (5, .int x5), (6, .int x6)] → W p l e r_MO_each s m args below meth c H locs 0 0 (MQ below (mz_Q SX mz_tM 55 mz_cl dC dI ad en ca none res) args s 0 0 (mz_A ad 55)) (F0 m 47 ls [.int s0]) := by
  obtain ⟨hx, hb, hml, hown, hcx, -, -, hSX, -, -, hSK⟩ := id E
  intro x1 x3 x5 x6 s0 t hf H locs ls w hl
  unfold f_MO_each_47 at hf
  refine lv_istore (lv' := [(7, .int s0), (0, .ref (ad 0)), (1, .long x1), (3, .long x3), (5, .int x5), (6, .int x6)]) hx hb d_MO_each_47 hl (by decide) rfl (fun ls hl => ?_)
  refine lv_aload_n hx hb d_MO_each_49 rfl (lv_at hl 1 rfl) ?_
  refine mz_get E w 0 62 (v := .int (mz_gI t 0 62)) (by decide) rfl rfl ii_11 (by decide) (Nat.le_of_ble_eq_true rfl) k_1245 rfl d_MO_each_50 ?_
  refine lv_if_ne (tgt := 66) hx hb d_MO_each_53 (by decide) (fun hc6 => ?_) (fun hc6 => ?_)
  · have hf := mz_f hc6 hf
    refine lv_aload_n hx hb d_MO_each_66 rfl (lv_at hl 1 rfl) ?_
    refine mz_get E w 0 34 (v := .int (mz_gI t 0 34)) (by decide) rfl rfl ii_11 (by decide) (Nat.le_of_ble_eq_true rfl) k_1217 rfl d_MO_each_67 ?_
    refine lv_iconst (v := (1 : Int32)) hx hb d_MO_each_70 (by decide) ?_
    refine lv_isub hx hb d_MO_each_71 ?_
    refine lv_istore (lv' := [(8, .int ((mz_gI t 0 34) - (1 : Int32))), (7, .int s0), (0, .ref (ad 0)), (1, .long x1), (3, .long x3), (5, .int x5), (6, .int x6)]) hx hb d_MO_each_72 hl (by decide) rfl (fun ls hl => ?_)
    refine lv_aload_n hx hb d_MO_each_74 rfl (lv_at hl 2 rfl) ?_
    refine mz_get E w 0 38 (v := .ref (ad 25)) (by decide) rfl rfl ii_11 (by decide) (Nat.le_of_ble_eq_true rfl) k_1221 rfl d_MO_each_75 ?_
    refine lv_iload hx hb d_MO_each_78 (lv_at hl 0 rfl) ?_
    obtain ⟨hi7, hf⟩ := mz_gd hf
    refine mz_iald E w 25 (by decide) rfl hi7 d_MO_each_80 ?_
    refine lv_istore (lv' := [(9, .int (mz_gI t 25 ((mz_gI t 0 34) - (1 : Int32)).toNatClampNeg)), (8, .int ((mz_gI t 0 34) - (1 : Int32))), (7, .int s0), (0, .ref (ad 0)), (1, .long x1), (3, .long x3), (5, .int x5), (6, .int x6)]) hx hb d_MO_each_81 hl (by decide) rfl (fun ls hl => ?_)
    refine lv_aload_n hx hb d_MO_each_83 rfl (lv_at hl 3 rfl) ?_
    refine lv_iload hx hb d_MO_each_84 (lv_at hl 1 rfl) ?_
    obtain ⟨q8, hq9, hf⟩ := mz_bd hf
    refine mz_callV E w (k := 0) (As := [.int ((mz_gI t 0 34) - (1 : Int32))]) (rest := []) (c_MO_bracketEnd hSK l n ((mz_gI t 0 34) - (1 : Int32)) t q8 hq9) (by decide) rfl rfl k_1656 k_15 k_1653 k_1655 ks_93 hm_MO_bracketEnd ⟨⟨rfl, rfl⟩, Nat.le_of_ble_eq_true rfl, Nat.le_of_ble_eq_true rfl⟩ rfl hl.1 rfl (Nat.le_of_ble_eq_true rfl) d_MO_each_86 ⟨Nat.zero_le _, Nat.zero_le _⟩ (st1 := [.int q8.1]) rfl (fun H locs w => ?_)
    refine lv_istore (lv' := [(10, .int q8.1), (9, .int (mz_gI t 25 ((mz_gI t 0 34) - (1 : Int32)).toNatClampNeg)), (8, .int ((mz_gI t 0 34) - (1 : Int32))), (7, .int s0), (0, .ref (ad 0)), (1, .long x1), (3, .long x3), (5, .int x5), (6, .int x6)]) hx hb d_MO_each_89 hl (by decide) rfl (fun ls hl => ?_)
    refine lv_iload hx hb d_MO_each_91 (lv_at hl 0 rfl) ?_
    refine lv_if_ge (tgt := 97) hx hb d_MO_each_93 (by decide) (fun hc10 => ?_) (fun hc10 => ?_)
    · have hf := mz_t hc10 hf
      refine lv_aload_n hx hb d_MO_each_97 rfl (lv_at hl 4 rfl) ?_
      refine mz_get E w 0 38 (v := .ref (ad 25)) (by decide) rfl rfl ii_11 (by decide) (Nat.le_of_ble_eq_true rfl) k_1221 rfl d_MO_each_98 ?_
      refine lv_iload hx hb d_MO_each_101 (lv_at hl 2 rfl) ?_
      refine lv_iload hx hb d_MO_each_103 (lv_at hl 0 rfl) ?_
      obtain ⟨hi11, hf⟩ := mz_gd hf
      refine mz_iast E w 25 (x := q8.1) (by decide) rfl hi11 d_MO_each_105 (fun H locs w => ?_)
      obtain ⟨t12, e_t12, hf⟩ := mz_lt hf
      rw [← e_t12] at w
      refine lv_aload_n hx hb d_MO_each_106 rfl (lv_at hl 4 rfl) ?_
      refine mz_get E w 0 34 (v := .int (mz_gI t12 0 34)) (by decide) rfl rfl ii_11 (by decide) (Nat.le_of_ble_eq_true rfl) k_1217 rfl d_MO_each_107 ?_
      refine lv_bipush (v := (12 : Int32)) hx hb d_MO_each_110 (by decide) ?_
      refine lv_icmp_le (tgt := 126) hx hb d_MO_each_112 (by decide) (fun hc13 => ?_) (fun hc13 => ?_)
      · have hf := mz_t hc13 hf
        refine lv_aload_n hx hb d_MO_each_126 rfl (lv_at hl 4 rfl) ?_
        refine mz_get E w 0 46 (v := .ref (ad 33)) (by decide) rfl rfl ii_11 (by decide) (Nat.le_of_ble_eq_true rfl) k_1229 rfl d_MO_each_127 ?_
        refine lv_aload_n hx hb d_MO_each_130 rfl (lv_at hl 4 rfl) ?_
        refine mz_get E w 0 34 (v := .int (mz_gI t12 0 34)) (by decide) rfl rfl ii_11 (by decide) (Nat.le_of_ble_eq_true rfl) k_1217 rfl d_MO_each_131 ?_
        refine lv_lload_n hx hb d_MO_each_134 rfl (lv_at hl 5 rfl) ?_
        obtain ⟨hi14, hf⟩ := mz_gd hf
        refine mz_last E w 33 (x := x1) (by decide) rfl hi14 d_MO_each_135 (fun H locs w => ?_)
        obtain ⟨t15, e_t15, hf⟩ := mz_lt hf
        rw [← e_t15] at w
        refine lv_aload_n hx hb d_MO_each_136 rfl (lv_at hl 4 rfl) ?_
        refine mz_get E w 0 47 (v := .ref (ad 34)) (by decide) rfl rfl ii_11 (by decide) (Nat.le_of_ble_eq_true rfl) k_1230 rfl d_MO_each_137 ?_
        refine lv_aload_n hx hb d_MO_each_140 rfl (lv_at hl 4 rfl) ?_
        refine mz_get E w 0 34 (v := .int (mz_gI t15 0 34)) (by decide) rfl rfl ii_11 (by decide) (Nat.le_of_ble_eq_true rfl) k_1217 rfl d_MO_each_141 ?_
        refine lv_lload_n hx hb d_MO_each_144 rfl (lv_at hl 6 rfl) ?_
        obtain ⟨hi16, hf⟩ := mz_gd hf
        refine mz_last E w 34 (x := x3) (by decide) rfl hi16 d_MO_each_145 (fun H locs w => ?_)
        obtain ⟨t17, e_t17, hf⟩ := mz_lt hf
        rw [← e_t17] at w
        refine lv_aload_n hx hb d_MO_each_146 rfl (lv_at hl 4 rfl) ?_
        refine lv_iconst (v := (3 : Int32)) hx hb d_MO_each_147 (by decide) ?_
        refine lv_iload hx hb d_MO_each_148 (lv_at hl 1 rfl) ?_
        refine lv_iload hx hb d_MO_each_150 (lv_at hl 0 rfl) ?_
        refine lv_iconst (v := (1 : Int32)) hx hb d_MO_each_152 (by decide) ?_
        refine lv_isub hx hb d_MO_each_153 ?_
        refine lv_iload hx hb d_MO_each_154 (lv_at hl 3 rfl) ?_
        refine lv_iload hx hb d_MO_each_156 (lv_at hl 7 rfl) ?_
        refine lv_iload hx hb d_MO_each_158 (lv_at hl 8 rfl) ?_
        obtain ⟨q18, hq19, hf⟩ := mz_bd hf
        refine mz_callV E w (k := 0) (As := [.int (3 : Int32), .int (mz_gI t 25 ((mz_gI t 0 34) - (1 : Int32)).toNatClampNeg), .int (q8.1 - (1 : Int32)), .int s0, .int x5, .int x6]) (rest := []) (c_MO_beginFrame hSK l n (3 : Int32) (mz_gI t 25 ((mz_gI t 0 34) - (1 : Int32)).toNatClampNeg) (q8.1 - (1 : Int32)) s0 x5 x6 t17 q18 hq19) (by decide) rfl rfl k_1455 k_15 k_1452 k_1454 ks_50 hm_MO_beginFrame ⟨⟨rfl, rfl⟩, Nat.le_of_ble_eq_true rfl, Nat.le_of_ble_eq_true rfl⟩ rfl hl.1 rfl (Nat.le_of_ble_eq_true rfl) d_MO_each_160 ⟨Nat.zero_le _, Nat.zero_le _⟩ (st1 := []) rfl (fun H locs w => ?_)
        obtain rfl := Option.some.inj hf
        exact mz_vret E w rfl d_MO_each_163
      · have hf := mz_f hc13 hf
        refine lv_aload_n hx hb d_MO_each_115 rfl (lv_at hl 4 rfl) ?_
        refine lv_bipush (v := (6 : Int32)) hx hb d_MO_each_116 (by decide) ?_
        refine lv_aload_n hx hb d_MO_each_118 rfl (lv_at hl 4 rfl) ?_
        refine mz_get E w 0 63 (v := .int (mz_gI t12 0 63)) (by decide) rfl rfl ii_11 (by decide) (Nat.le_of_ble_eq_true rfl) k_1246 rfl d_MO_each_119 ?_
        obtain ⟨q20, hq21, hf⟩ := mz_bd hf
        refine mz_callV E w (k := 0) (As := [.int (6 : Int32), .int (mz_gI t12 0 63)]) (rest := []) (c_MO_fail hSK l n (6 : Int32) (mz_gI t12 0 63) t12 q20 hq21) (by decide) rfl rfl k_1467 k_15 k_1464 k_1466 ks_53 hm_MO_fail ⟨⟨rfl, rfl⟩, Nat.le_of_ble_eq_true rfl, Nat.le_of_ble_eq_true rfl⟩ rfl hl.1 rfl (Nat.le_of_ble_eq_true rfl) d_MO_each_122 ⟨Nat.zero_le _, Nat.zero_le _⟩ (st1 := []) rfl (fun H locs w => ?_)
        obtain rfl := Option.some.inj hf
        exact mz_vret E w rfl d_MO_each_125
    · have hf := mz_f hc10 hf
      obtain rfl := Option.some.inj hf
      exact mz_vret E w rfl d_MO_each_96
  · have hf := mz_t hc6 hf
    refine lv_aload_n hx hb d_MO_each_56 rfl (lv_at hl 1 rfl) ?_
    refine lv_iconst (v := (1 : Int32)) hx hb d_MO_each_57 (by decide) ?_
    refine lv_aload_n hx hb d_MO_each_58 rfl (lv_at hl 1 rfl) ?_
    refine mz_get E w 0 63 (v := .int (mz_gI t 0 63)) (by decide) rfl rfl ii_11 (by decide) (Nat.le_of_ble_eq_true rfl) k_1246 rfl d_MO_each_59 ?_
    obtain ⟨q22, hq23, hf⟩ := mz_bd hf
    refine mz_callV E w (k := 0) (As := [.int (1 : Int32), .int (mz_gI t 0 63)]) (rest := []) (c_MO_fail hSK l n (1 : Int32) (mz_gI t 0 63) t q22 hq23) (by decide) rfl rfl k_1467 k_15 k_1464 k_1466 ks_53 hm_MO_fail ⟨⟨rfl, rfl⟩, Nat.le_of_ble_eq_true rfl, Nat.le_of_ble_eq_true rfl⟩ rfl hl.1 rfl (Nat.le_of_ble_eq_true rfl) d_MO_each_62 ⟨Nat.zero_le _, Nat.zero_le _⟩ (st1 := []) rfl (fun H locs w => ?_)
    obtain rfl := Option.some.inj hf
    exact mz_vret E w rfl d_MO_each_65
set_option maxRecDepth 100000 in
set_option maxHeartbeats 4000000 in
theorem c_MO_each {SX : State → Heap → Prop} {dC : Nat → ClassId} {dI : Nat → Nat → Nat} {ad en : Nat → Nat} {ca : Nat → ClassId} (hSK : mz_SK SX ad 55) (l : Launch) (n : Nat) (t : mz_St) (res : mz_St) (hf : f_MO_each n t = some res) : mz_C SX mz_tM 55 mz_cl dC dI ad en ca l y_MO_each prog_15_method_45_code 11 none r_MO_each [.ref (ad 0)] t none res := by
  unfold f_MO_each at hf
  refine mz_met hSK (by decide) (Nat.le_of_ble_eq_true rfl) ?_
  intro p e s m args below meth c ls E w hl
  obtain ⟨hx, hb, hml, hown, hcx, -, -, hSX, -, -, -⟩ := id E
  have hl : lv_has ls 11 [(0, .ref (ad 0))] := hl
  refine lv_aload_n hx hb d_MO_each_0 rfl (lv_at hl 0 rfl) ?_
  obtain ⟨q1, hq2, hf⟩ := mz_bd hf
  refine mz_callV E w (k := 0) (As := []) (rest := []) (c_MO_word hSK l n t q1 hq2) (by decide) rfl rfl k_1557 k_15 k_1554 k_1556 ks_69 hm_MO_word ⟨⟨rfl, rfl⟩, Nat.le_of_ble_eq_true rfl, Nat.le_of_ble_eq_true rfl⟩ rfl hl.1 rfl (Nat.le_of_ble_eq_true rfl) d_MO_each_1 ⟨Nat.zero_le _, Nat.zero_le _⟩ (st1 := []) rfl (fun H locs w => ?_)
  refine lv_aload_n hx hb d_MO_each_4 rfl (lv_at hl 0 rfl) ?_
  refine mz_get E w 0 65 (v := .long (mz_gL q1 0 65)) (by decide) rfl rfl ii_11 (by decide) (Nat.le_of_ble_eq_true rfl) k_1248 rfl d_MO_each_5 ?_
  refine lv_lstore_n (lv' := [(1, .long (mz_gL q1 0 65)), (0, .ref (ad 0))]) hx hb d_MO_each_8 rfl hl (by decide) rfl (fun ls hl => ?_)
  refine lv_aload_n hx hb d_MO_each_9 rfl (lv_at hl 1 rfl) ?_
  refine mz_get E w 0 66 (v := .long (mz_gL q1 0 66)) (by decide) rfl rfl ii_11 (by decide) (Nat.le_of_ble_eq_true rfl) k_1249 rfl d_MO_each_10 ?_
  refine lv_lstore_n (lv' := [(3, .long (mz_gL q1 0 66)), (1, .long (mz_gL q1 0 65)), (0, .ref (ad 0))]) hx hb d_MO_each_13 rfl hl (by decide) rfl (fun ls hl => ?_)
  refine lv_aload_n hx hb d_MO_each_14 rfl (lv_at hl 2 rfl) ?_
  refine lv_bipush (v := (44 : Int32)) hx hb d_MO_each_15 (by decide) ?_
  obtain ⟨q3, hq4, hf⟩ := mz_bd hf
  refine mz_callV E w (k := 0) (As := [.int (44 : Int32)]) (rest := []) (c_MO_sign hSK l n (44 : Int32) q1 q3 hq4) (by decide) rfl rfl k_1604 k_15 k_1601 k_1603 ks_80 hm_MO_sign ⟨⟨rfl, rfl⟩, Nat.le_of_ble_eq_true rfl, Nat.le_of_ble_eq_true rfl⟩ rfl hl.1 rfl (Nat.le_of_ble_eq_true rfl) d_MO_each_17 ⟨Nat.zero_le _, Nat.zero_le _⟩ (st1 := []) rfl (fun H locs w => ?_)
  refine lv_aload_n hx hb d_MO_each_20 rfl (lv_at hl 2 rfl) ?_
  refine mz_get E w 0 48 (v := .int (mz_gI q3 0 48)) (by decide) rfl rfl ii_11 (by decide) (Nat.le_of_ble_eq_true rfl) k_1231 rfl d_MO_each_21 ?_
  refine lv_istore (lv' := [(5, .int (mz_gI q3 0 48)), (3, .long (mz_gL q1 0 66)), (1, .long (mz_gL q1 0 65)), (0, .ref (ad 0))]) hx hb d_MO_each_24 hl (by decide) rfl (fun ls hl => ?_)
  refine lv_aload_n hx hb d_MO_each_26 rfl (lv_at hl 3 rfl) ?_
  refine mz_get E w 0 51 (v := .int (mz_gI q3 0 51)) (by decide) rfl rfl ii_11 (by decide) (Nat.le_of_ble_eq_true rfl) k_1234 rfl d_MO_each_27 ?_
  refine lv_istore (lv' := [(6, .int (mz_gI q3 0 51)), (5, .int (mz_gI q3 0 48)), (3, .long (mz_gL q1 0 66)), (1, .long (mz_gL q1 0 65)), (0, .ref (ad 0))]) hx hb d_MO_each_30 hl (by decide) rfl (fun ls hl => ?_)
  refine lv_aload_n hx hb d_MO_each_32 rfl (lv_at hl 4 rfl) ?_
  refine mz_get E w 0 62 (v := .int (mz_gI q3 0 62)) (by decide) rfl rfl ii_11 (by decide) (Nat.le_of_ble_eq_true rfl) k_1245 rfl d_MO_each_33 ?_
  refine lv_if_eq (tgt := 46) hx hb d_MO_each_36 (by decide) (fun hc5 => ?_) (fun hc5 => ?_)
  · have hf := mz_t hc5 hf
    refine lv_iconst (v := (0 : Int32)) hx hb d_MO_each_46 (by decide) ?_
    exact b_MO_each_47 E n (mz_gL q1 0 65) (mz_gL q1 0 66) (mz_gI q3 0 48) (mz_gI q3 0 51) (0 : Int32) q3 hf _ _ _ w (lv_sub hl [4, 3, 2, 1, 0] rfl)
  · have hf := mz_f hc5 hf
    refine lv_aload_n hx hb d_MO_each_39 rfl (lv_at hl 4 rfl) ?_
    obtain ⟨q24, hq25, hf⟩ := mz_bd hf
    refine mz_callV E w (k := 0) (As := []) (rest := []) (c_MO_readTexts hSK l n q3 q24 hq25) (by decide) rfl rfl k_1664 k_15 k_1661 k_1663 ks_95 hm_MO_readTexts ⟨⟨rfl, rfl⟩, Nat.le_of_ble_eq_true rfl, Nat.le_of_ble_eq_true rfl⟩ rfl hl.1 rfl (Nat.le_of_ble_eq_true rfl) d_MO_each_40 ⟨Nat.zero_le _, Nat.zero_le _⟩ (st1 := [.int q24.1]) rfl (fun H locs w => ?_)
    refine lv_goto (tgt := 47) hx hb d_MO_each_43 (by decide) ?_
    exact b_MO_each_47 E n (mz_gL q1 0 65) (mz_gL q1 0 66) (mz_gI q3 0 48) (mz_gI q3 0 51) q24.1 q24.2 hf _ _ _ w (lv_sub hl [4, 3, 2, 1, 0] rfl)

/-! MacroHouseModel.leave()V -/
abbrev r_MO_leave : Room := { frames := 3, cells := 0, slots := 0, locals := 60 }
def f_MO_leave_50 (n : Nat) : Nat → Int32 → mz_St → Option mz_St
  | 0, _, _ => none
  | k + 1, x1, t => if (mz_gI t 0 34) ≤ x1 then (some t) else ((f_MO_endFrame n t).bind fun q10 => (f_MO_leave_50 n k) x1 q10)
def f_MO_leave (n : Nat) (t : mz_St) : Option mz_St := (f_MO_macroFrame n t).bind fun q1 => (f_MO_lineEnds n q1.2).bind fun q3 => if (mz_gI q3 0 62) = 0 then ((f_MO_fail n (1 : Int32) (mz_gI q3 0 63) q3).bind fun q14 => some q14) else (if 0 ≤ q1.1 then (if ¬ (q1.1 < 0 ∨ 14 ≤ q1.1.toNatClampNeg) then (mz_let (mz_pI q3 0 53 (mz_gI q3 30 q1.1.toNatClampNeg)) fun t8 => f_MO_leave_50 n n q1.1 t8) else none) else ((f_MO_fail n (5 : Int32) (mz_gI q3 0 63) q3).bind fun q12 => some q12))
set_option maxRecDepth 100000 in
set_option maxHeartbeats 4000000 in
theorem b_MO_leave_50 {SX : State → Heap → Prop} {dC : Nat → ClassId} {dI : Nat → Nat → Nat} {ad en : Nat → Nat} {ca : Nat → ClassId} {p : Program} {l : Launch} {e : Env} {s : State} {m : MethodId} {args : Array Value} {below : List Frame} {meth : Method} {c : Code} {res : mz_St} (E : mz_En SX 55 mz_cl dC dI ad ca p s m meth c prog_15_method_54_code 2 "MacroHouseModel" none) (n : Nat) (k : Nat) : ∀ (x1 : Int32) (t : mz_St), f_MO_leave_50 n k x1 t = some res → ∀ (H : Heap) (locs : List Loc) (ls : Array Slot), mz_Wd mz_tM 55 mz_cl dC dI ad en ca s t H locs → lv_has ls 2 [(0, .ref (ad 0)), (1, .int x1)] → W p l e r_MO_leave s m args below meth c H locs 0 0 (MQ below (mz_Q SX mz_tM 55 mz_cl dC dI ad en ca none res) args s 0 0 (mz_A ad 55)) (F0 m 50 ls []) := by
  obtain ⟨hx, hb, hml, hown, hcx, -, -, hSX, -, -, hSK⟩ := id E
  induction k with
  | zero => intro x1 t hf; exact absurd hf (by unfold f_MO_leave_50; exact fun h => nomatch h)
  | succ k ih =>
    intro x1 t hf H locs ls w hl
    unfold f_MO_leave_50 at hf
    refine lv_aload_n hx hb d_MO_leave_50 rfl (lv_at hl 0 rfl) ?_
    refine mz_get E w 0 34 (v := .int (mz_gI t 0 34)) (by decide) rfl rfl ii_11 (by decide) (Nat.le_of_ble_eq_true rfl) k_1217 rfl d_MO_leave_51 ?_
    refine lv_iload_n hx hb d_MO_leave_54 rfl (lv_at hl 1 rfl) ?_
    refine lv_icmp_le (tgt := 65) hx hb d_MO_leave_55 (by decide) (fun hc9 => ?_) (fun hc9 => ?_)
    · have hf := mz_t hc9 hf
      obtain rfl := Option.some.inj hf
      exact mz_vret E w rfl d_MO_leave_65
    · have hf := mz_f hc9 hf
      refine lv_aload_n hx hb d_MO_leave_58 rfl (lv_at hl 0 rfl) ?_
      obtain ⟨q10, hq11, hf⟩ := mz_bd hf
      refine mz_callV E w (k := 0) (As := []) (rest := []) (c_MO_endFrame hSK l n t q10 hq11) (by decide) rfl rfl k_1471 k_15 k_1468 k_1470 ks_54 hm_MO_endFrame ⟨⟨rfl, rfl⟩, Nat.le_of_ble_eq_true rfl, Nat.le_of_ble_eq_true rfl⟩ rfl hl.1 rfl (Nat.le_of_ble_eq_true rfl) d_MO_leave_59 ⟨Nat.zero_le _, Nat.zero_le _⟩ (st1 := []) rfl (fun H locs w => ?_)
      refine lv_goto (tgt := 50) hx hb d_MO_leave_62 (by decide) ?_
      exact ih x1 q10 hf _ _ _ w (lv_sub hl [0, 1] rfl)
set_option maxRecDepth 100000 in
set_option maxHeartbeats 4000000 in
theorem c_MO_leave {SX : State → Heap → Prop} {dC : Nat → ClassId} {dI : Nat → Nat → Nat} {ad en : Nat → Nat} {ca : Nat → ClassId} (hSK : mz_SK SX ad 55) (l : Launch) (n : Nat) (t : mz_St) (res : mz_St) (hf : f_MO_leave n t = some res) : mz_C SX mz_tM 55 mz_cl dC dI ad en ca l y_MO_leave prog_15_method_54_code 2 none r_MO_leave [.ref (ad 0)] t none res := by
  unfold f_MO_leave at hf
  refine mz_met hSK (by decide) (Nat.le_of_ble_eq_true rfl) ?_
  intro p e s m args below meth c ls E w hl
  obtain ⟨hx, hb, hml, hown, hcx, -, -, hSX, -, -, -⟩ := id E
  have hl : lv_has ls 2 [(0, .ref (ad 0))] := hl
  refine lv_aload_n hx hb d_MO_leave_0 rfl (lv_at hl 0 rfl) ?_
  obtain ⟨q1, hq2, hf⟩ := mz_bd hf
  refine mz_callV E w (k := 0) (As := []) (rest := []) (c_MO_macroFrame hSK l n t q1 hq2) (by decide) rfl rfl k_1525 k_15 k_1522 k_1524 ks_61 hm_MO_macroFrame ⟨⟨rfl, rfl⟩, Nat.le_of_ble_eq_true rfl, Nat.le_of_ble_eq_true rfl⟩ rfl hl.1 rfl (Nat.le_of_ble_eq_true rfl) d_MO_leave_1 ⟨Nat.zero_le _, Nat.zero_le _⟩ (st1 := [.int q1.1]) rfl (fun H locs w => ?_)
  refine lv_istore_n (lv' := [(1, .int q1.1), (0, .ref (ad 0))]) hx hb d_MO_leave_4 rfl hl (by decide) rfl (fun ls hl => ?_)
  refine lv_aload_n hx hb d_MO_leave_5 rfl (lv_at hl 1 rfl) ?_
  obtain ⟨q3, hq4, hf⟩ := mz_bd hf
  refine mz_callV E w (k := 0) (As := []) (rest := []) (c_MO_lineEnds hSK l n q1.2 q3 hq4) (by decide) rfl rfl k_1608 k_15 k_1605 k_1607 ks_81 hm_MO_lineEnds ⟨⟨rfl, rfl⟩, Nat.le_of_ble_eq_true rfl, Nat.le_of_ble_eq_true rfl⟩ rfl hl.1 rfl (Nat.le_of_ble_eq_true rfl) d_MO_leave_6 ⟨Nat.zero_le _, Nat.zero_le _⟩ (st1 := []) rfl (fun H locs w => ?_)
  refine lv_aload_n hx hb d_MO_leave_9 rfl (lv_at hl 1 rfl) ?_
  refine mz_get E w 0 62 (v := .int (mz_gI q3 0 62)) (by decide) rfl rfl ii_11 (by decide) (Nat.le_of_ble_eq_true rfl) k_1245 rfl d_MO_leave_10 ?_
  refine lv_if_ne (tgt := 26) hx hb d_MO_leave_13 (by decide) (fun hc5 => ?_) (fun hc5 => ?_)
  · have hf := mz_f hc5 hf
    refine lv_iload_n hx hb d_MO_leave_26 rfl (lv_at hl 0 rfl) ?_
    refine lv_if_ge (tgt := 40) hx hb d_MO_leave_27 (by decide) (fun hc6 => ?_) (fun hc6 => ?_)
    · have hf := mz_t hc6 hf
      refine lv_aload_n hx hb d_MO_leave_40 rfl (lv_at hl 1 rfl) ?_
      refine lv_aload_n hx hb d_MO_leave_41 rfl (lv_at hl 1 rfl) ?_
      refine mz_get E w 0 43 (v := .ref (ad 30)) (by decide) rfl rfl ii_11 (by decide) (Nat.le_of_ble_eq_true rfl) k_1226 rfl d_MO_leave_42 ?_
      refine lv_iload_n hx hb d_MO_leave_45 rfl (lv_at hl 0 rfl) ?_
      obtain ⟨hi7, hf⟩ := mz_gd hf
      refine mz_iald E w 30 (by decide) rfl hi7 d_MO_leave_46 ?_
      refine mz_put E w 0 53 (v := (mz_gI q3 30 q1.1.toNatClampNeg)) (by decide) rfl rfl ii_11 tk_11 nm_11 (by decide) (Nat.le_of_ble_eq_true rfl) k_1236 rfl (tk_11 53 (by decide)) rfl rfl rfl d_MO_leave_47 (fun H locs w => ?_)
      obtain ⟨t8, e_t8, hf⟩ := mz_lt hf
      rw [← e_t8] at w
      exact b_MO_leave_50 E n n q1.1 t8 hf _ _ _ w (lv_sub hl [1, 0] rfl)
    · have hf := mz_f hc6 hf
      refine lv_aload_n hx hb d_MO_leave_30 rfl (lv_at hl 1 rfl) ?_
      refine lv_iconst (v := (5 : Int32)) hx hb d_MO_leave_31 (by decide) ?_
      refine lv_aload_n hx hb d_MO_leave_32 rfl (lv_at hl 1 rfl) ?_
      refine mz_get E w 0 63 (v := .int (mz_gI q3 0 63)) (by decide) rfl rfl ii_11 (by decide) (Nat.le_of_ble_eq_true rfl) k_1246 rfl d_MO_leave_33 ?_
      obtain ⟨q12, hq13, hf⟩ := mz_bd hf
      refine mz_callV E w (k := 0) (As := [.int (5 : Int32), .int (mz_gI q3 0 63)]) (rest := []) (c_MO_fail hSK l n (5 : Int32) (mz_gI q3 0 63) q3 q12 hq13) (by decide) rfl rfl k_1467 k_15 k_1464 k_1466 ks_53 hm_MO_fail ⟨⟨rfl, rfl⟩, Nat.le_of_ble_eq_true rfl, Nat.le_of_ble_eq_true rfl⟩ rfl hl.1 rfl (Nat.le_of_ble_eq_true rfl) d_MO_leave_36 ⟨Nat.zero_le _, Nat.zero_le _⟩ (st1 := []) rfl (fun H locs w => ?_)
      obtain rfl := Option.some.inj hf
      exact mz_vret E w rfl d_MO_leave_39
  · have hf := mz_t hc5 hf
    refine lv_aload_n hx hb d_MO_leave_16 rfl (lv_at hl 1 rfl) ?_
    refine lv_iconst (v := (1 : Int32)) hx hb d_MO_leave_17 (by decide) ?_
    refine lv_aload_n hx hb d_MO_leave_18 rfl (lv_at hl 1 rfl) ?_
    refine mz_get E w 0 63 (v := .int (mz_gI q3 0 63)) (by decide) rfl rfl ii_11 (by decide) (Nat.le_of_ble_eq_true rfl) k_1246 rfl d_MO_leave_19 ?_
    obtain ⟨q14, hq15, hf⟩ := mz_bd hf
    refine mz_callV E w (k := 0) (As := [.int (1 : Int32), .int (mz_gI q3 0 63)]) (rest := []) (c_MO_fail hSK l n (1 : Int32) (mz_gI q3 0 63) q3 q14 hq15) (by decide) rfl rfl k_1467 k_15 k_1464 k_1466 ks_53 hm_MO_fail ⟨⟨rfl, rfl⟩, Nat.le_of_ble_eq_true rfl, Nat.le_of_ble_eq_true rfl⟩ rfl hl.1 rfl (Nat.le_of_ble_eq_true rfl) d_MO_leave_22 ⟨Nat.zero_le _, Nat.zero_le _⟩ (st1 := []) rfl (fun H locs w => ?_)
    obtain rfl := Option.some.inj hf
    exact mz_vret E w rfl d_MO_leave_25

/-! MacroHouseModel.call(I)V -/
abbrev r_MO_call : Room := { frames := 2, cells := 0, slots := 0, locals := 51 }
def f_MO_call_247 (n : Nat) (x1 : Int32) (x2 : Int32) (x3 : Int32) (t : mz_St) : Option mz_St := if (mz_gI t 0 62) = 0 then ((f_MO_fail n (1 : Int32) (mz_gI t 0 63) t).bind fun q27 => some q27) else (if ¬ (x1 < 0 ∨ 16 ≤ x1.toNatClampNeg) then (mz_let (mz_pI t 0 48 (x2 + (mz_gI t 10 x1.toNatClampNeg))) fun t11 => if (mz_gI t11 0 34) ≤ (12 : Int32) then (if ¬ ((mz_gI t11 0 34) < 0 ∨ 14 ≤ (mz_gI t11 0 34).toNatClampNeg) then (mz_let (mz_pI t11 28 (mz_gI t11 0 34).toNatClampNeg x1) fun t14 => if ¬ ((mz_gI t14 0 34) < 0 ∨ 14 ≤ (mz_gI t14 0 34).toNatClampNeg) then (mz_let (mz_pI t14 29 (mz_gI t14 0 34).toNatClampNeg (mz_gI t14 0 9)) fun t16 => if ¬ (x1 < 0 ∨ 16 ≤ x1.toNatClampNeg) then (if ¬ (x1 < 0 ∨ 16 ≤ x1.toNatClampNeg) then ((f_MO_beginFrame n (1 : Int32) (mz_gI t16 6 x1.toNatClampNeg) (mz_gI t16 7 x1.toNatClampNeg) (1 : Int32) x2 x3 t16).bind fun q19 => if ¬ (x1 < 0 ∨ 16 ≤ x1.toNatClampNeg) then (if ¬ (x1 < 0 ∨ 16 ≤ x1.toNatClampNeg) then (mz_let (mz_pI q19 9 x1.toNatClampNeg ((mz_gI q19 9 x1.toNatClampNeg) + (1 : Int32))) fun t23 => mz_let (mz_pI t23 0 9 ((mz_gI t23 0 9) + (1 : Int32))) fun t24 => some t24) else none) else none) else none) else none) else none) else none) else ((f_MO_fail n (6 : Int32) (mz_gI t11 0 63) t11).bind fun q25 => some q25)) else none)
def f_MO_call_241 (n : Nat) (K64 : Int32 → Int32 → Int32 → Int32 → Int32 → mz_St → Option mz_St) (x1 : Int32) (x2 : Int32) (x3 : Int32) (x4 : Int32) (x5 : Int32) (t : mz_St) : Option mz_St := K64 x1 x2 x3 x4 (x5 + (1 : Int32)) t
def f_MO_call_179 (n : Nat) (K64 : Int32 → Int32 → Int32 → Int32 → Int32 → mz_St → Option mz_St) : Nat → Int32 → Int32 → Int32 → Int32 → Int32 → Int32 → mz_St → Option mz_St
  | 0, _, _, _, _, _, _, _ => none
  | k + 1, x1, x2, x3, x4, x5, x8, t => if ¬ ((((6 : Int32) * x1) + x5) < 0 ∨ 96 ≤ (((6 : Int32) * x1) + x5).toNatClampNeg) then (if (mz_gI t 14 (((6 : Int32) * x1) + x5).toNatClampNeg) ≤ x8 then (if ¬ ((x2 + x5) < 0 ∨ 24000 ≤ (x2 + x5).toNatClampNeg) then (mz_let (mz_pI t 36 (x2 + x5).toNatClampNeg (mz_gI t 0 51)) fun t42 => f_MO_call_241 n K64 x1 x2 x3 x4 x5 t42) else none) else (if ¬ (x8 < 0 ∨ 3000 ≤ x8.toNatClampNeg) then (if ¬ ((mz_gI t 0 51) < 0 ∨ 48000 ≤ (mz_gI t 0 51).toNatClampNeg) then (mz_let (mz_pI t 37 (mz_gI t 0 51).toNatClampNeg (mz_gI t 1 x8.toNatClampNeg)) fun t45 => mz_let (mz_pI t45 0 51 ((mz_gI t45 0 51) + (1 : Int32))) fun t46 => (f_MO_call_179 n K64 k) x1 x2 x3 x4 x5 (x8 + (1 : Int32)) t46) else none) else none)) else none
def f_MO_call_147 (n : Nat) (K64 : Int32 → Int32 → Int32 → Int32 → Int32 → mz_St → Option mz_St) (x1 : Int32) (x2 : Int32) (x3 : Int32) (x4 : Int32) (x5 : Int32) (x6 : Int32) (x7 : Int32) (s1 : Int32) (t : mz_St) : Option mz_St := if s1 = 0 ∨ s1 = 1 then (mz_let (mz_pI t 0 62 s1) fun t34 => if x6 = 0 then (f_MO_call_241 n K64 x1 x2 x3 x4 x5 t34) else (if (mz_gI t34 0 62) = 0 then (f_MO_call_241 n K64 x1 x2 x3 x4 x5 t34) else (if ¬ ((x2 + x5) < 0 ∨ 24000 ≤ (x2 + x5).toNatClampNeg) then (mz_let (mz_pI t34 35 (x2 + x5).toNatClampNeg (mz_gI t34 0 51)) fun t38 => f_MO_call_179 n K64 n x1 x2 x3 x4 x5 x7 t38) else none))) else none
def f_MO_call_142 (n : Nat) (K64 : Int32 → Int32 → Int32 → Int32 → Int32 → mz_St → Option mz_St) (x1 : Int32) (x2 : Int32) (x3 : Int32) (x4 : Int32) (x5 : Int32) (x6 : Int32) (x7 : Int32) (t : mz_St) : Option mz_St := f_MO_call_147 n K64 x1 x2 x3 x4 x5 x6 x7 (1 : Int32) t
def f_MO_call_115 (n : Nat) (K64 : Int32 → Int32 → Int32 → Int32 → Int32 → mz_St → Option mz_St) (x1 : Int32) (x2 : Int32) (x3 : Int32) (x4 : Int32) (x5 : Int32) (s0 : Int32) (t : mz_St) : Option mz_St := if ¬ ((((6 : Int32) * x1) + x5) < 0 ∨ 96 ≤ (((6 : Int32) * x1) + x5).toNatClampNeg) then (if s0 = 0 then (f_MO_call_142 n K64 x1 x2 x3 x4 x5 s0 (mz_gI t 13 (((6 : Int32) * x1) + x5).toNatClampNeg) t) else (if (mz_gI t 13 (((6 : Int32) * x1) + x5).toNatClampNeg) < 0 then (f_MO_call_147 n K64 x1 x2 x3 x4 x5 s0 (mz_gI t 13 (((6 : Int32) * x1) + x5).toNatClampNeg) (0 : Int32) t) else (f_MO_call_142 n K64 x1 x2 x3 x4 x5 s0 (mz_gI t 13 (((6 : Int32) * x1) + x5).toNatClampNeg) t))) else none
def f_MO_call_110 (n : Nat) (K64 : Int32 → Int32 → Int32 → Int32 → Int32 → mz_St → Option mz_St) (x1 : Int32) (x2 : Int32) (x3 : Int32) (x4 : Int32) (x5 : Int32) (t : mz_St) : Option mz_St := f_MO_call_115 n K64 x1 x2 x3 x4 x5 (1 : Int32) t
def f_MO_call_64 (n : Nat) : Nat → Int32 → Int32 → Int32 → Int32 → Int32 → mz_St → Option mz_St
  | 0, _, _, _, _, _, _ => none
  | k + 1, x1, x2, x3, x4, x5, t => if ¬ (x1 < 0 ∨ 16 ≤ x1.toNatClampNeg) then (if (mz_gI t 10 x1.toNatClampNeg) ≤ x5 then (f_MO_call_247 n x1 x2 x3 t) else (if (mz_gI t 0 62) = 0 then (f_MO_call_247 n x1 x2 x3 t) else (if x4 ≤ x5 then (f_MO_call_110 n (f_MO_call_64 n k) x1 x2 x3 x4 x5 t) else (if ¬ ((x2 + x5) < 0 ∨ 24000 ≤ (x2 + x5).toNatClampNeg) then (if ¬ ((x2 + x5) < 0 ∨ 24000 ≤ (x2 + x5).toNatClampNeg) then (if (mz_gI t 35 (x2 + x5).toNatClampNeg) = (mz_gI t 36 (x2 + x5).toNatClampNeg) then (f_MO_call_110 n (f_MO_call_64 n k) x1 x2 x3 x4 x5 t) else (f_MO_call_115 n (f_MO_call_64 n k) x1 x2 x3 x4 x5 (0 : Int32) t)) else none) else none)))) else none
def f_MO_call_58 (n : Nat) (x1 : Int32) (x2 : Int32) (x3 : Int32) (x4 : Int32) (s1 : Int32) (t : mz_St) : Option mz_St := if s1 = 0 ∨ s1 = 1 then (mz_let (mz_pI t 0 62 s1) fun t6 => f_MO_call_64 n n x1 x2 x3 x4 (0 : Int32) t6) else none
def f_MO_call_57 (n : Nat) (x1 : Int32) (x2 : Int32) (x3 : Int32) (x4 : Int32) (t : mz_St) : Option mz_St := f_MO_call_58 n x1 x2 x3 x4 (0 : Int32) t
def f_MO_call_34 (n : Nat) (x1 : Int32) (x2 : Int32) (x3 : Int32) (x4 : Int32) (t : mz_St) : Option mz_St := if (mz_gI t 0 62) = 0 then (f_MO_call_57 n x1 x2 x3 x4 t) else (if ¬ (x1 < 0 ∨ 16 ≤ x1.toNatClampNeg) then (if (mz_gI t 10 x1.toNatClampNeg) < x4 then (f_MO_call_57 n x1 x2 x3 x4 t) else (f_MO_call_58 n x1 x2 x3 x4 (1 : Int32) t)) else none)
def f_MO_call (n : Nat) (x1 : Int32) (t : mz_St) : Option mz_St := (f_MO_blanks n t).bind fun q1 => if (mz_gI q1 0 60) ≤ (mz_gI q1 0 61) then (f_MO_call_34 n x1 (mz_gI t 0 48) (mz_gI t 0 51) (0 : Int32) q1) else ((f_MO_readTexts n q1).bind fun q53 => f_MO_call_34 n x1 (mz_gI t 0 48) (mz_gI t 0 51) q53.1 q53.2)
set_option maxRecDepth 100000 in
set_option maxHeartbeats 4000000 in
theorem b_MO_call_247 {SX : State → Heap → Prop} {dC : Nat → ClassId} {dI : Nat → Nat → Nat} {ad en : Nat → Nat} {ca : Nat → ClassId} {p : Program} {l : Launch} {e : Env} {s : State} {m : MethodId} {args : Array Value} {below : List Frame} {meth : Method} {c : Code} {res : mz_St} (E : mz_En SX 55 mz_cl dC dI ad ca p s m meth c prog_15_method_47_code 9 "MacroHouseModel" none) (n : Nat) : ∀ (x1 : Int32) (x2 : Int32) (x3 : Int32) (t : mz_St), f_MO_call_247 n x1 x2 x3 t = some res → ∀ (H : Heap) (locs : List Loc) (ls : Array Slot), mz_Wd mz_tM 55 mz_cl dC dI ad en ca s t H locs → lv_has ls 9 [(0, .ref (ad 0)), (1, .int x1), (2, .int x2), (3, .int x3)] → W p l e r_MO_call s m args below meth c H locs 0 0 (MQ below (mz_Q SX mz_tM 55 mz_cl dC dI ad en ca none res) args s 0 0 (mz_A ad 55)) (F0 m 247 ls []) := by
  obtain ⟨hx, hb, hml, hown, hcx, -, -, hSX, -, -, hSK⟩ := id E
  intro x1 x2 x3 t hf H locs ls w hl
  unfold f_MO_call_247 at hf
  refine lv_aload_n hx hb d_MO_call_247 rfl (lv_at hl 0 rfl) ?_
  refine mz_get E w 0 62 (v := .int (mz_gI t 0 62)) (by decide) rfl rfl ii_11 (by decide) (Nat.le_of_ble_eq_true rfl) k_1245 rfl d_MO_call_248 ?_
  refine lv_if_ne (tgt := 264) hx hb d_MO_call_251 (by decide) (fun hc9 => ?_) (fun hc9 => ?_)
  · have hf := mz_f hc9 hf
    refine lv_aload_n hx hb d_MO_call_264 rfl (lv_at hl 0 rfl) ?_
    refine lv_iload_n hx hb d_MO_call_265 rfl (lv_at hl 2 rfl) ?_
    refine lv_aload_n hx hb d_MO_call_266 rfl (lv_at hl 0 rfl) ?_
    refine mz_get E w 0 19 (v := .ref (ad 10)) (by decide) rfl rfl ii_11 (by decide) (Nat.le_of_ble_eq_true rfl) k_1202 rfl d_MO_call_267 ?_
    refine lv_iload_n hx hb d_MO_call_270 rfl (lv_at hl 1 rfl) ?_
    obtain ⟨hi10, hf⟩ := mz_gd hf
    refine mz_iald E w 10 (by decide) rfl hi10 d_MO_call_271 ?_
    refine lv_iadd hx hb d_MO_call_272 ?_
    refine mz_put E w 0 48 (v := (x2 + (mz_gI t 10 x1.toNatClampNeg))) (by decide) rfl rfl ii_11 tk_11 nm_11 (by decide) (Nat.le_of_ble_eq_true rfl) k_1231 rfl (tk_11 48 (by decide)) rfl rfl rfl d_MO_call_273 (fun H locs w => ?_)
    obtain ⟨t11, e_t11, hf⟩ := mz_lt hf
    rw [← e_t11] at w
    refine lv_aload_n hx hb d_MO_call_276 rfl (lv_at hl 0 rfl) ?_
    refine mz_get E w 0 34 (v := .int (mz_gI t11 0 34)) (by decide) rfl rfl ii_11 (by decide) (Nat.le_of_ble_eq_true rfl) k_1217 rfl d_MO_call_277 ?_
    refine lv_bipush (v := (12 : Int32)) hx hb d_MO_call_280 (by decide) ?_
    refine lv_icmp_le (tgt := 296) hx hb d_MO_call_282 (by decide) (fun hc12 => ?_) (fun hc12 => ?_)
    · have hf := mz_t hc12 hf
      refine lv_aload_n hx hb d_MO_call_296 rfl (lv_at hl 0 rfl) ?_
      refine mz_get E w 0 41 (v := .ref (ad 28)) (by decide) rfl rfl ii_11 (by decide) (Nat.le_of_ble_eq_true rfl) k_1224 rfl d_MO_call_297 ?_
      refine lv_aload_n hx hb d_MO_call_300 rfl (lv_at hl 0 rfl) ?_
      refine mz_get E w 0 34 (v := .int (mz_gI t11 0 34)) (by decide) rfl rfl ii_11 (by decide) (Nat.le_of_ble_eq_true rfl) k_1217 rfl d_MO_call_301 ?_
      refine lv_iload_n hx hb d_MO_call_304 rfl (lv_at hl 1 rfl) ?_
      obtain ⟨hi13, hf⟩ := mz_gd hf
      refine mz_iast E w 28 (x := x1) (by decide) rfl hi13 d_MO_call_305 (fun H locs w => ?_)
      obtain ⟨t14, e_t14, hf⟩ := mz_lt hf
      rw [← e_t14] at w
      refine lv_aload_n hx hb d_MO_call_306 rfl (lv_at hl 0 rfl) ?_
      refine mz_get E w 0 42 (v := .ref (ad 29)) (by decide) rfl rfl ii_11 (by decide) (Nat.le_of_ble_eq_true rfl) k_1225 rfl d_MO_call_307 ?_
      refine lv_aload_n hx hb d_MO_call_310 rfl (lv_at hl 0 rfl) ?_
      refine mz_get E w 0 34 (v := .int (mz_gI t14 0 34)) (by decide) rfl rfl ii_11 (by decide) (Nat.le_of_ble_eq_true rfl) k_1217 rfl d_MO_call_311 ?_
      refine lv_aload_n hx hb d_MO_call_314 rfl (lv_at hl 0 rfl) ?_
      refine mz_get E w 0 9 (v := .int (mz_gI t14 0 9)) (by decide) rfl rfl ii_11 (by decide) (Nat.le_of_ble_eq_true rfl) k_1192 rfl d_MO_call_315 ?_
      obtain ⟨hi15, hf⟩ := mz_gd hf
      refine mz_iast E w 29 (x := (mz_gI t14 0 9)) (by decide) rfl hi15 d_MO_call_318 (fun H locs w => ?_)
      obtain ⟨t16, e_t16, hf⟩ := mz_lt hf
      rw [← e_t16] at w
      refine lv_aload_n hx hb d_MO_call_319 rfl (lv_at hl 0 rfl) ?_
      refine lv_iconst (v := (1 : Int32)) hx hb d_MO_call_320 (by decide) ?_
      refine lv_aload_n hx hb d_MO_call_321 rfl (lv_at hl 0 rfl) ?_
      refine mz_get E w 0 15 (v := .ref (ad 6)) (by decide) rfl rfl ii_11 (by decide) (Nat.le_of_ble_eq_true rfl) k_1198 rfl d_MO_call_322 ?_
      refine lv_iload_n hx hb d_MO_call_325 rfl (lv_at hl 1 rfl) ?_
      obtain ⟨hi17, hf⟩ := mz_gd hf
      refine mz_iald E w 6 (by decide) rfl hi17 d_MO_call_326 ?_
      refine lv_aload_n hx hb d_MO_call_327 rfl (lv_at hl 0 rfl) ?_
      refine mz_get E w 0 16 (v := .ref (ad 7)) (by decide) rfl rfl ii_11 (by decide) (Nat.le_of_ble_eq_true rfl) k_1199 rfl d_MO_call_328 ?_
      refine lv_iload_n hx hb d_MO_call_331 rfl (lv_at hl 1 rfl) ?_
      obtain ⟨hi18, hf⟩ := mz_gd hf
      refine mz_iald E w 7 (by decide) rfl hi18 d_MO_call_332 ?_
      refine lv_iconst (v := (1 : Int32)) hx hb d_MO_call_333 (by decide) ?_
      refine lv_iload_n hx hb d_MO_call_334 rfl (lv_at hl 2 rfl) ?_
      refine lv_iload_n hx hb d_MO_call_335 rfl (lv_at hl 3 rfl) ?_
      obtain ⟨q19, hq20, hf⟩ := mz_bd hf
      refine mz_callV E w (k := 0) (As := [.int (1 : Int32), .int (mz_gI t16 6 x1.toNatClampNeg), .int (mz_gI t16 7 x1.toNatClampNeg), .int (1 : Int32), .int x2, .int x3]) (rest := []) (c_MO_beginFrame hSK l n (1 : Int32) (mz_gI t16 6 x1.toNatClampNeg) (mz_gI t16 7 x1.toNatClampNeg) (1 : Int32) x2 x3 t16 q19 hq20) (by decide) rfl rfl k_1455 k_15 k_1452 k_1454 ks_50 hm_MO_beginFrame ⟨⟨rfl, rfl⟩, Nat.le_of_ble_eq_true rfl, Nat.le_of_ble_eq_true rfl⟩ rfl hl.1 rfl (Nat.le_of_ble_eq_true rfl) d_MO_call_336 ⟨Nat.zero_le _, Nat.zero_le _⟩ (st1 := []) rfl (fun H locs w => ?_)
      refine lv_aload_n hx hb d_MO_call_339 rfl (lv_at hl 0 rfl) ?_
      refine mz_get E w 0 18 (v := .ref (ad 9)) (by decide) rfl rfl ii_11 (by decide) (Nat.le_of_ble_eq_true rfl) k_1201 rfl d_MO_call_340 ?_
      refine lv_iload_n hx hb d_MO_call_343 rfl (lv_at hl 1 rfl) ?_
      refine lv_dup2_11 hx hb d_MO_call_344 rfl rfl ?_
      obtain ⟨hi21, hf⟩ := mz_gd hf
      refine mz_iald E w 9 (by decide) rfl hi21 d_MO_call_345 ?_
      refine lv_iconst (v := (1 : Int32)) hx hb d_MO_call_346 (by decide) ?_
      refine lv_iadd hx hb d_MO_call_347 ?_
      obtain ⟨hi22, hf⟩ := mz_gd hf
      refine mz_iast E w 9 (x := ((mz_gI q19 9 x1.toNatClampNeg) + (1 : Int32))) (by decide) rfl hi22 d_MO_call_348 (fun H locs w => ?_)
      obtain ⟨t23, e_t23, hf⟩ := mz_lt hf
      rw [← e_t23] at w
      refine lv_aload_n hx hb d_MO_call_349 rfl (lv_at hl 0 rfl) ?_
      refine lv_dup hx hb d_MO_call_350 rfl ?_
      refine mz_get E w 0 9 (v := .int (mz_gI t23 0 9)) (by decide) rfl rfl ii_11 (by decide) (Nat.le_of_ble_eq_true rfl) k_1192 rfl d_MO_call_351 ?_
      refine lv_iconst (v := (1 : Int32)) hx hb d_MO_call_354 (by decide) ?_
      refine lv_iadd hx hb d_MO_call_355 ?_
      refine mz_put E w 0 9 (v := ((mz_gI t23 0 9) + (1 : Int32))) (by decide) rfl rfl ii_11 tk_11 nm_11 (by decide) (Nat.le_of_ble_eq_true rfl) k_1192 rfl (tk_11 9 (by decide)) rfl rfl rfl d_MO_call_356 (fun H locs w => ?_)
      obtain ⟨t24, e_t24, hf⟩ := mz_lt hf
      rw [← e_t24] at w
      obtain rfl := Option.some.inj hf
      exact mz_vret E w rfl d_MO_call_359
    · have hf := mz_f hc12 hf
      refine lv_aload_n hx hb d_MO_call_285 rfl (lv_at hl 0 rfl) ?_
      refine lv_bipush (v := (6 : Int32)) hx hb d_MO_call_286 (by decide) ?_
      refine lv_aload_n hx hb d_MO_call_288 rfl (lv_at hl 0 rfl) ?_
      refine mz_get E w 0 63 (v := .int (mz_gI t11 0 63)) (by decide) rfl rfl ii_11 (by decide) (Nat.le_of_ble_eq_true rfl) k_1246 rfl d_MO_call_289 ?_
      obtain ⟨q25, hq26, hf⟩ := mz_bd hf
      refine mz_callV E w (k := 0) (As := [.int (6 : Int32), .int (mz_gI t11 0 63)]) (rest := []) (c_MO_fail hSK l n (6 : Int32) (mz_gI t11 0 63) t11 q25 hq26) (by decide) rfl rfl k_1467 k_15 k_1464 k_1466 ks_53 hm_MO_fail ⟨⟨rfl, rfl⟩, Nat.le_of_ble_eq_true rfl, Nat.le_of_ble_eq_true rfl⟩ rfl hl.1 rfl (Nat.le_of_ble_eq_true rfl) d_MO_call_292 ⟨Nat.zero_le _, Nat.zero_le _⟩ (st1 := []) rfl (fun H locs w => ?_)
      obtain rfl := Option.some.inj hf
      exact mz_vret E w rfl d_MO_call_295
  · have hf := mz_t hc9 hf
    refine lv_aload_n hx hb d_MO_call_254 rfl (lv_at hl 0 rfl) ?_
    refine lv_iconst (v := (1 : Int32)) hx hb d_MO_call_255 (by decide) ?_
    refine lv_aload_n hx hb d_MO_call_256 rfl (lv_at hl 0 rfl) ?_
    refine mz_get E w 0 63 (v := .int (mz_gI t 0 63)) (by decide) rfl rfl ii_11 (by decide) (Nat.le_of_ble_eq_true rfl) k_1246 rfl d_MO_call_257 ?_
    obtain ⟨q27, hq28, hf⟩ := mz_bd hf
    refine mz_callV E w (k := 0) (As := [.int (1 : Int32), .int (mz_gI t 0 63)]) (rest := []) (c_MO_fail hSK l n (1 : Int32) (mz_gI t 0 63) t q27 hq28) (by decide) rfl rfl k_1467 k_15 k_1464 k_1466 ks_53 hm_MO_fail ⟨⟨rfl, rfl⟩, Nat.le_of_ble_eq_true rfl, Nat.le_of_ble_eq_true rfl⟩ rfl hl.1 rfl (Nat.le_of_ble_eq_true rfl) d_MO_call_260 ⟨Nat.zero_le _, Nat.zero_le _⟩ (st1 := []) rfl (fun H locs w => ?_)
    obtain rfl := Option.some.inj hf
    exact mz_vret E w rfl d_MO_call_263
set_option maxRecDepth 100000 in
set_option maxHeartbeats 4000000 in
theorem b_MO_call_241 {SX : State → Heap → Prop} {dC : Nat → ClassId} {dI : Nat → Nat → Nat} {ad en : Nat → Nat} {ca : Nat → ClassId} {p : Program} {l : Launch} {e : Env} {s : State} {m : MethodId} {args : Array Value} {below : List Frame} {meth : Method} {c : Code} {res : mz_St} (E : mz_En SX 55 mz_cl dC dI ad ca p s m meth c prog_15_method_47_code 9 "MacroHouseModel" none) (n : Nat) (K64 : Int32 → Int32 → Int32 → Int32 → Int32 → mz_St → Option mz_St) (hK64 : ∀ (x1 : Int32) (x2 : Int32) (x3 : Int32) (x4 : Int32) (x5 : Int32) (t : mz_St), K64 x1 x2 x3 x4 x5 t = some res → ∀ (H : Heap) (locs : List Loc) (ls : Array Slot), mz_Wd mz_tM 55 mz_cl dC dI ad en ca s t H locs → lv_has ls 9 [(0, .ref (ad 0)), (1, .int x1), (2, .int x2), (3, .int x3), (4, .int x4), (5, .int x5)] → W p l e r_MO_call s m args below meth c H locs 0 0 (MQ below (mz_Q SX mz_tM 55 mz_cl dC dI ad en ca none res) args s 0 0 (mz_A ad 55)) (F0 m 64 ls [])) : ∀ (x1 : Int32) (x2 : Int32) (x3 : Int32) (x4 : Int32) (x5 : Int32) (t : mz_St), f_MO_call_241 n K64 x1 x2 x3 x4 x5 t = some res → ∀ (H : Heap) (locs : List Loc) (ls : Array Slot), mz_Wd mz_tM 55 mz_cl dC dI ad en ca s t H locs → lv_has ls 9 [(0, .ref (ad 0)), (1, .int x1), (2, .int x2), (3, .int x3), (4, .int x4), (5, .int x5)] → W p l e r_MO_call s m args below meth c H locs 0 0 (MQ below (mz_Q SX mz_tM 55 mz_cl dC dI ad en ca none res) args s 0 0 (mz_A ad 55)) (F0 m 241 ls []) := by
  obtain ⟨hx, hb, hml, hown, hcx, -, -, hSX, -, -, hSK⟩ := id E
  intro x1 x2 x3 x4 x5 t hf H locs ls w hl
  unfold f_MO_call_241 at hf
  refine lv_iinc (v := (x5 + (1 : Int32))) (lv' := [(5, .int (x5 + (1 : Int32))), (0, .ref (ad 0)), (1, .int x1), (2, .int x2), (3, .int x3), (4, .int x4)]) hx hb d_MO_call_241 hl (k := 5) rfl rfl (by decide) rfl (fun ls hl => ?_)
  refine lv_goto (tgt := 64) hx hb d_MO_call_244 (by decide) ?_
  exact hK64 x1 x2 x3 x4 (x5 + (1 : Int32)) t hf _ _ _ w (lv_sub hl [1, 2, 3, 4, 5, 0] rfl)
set_option maxRecDepth 100000 in
set_option maxHeartbeats 4000000 in
theorem b_MO_call_179 {SX : State → Heap → Prop} {dC : Nat → ClassId} {dI : Nat → Nat → Nat} {ad en : Nat → Nat} {ca : Nat → ClassId} {p : Program} {l : Launch} {e : Env} {s : State} {m : MethodId} {args : Array Value} {below : List Frame} {meth : Method} {c : Code} {res : mz_St} (E : mz_En SX 55 mz_cl dC dI ad ca p s m meth c prog_15_method_47_code 9 "MacroHouseModel" none) (n : Nat) (K64 : Int32 → Int32 → Int32 → Int32 → Int32 → mz_St → Option mz_St) (hK64 : ∀ (x1 : Int32) (x2 : Int32) (x3 : Int32) (x4 : Int32) (x5 : Int32) (t : mz_St), K64 x1 x2 x3 x4 x5 t = some res → ∀ (H : Heap) (locs : List Loc) (ls : Array Slot), mz_Wd mz_tM 55 mz_cl dC dI ad en ca s t H locs → lv_has ls 9 [(0, .ref (ad 0)), (1, .int x1), (2, .int x2), (3, .int x3), (4, .int x4), (5, .int x5)] → W p l e r_MO_call s m args below meth c H locs 0 0 (MQ below (mz_Q SX mz_tM 55 mz_cl dC dI ad en ca none res) args s 0 0 (mz_A ad 55)) (F0 m 64 ls [])) (k : Nat) : ∀ (x1 : Int32) (x2 : Int32) (x3 : Int32) (x4 : Int32) (x5 : Int32) (x8 : Int32) (t : mz_St), f_MO_call_179 n K64 k x1 x2 x3 x4 x5 x8 t = some res → ∀ (H : Heap) (locs : List Loc) (ls : Array Slot), mz_Wd mz_tM 55 mz_cl dC dI ad en ca s t H locs → lv_has ls 9 [(0, .ref (ad 0)), (1, .int x1), (2, .int x2), (3, .int x3), (4, .int x4), (5, .int x5), (8, .int x8)] → W p l e r_MO_call s m args below meth c H locs 0 0 (MQ below (mz_Q SX mz_tM 55 mz_cl dC dI ad en ca none res) args s 0 0 (mz_A ad 55)) (F0 m 179 ls []) := by
  obtain ⟨hx, hb, hml, hown, hcx, -, -, hSX, -, -, hSK⟩ := id E
  induction k with
  | zero => intro x1 x2 x3 x4 x5 x8 t hf; exact absurd hf (by unfold f_MO_call_179; exact fun h => nomatch h)
  | succ k ih =>
    intro x1 x2 x3 x4 x5 x8 t hf H locs ls w hl
    unfold f_MO_call_179 at hf
    refine lv_iload hx hb d_MO_call_179 (lv_at hl 6 rfl) ?_
    refine lv_aload_n hx hb d_MO_call_181 rfl (lv_at hl 0 rfl) ?_
    refine mz_get E w 0 23 (v := .ref (ad 14)) (by decide) rfl rfl ii_11 (by decide) (Nat.le_of_ble_eq_true rfl) k_1206 rfl d_MO_call_182 ?_
    refine lv_bipush (v := (6 : Int32)) hx hb d_MO_call_185 (by decide) ?_
    refine lv_iload_n hx hb d_MO_call_187 rfl (lv_at hl 1 rfl) ?_
    refine lv_imul hx hb d_MO_call_188 ?_
    refine lv_iload hx hb d_MO_call_189 (lv_at hl 5 rfl) ?_
    refine lv_iadd hx hb d_MO_call_191 ?_
    obtain ⟨hi39, hf⟩ := mz_gd hf
    refine mz_iald E w 14 (by decide) rfl hi39 d_MO_call_192 ?_
    refine lv_icmp_ge (tgt := 228) hx hb d_MO_call_193 (by decide) (fun hc40 => ?_) (fun hc40 => ?_)
    · have hf := mz_t hc40 hf
      refine lv_aload_n hx hb d_MO_call_228 rfl (lv_at hl 0 rfl) ?_
      refine mz_get E w 0 50 (v := .ref (ad 36)) (by decide) rfl rfl ii_11 (by decide) (Nat.le_of_ble_eq_true rfl) k_1233 rfl d_MO_call_229 ?_
      refine lv_iload_n hx hb d_MO_call_232 rfl (lv_at hl 2 rfl) ?_
      refine lv_iload hx hb d_MO_call_233 (lv_at hl 5 rfl) ?_
      refine lv_iadd hx hb d_MO_call_235 ?_
      refine lv_aload_n hx hb d_MO_call_236 rfl (lv_at hl 0 rfl) ?_
      refine mz_get E w 0 51 (v := .int (mz_gI t 0 51)) (by decide) rfl rfl ii_11 (by decide) (Nat.le_of_ble_eq_true rfl) k_1234 rfl d_MO_call_237 ?_
      obtain ⟨hi41, hf⟩ := mz_gd hf
      refine mz_iast E w 36 (x := (mz_gI t 0 51)) (by decide) rfl hi41 d_MO_call_240 (fun H locs w => ?_)
      obtain ⟨t42, e_t42, hf⟩ := mz_lt hf
      rw [← e_t42] at w
      exact b_MO_call_241 E n K64 hK64 x1 x2 x3 x4 x5 t42 hf _ _ _ w (lv_sub hl [0, 1, 2, 3, 4, 5] rfl)
    · have hf := mz_f hc40 hf
      refine lv_aload_n hx hb d_MO_call_196 rfl (lv_at hl 0 rfl) ?_
      refine mz_get E w 0 52 (v := .ref (ad 37)) (by decide) rfl rfl ii_11 (by decide) (Nat.le_of_ble_eq_true rfl) k_1235 rfl d_MO_call_197 ?_
      refine lv_aload_n hx hb d_MO_call_200 rfl (lv_at hl 0 rfl) ?_
      refine mz_get E w 0 51 (v := .int (mz_gI t 0 51)) (by decide) rfl rfl ii_11 (by decide) (Nat.le_of_ble_eq_true rfl) k_1234 rfl d_MO_call_201 ?_
      refine lv_aload_n hx hb d_MO_call_204 rfl (lv_at hl 0 rfl) ?_
      refine mz_get E w 0 1 (v := .ref (ad 1)) (by decide) rfl rfl ii_11 (by decide) (Nat.le_of_ble_eq_true rfl) k_1184 rfl d_MO_call_205 ?_
      refine lv_iload hx hb d_MO_call_208 (lv_at hl 6 rfl) ?_
      obtain ⟨hi43, hf⟩ := mz_gd hf
      refine mz_iald E w 1 (by decide) rfl hi43 d_MO_call_210 ?_
      obtain ⟨hi44, hf⟩ := mz_gd hf
      refine mz_iast E w 37 (x := (mz_gI t 1 x8.toNatClampNeg)) (by decide) rfl hi44 d_MO_call_211 (fun H locs w => ?_)
      obtain ⟨t45, e_t45, hf⟩ := mz_lt hf
      rw [← e_t45] at w
      refine lv_aload_n hx hb d_MO_call_212 rfl (lv_at hl 0 rfl) ?_
      refine lv_dup hx hb d_MO_call_213 rfl ?_
      refine mz_get E w 0 51 (v := .int (mz_gI t45 0 51)) (by decide) rfl rfl ii_11 (by decide) (Nat.le_of_ble_eq_true rfl) k_1234 rfl d_MO_call_214 ?_
      refine lv_iconst (v := (1 : Int32)) hx hb d_MO_call_217 (by decide) ?_
      refine lv_iadd hx hb d_MO_call_218 ?_
      refine mz_put E w 0 51 (v := ((mz_gI t45 0 51) + (1 : Int32))) (by decide) rfl rfl ii_11 tk_11 nm_11 (by decide) (Nat.le_of_ble_eq_true rfl) k_1234 rfl (tk_11 51 (by decide)) rfl rfl rfl d_MO_call_219 (fun H locs w => ?_)
      obtain ⟨t46, e_t46, hf⟩ := mz_lt hf
      rw [← e_t46] at w
      refine lv_iinc (v := (x8 + (1 : Int32))) (lv' := [(8, .int (x8 + (1 : Int32))), (0, .ref (ad 0)), (1, .int x1), (2, .int x2), (3, .int x3), (4, .int x4), (5, .int x5)]) hx hb d_MO_call_222 hl (k := 6) rfl rfl (by decide) rfl (fun ls hl => ?_)
      refine lv_goto (tgt := 179) hx hb d_MO_call_225 (by decide) ?_
      exact ih x1 x2 x3 x4 x5 (x8 + (1 : Int32)) t46 hf _ _ _ w (lv_sub hl [1, 2, 3, 4, 5, 6, 0] rfl)
set_option maxRecDepth 100000 in
set_option maxHeartbeats 4000000 in
theorem b_MO_call_147 {SX : State → Heap → Prop} {dC : Nat → ClassId} {dI : Nat → Nat → Nat} {ad en : Nat → Nat} {ca : Nat → ClassId} {p : Program} {l : Launch} {e : Env} {s : State} {m : MethodId} {args : Array Value} {below : List Frame} {meth : Method} {c : Code} {res : mz_St} (E : mz_En SX 55 mz_cl dC dI ad ca p s m meth c prog_15_method_47_code 9 "MacroHouseModel" none) (n : Nat) (K64 : Int32 → Int32 → Int32 → Int32 → Int32 → mz_St → Option mz_St) (hK64 : ∀ (x1 : Int32) (x2 : Int32) (x3 : Int32) (x4 : Int32) (x5 : Int32) (t : mz_St), K64 x1 x2 x3 x4 x5 t = some res → ∀ (H : Heap) (locs : List Loc) (ls : Array Slot), mz_Wd mz_tM 55 mz_cl dC dI ad en ca s t H locs → lv_has ls 9 [(0, .ref (ad 0)), (1, .int x1), (2, .int x2), (3, .int x3), (4, .int x4), (5, .int x5)] → W p l e r_MO_call s m args below meth c H locs 0 0 (MQ below (mz_Q SX mz_tM 55 mz_cl dC dI ad en ca none res) args s 0 0 (mz_A ad 55)) (F0 m 64 ls [])) : ∀ (x1 : Int32) (x2 : Int32) (x3 : Int32) (x4 : Int32) (x5 : Int32) (x6 : Int32) (x7 : Int32) (s1 : Int32) (t : mz_St), f_MO_call_147 n K64 x1 x2 x3 x4 x5 x6 x7 s1 t = some res → ∀ (H : Heap) (locs : List Loc) (ls : Array Slot), mz_Wd mz_tM 55 mz_cl dC dI ad en ca s t H locs → lv_has ls 9 [(0, .ref (ad 0)), (1, .int x1), (2, .int x2), (3, .int x3), (4, .int x4), (5, .int x5), (6, .int x6), (7, .int x7)] → W p l e r_MO_call s m args below meth c H locs 0 0 (MQ below (mz_Q SX mz_tM 55 mz_cl dC dI ad en ca none res) args s 0 0 (mz_A ad 55)) (F0 m 147 ls [.int s1, .ref (ad 0)]) := by
  obtain ⟨hx, hb, hml, hown, hcx, -, -, hSX, -, -, hSK⟩ := id E
  intro x1 x2 x3 x4 x5 x6 x7 s1 t hf H locs ls w hl
  unfold f_MO_call_147 at hf
  obtain ⟨hz33, hf⟩ := mz_gd hf
  refine mz_put E w 0 62 (v := s1) (by decide) rfl rfl ii_11 tk_11 nm_11 (by decide) (Nat.le_of_ble_eq_true rfl) k_1245 rfl (tk_11 62 (by decide)) rfl (mz_b01 hz33) rfl d_MO_call_147 (fun H locs w => ?_)
  obtain ⟨t34, e_t34, hf⟩ := mz_lt hf
  rw [← e_t34] at w
  refine lv_iload hx hb d_MO_call_150 (lv_at hl 6 rfl) ?_
  refine lv_if_eq (tgt := 241) hx hb d_MO_call_152 (by decide) (fun hc35 => ?_) (fun hc35 => ?_)
  · have hf := mz_t hc35 hf
    exact b_MO_call_241 E n K64 hK64 x1 x2 x3 x4 x5 t34 hf _ _ _ w (lv_sub hl [0, 1, 2, 3, 4, 5] rfl)
  · have hf := mz_f hc35 hf
    refine lv_aload_n hx hb d_MO_call_155 rfl (lv_at hl 0 rfl) ?_
    refine mz_get E w 0 62 (v := .int (mz_gI t34 0 62)) (by decide) rfl rfl ii_11 (by decide) (Nat.le_of_ble_eq_true rfl) k_1245 rfl d_MO_call_156 ?_
    refine lv_if_eq (tgt := 241) hx hb d_MO_call_159 (by decide) (fun hc36 => ?_) (fun hc36 => ?_)
    · have hf := mz_t hc36 hf
      exact b_MO_call_241 E n K64 hK64 x1 x2 x3 x4 x5 t34 hf _ _ _ w (lv_sub hl [0, 1, 2, 3, 4, 5] rfl)
    · have hf := mz_f hc36 hf
      refine lv_aload_n hx hb d_MO_call_162 rfl (lv_at hl 0 rfl) ?_
      refine mz_get E w 0 49 (v := .ref (ad 35)) (by decide) rfl rfl ii_11 (by decide) (Nat.le_of_ble_eq_true rfl) k_1232 rfl d_MO_call_163 ?_
      refine lv_iload_n hx hb d_MO_call_166 rfl (lv_at hl 2 rfl) ?_
      refine lv_iload hx hb d_MO_call_167 (lv_at hl 5 rfl) ?_
      refine lv_iadd hx hb d_MO_call_169 ?_
      refine lv_aload_n hx hb d_MO_call_170 rfl (lv_at hl 0 rfl) ?_
      refine mz_get E w 0 51 (v := .int (mz_gI t34 0 51)) (by decide) rfl rfl ii_11 (by decide) (Nat.le_of_ble_eq_true rfl) k_1234 rfl d_MO_call_171 ?_
      obtain ⟨hi37, hf⟩ := mz_gd hf
      refine mz_iast E w 35 (x := (mz_gI t34 0 51)) (by decide) rfl hi37 d_MO_call_174 (fun H locs w => ?_)
      obtain ⟨t38, e_t38, hf⟩ := mz_lt hf
      rw [← e_t38] at w
      refine lv_iload hx hb d_MO_call_175 (lv_at hl 7 rfl) ?_
      refine lv_istore (lv' := [(8, .int x7), (0, .ref (ad 0)), (1, .int x1), (2, .int x2), (3, .int x3), (4, .int x4), (5, .int x5), (6, .int x6), (7, .int x7)]) hx hb d_MO_call_177 hl (by decide) rfl (fun ls hl => ?_)
      exact b_MO_call_179 E n K64 hK64 n x1 x2 x3 x4 x5 x7 t38 hf _ _ _ w (lv_sub hl [1, 2, 3, 4, 5, 6, 0] rfl)
set_option maxRecDepth 100000 in
set_option maxHeartbeats 4000000 in
theorem b_MO_call_142 {SX : State → Heap → Prop} {dC : Nat → ClassId} {dI : Nat → Nat → Nat} {ad en : Nat → Nat} {ca : Nat → ClassId} {p : Program} {l : Launch} {e : Env} {s : State} {m : MethodId} {args : Array Value} {below : List Frame} {meth : Method} {c : Code} {res : mz_St} (E : mz_En SX 55 mz_cl dC dI ad ca p s m meth c prog_15_method_47_code 9 "MacroHouseModel" none) (n : Nat) (K64 : Int32 → Int32 → Int32 → Int32 → Int32 → mz_St → Option mz_St) (hK64 : ∀ (x1 : Int32) (x2 : Int32) (x3 : Int32) (x4 : Int32) (x5 : Int32) (t : mz_St), K64 x1 x2 x3 x4 x5 t = some res → ∀ (H : Heap) (locs : List Loc) (ls : Array Slot), mz_Wd mz_tM 55 mz_cl dC dI ad en ca s t H locs → lv_has ls 9 [(0, .ref (ad 0)), (1, .int x1), (2, .int x2), (3, .int x3), (4, .int x4), (5, .int x5)] → W p l e r_MO_call s m args below meth c H locs 0 0 (MQ below (mz_Q SX mz_tM 55 mz_cl dC dI ad en ca none res) args s 0 0 (mz_A ad 55)) (F0 m 64 ls [])) : ∀ (x1 : Int32) (x2 : Int32) (x3 : Int32) (x4 : Int32) (x5 : Int32) (x6 : Int32) (x7 : Int32) (t : mz_St), f_MO_call_142 n K64 x1 x2 x3 x4 x5 x6 x7 t = some res → ∀ (H : Heap) (locs : List Loc) (ls : Array Slot), mz_Wd mz_tM 55 mz_cl dC dI ad en ca s t H locs → lv_has ls 9 [(0, .ref (ad 0)), (1, .int x1), (2, .int x2), (3, .int x3), (4, .int x4), (5, .int x5), (6, .int x6), (7, .int x7)] → W p l e r_MO_call s m args below meth c H locs 0 0 (MQ below (mz_Q SX mz_tM 55 mz_cl dC dI ad en ca none res) args s 0 0 (mz_A ad 55)) (F0 m 142 ls [.ref (ad 0)]) := by
  obtain ⟨hx, hb, hml, hown, hcx, -, -, hSX, -, -, hSK⟩ := id E
  intro x1 x2 x3 x4 x5 x6 x7 t hf H locs ls w hl
  unfold f_MO_call_142 at hf
  refine lv_iconst (v := (1 : Int32)) hx hb d_MO_call_142 (by decide) ?_
  refine lv_goto (tgt := 147) hx hb d_MO_call_143 (by decide) ?_
  exact b_MO_call_147 E n K64 hK64 x1 x2 x3 x4 x5 x6 x7 (1 : Int32) t hf _ _ _ w (lv_sub hl [0, 1, 2, 3, 4, 5, 6, 7] rfl)
set_option maxRecDepth 100000 in
set_option maxHeartbeats 4000000 in
theorem b_MO_call_115 {SX : State → Heap → Prop} {dC : Nat → ClassId} {dI : Nat → Nat → Nat} {ad en : Nat → Nat} {ca : Nat → ClassId} {p : Program} {l : Launch} {e : Env} {s : State} {m : MethodId} {args : Array Value} {below : List Frame} {meth : Method} {c : Code} {res : mz_St} (E : mz_En SX 55 mz_cl dC dI ad ca p s m meth c prog_15_method_47_code 9 "MacroHouseModel" none) (n : Nat) (K64 : Int32 → Int32 → Int32 → Int32 → Int32 → mz_St → Option mz_St) (hK64 : ∀ (x1 : Int32) (x2 : Int32) (x3 : Int32) (x4 : Int32) (x5 : Int32) (t : mz_St), K64 x1 x2 x3 x4 x5 t = some res → ∀ (H : Heap) (locs : List Loc) (ls : Array Slot), mz_Wd mz_tM 55 mz_cl dC dI ad en ca s t H locs → lv_has ls 9 [(0, .ref (ad 0)), (1, .int x1), (2, .int x2), (3, .int x3), (4, .int x4), (5, .int x5)] → W p l e r_MO_call s m args below meth c H locs 0 0 (MQ below (mz_Q SX mz_tM 55 mz_cl dC dI ad en ca none res) args s 0 0 (mz_A ad 55)) (F0 m 64 ls [])) : ∀ (x1 : Int32) (x2 : Int32) (x3 : Int32) (x4 : Int32) (x5 : Int32) (s0 : Int32) (t : mz_St), f_MO_call_115 n K64 x1 x2 x3 x4 x5 s0 t = some res → ∀ (H : Heap) (locs : List Loc) (ls : Array Slot), mz_Wd mz_tM 55 mz_cl dC dI ad en ca s t H locs → lv_has ls 9 [(0, .ref (ad 0)), (1, .int x1), (2, .int x2), (3, .int x3), (4, .int x4), (5, .int x5)] → W p l e r_MO_call s m args below meth c H locs 0 0 (MQ below (mz_Q SX mz_tM 55 mz_cl dC dI ad en ca none res) args s 0 0 (mz_A ad 55)) (F0 m 115 ls [.int s0]) := by
  obtain ⟨hx, hb, hml, hown, hcx, -, -, hSX, -, -, hSK⟩ := id E
  intro x1 x2 x3 x4 x5 s0 t hf H locs ls w hl
  unfold f_MO_call_115 at hf
  refine lv_istore (lv' := [(6, .int s0), (0, .ref (ad 0)), (1, .int x1), (2, .int x2), (3, .int x3), (4, .int x4), (5, .int x5)]) hx hb d_MO_call_115 hl (by decide) rfl (fun ls hl => ?_)
  refine lv_aload_n hx hb d_MO_call_117 rfl (lv_at hl 1 rfl) ?_
  refine mz_get E w 0 22 (v := .ref (ad 13)) (by decide) rfl rfl ii_11 (by decide) (Nat.le_of_ble_eq_true rfl) k_1205 rfl d_MO_call_118 ?_
  refine lv_bipush (v := (6 : Int32)) hx hb d_MO_call_121 (by decide) ?_
  refine lv_iload_n hx hb d_MO_call_123 rfl (lv_at hl 2 rfl) ?_
  refine lv_imul hx hb d_MO_call_124 ?_
  refine lv_iload hx hb d_MO_call_125 (lv_at hl 6 rfl) ?_
  refine lv_iadd hx hb d_MO_call_127 ?_
  obtain ⟨hi31, hf⟩ := mz_gd hf
  refine mz_iald E w 13 (by decide) rfl hi31 d_MO_call_128 ?_
  refine lv_istore (lv' := [(7, .int (mz_gI t 13 (((6 : Int32) * x1) + x5).toNatClampNeg)), (6, .int s0), (0, .ref (ad 0)), (1, .int x1), (2, .int x2), (3, .int x3), (4, .int x4), (5, .int x5)]) hx hb d_MO_call_129 hl (by decide) rfl (fun ls hl => ?_)
  refine lv_aload_n hx hb d_MO_call_131 rfl (lv_at hl 2 rfl) ?_
  refine lv_iload hx hb d_MO_call_132 (lv_at hl 1 rfl) ?_
  refine lv_if_eq (tgt := 142) hx hb d_MO_call_134 (by decide) (fun hc32 => ?_) (fun hc32 => ?_)
  · have hf := mz_t hc32 hf
    exact b_MO_call_142 E n K64 hK64 x1 x2 x3 x4 x5 s0 (mz_gI t 13 (((6 : Int32) * x1) + x5).toNatClampNeg) t hf _ _ _ w (lv_sub hl [2, 3, 4, 5, 6, 7, 1, 0] rfl)
  · have hf := mz_f hc32 hf
    refine lv_iload hx hb d_MO_call_137 (lv_at hl 0 rfl) ?_
    refine lv_if_lt (tgt := 146) hx hb d_MO_call_139 (by decide) (fun hc47 => ?_) (fun hc47 => ?_)
    · have hf := mz_t hc47 hf
      refine lv_iconst (v := (0 : Int32)) hx hb d_MO_call_146 (by decide) ?_
      exact b_MO_call_147 E n K64 hK64 x1 x2 x3 x4 x5 s0 (mz_gI t 13 (((6 : Int32) * x1) + x5).toNatClampNeg) (0 : Int32) t hf _ _ _ w (lv_sub hl [2, 3, 4, 5, 6, 7, 1, 0] rfl)
    · have hf := mz_f hc47 hf
      exact b_MO_call_142 E n K64 hK64 x1 x2 x3 x4 x5 s0 (mz_gI t 13 (((6 : Int32) * x1) + x5).toNatClampNeg) t hf _ _ _ w (lv_sub hl [2, 3, 4, 5, 6, 7, 1, 0] rfl)
set_option maxRecDepth 100000 in
set_option maxHeartbeats 4000000 in
theorem b_MO_call_110 {SX : State → Heap → Prop} {dC : Nat → ClassId} {dI : Nat → Nat → Nat} {ad en : Nat → Nat} {ca : Nat → ClassId} {p : Program} {l : Launch} {e : Env} {s : State} {m : MethodId} {args : Array Value} {below : List Frame} {meth : Method} {c : Code} {res : mz_St} (E : mz_En SX 55 mz_cl dC dI ad ca p s m meth c prog_15_method_47_code 9 "MacroHouseModel" none) (n : Nat) (K64 : Int32 → Int32 → Int32 → Int32 → Int32 → mz_St → Option mz_St) (hK64 : ∀ (x1 : Int32) (x2 : Int32) (x3 : Int32) (x4 : Int32) (x5 : Int32) (t : mz_St), K64 x1 x2 x3 x4 x5 t = some res → ∀ (H : Heap) (locs : List Loc) (ls : Array Slot), mz_Wd mz_tM 55 mz_cl dC dI ad en ca s t H locs → lv_has ls 9 [(0, .ref (ad 0)), (1, .int x1), (2, .int x2), (3, .int x3), (4, .int x4), (5, .int x5)] → W p l e r_MO_call s m args below meth c H locs 0 0 (MQ below (mz_Q SX mz_tM 55 mz_cl dC dI ad en ca none res) args s 0 0 (mz_A ad 55)) (F0 m 64 ls [])) : ∀ (x1 : Int32) (x2 : Int32) (x3 : Int32) (x4 : Int32) (x5 : Int32) (t : mz_St), f_MO_call_110 n K64 x1 x2 x3 x4 x5 t = some res → ∀ (H : Heap) (locs : List Loc) (ls : Array Slot), mz_Wd mz_tM 55 mz_cl dC dI ad en ca s t H locs → lv_has ls 9 [(0, .ref (ad 0)), (1, .int x1), (2, .int x2), (3, .int x3), (4, .int x4), (5, .int x5)] → W p l e r_MO_call s m args below meth c H locs 0 0 (MQ below (mz_Q SX mz_tM 55 mz_cl dC dI ad en ca none res) args s 0 0 (mz_A ad 55)) (F0 m 110 ls []) := by
  obtain ⟨hx, hb, hml, hown, hcx, -, -, hSX, -, -, hSK⟩ := id E
  intro x1 x2 x3 x4 x5 t hf H locs ls w hl
  unfold f_MO_call_110 at hf
  refine lv_iconst (v := (1 : Int32)) hx hb d_MO_call_110 (by decide) ?_
  refine lv_goto (tgt := 115) hx hb d_MO_call_111 (by decide) ?_
  exact b_MO_call_115 E n K64 hK64 x1 x2 x3 x4 x5 (1 : Int32) t hf _ _ _ w (lv_sub hl [0, 1, 2, 3, 4, 5] rfl)
set_option maxRecDepth 100000 in
set_option maxHeartbeats 4000000 in
theorem b_MO_call_64 {SX : State → Heap → Prop} {dC : Nat → ClassId} {dI : Nat → Nat → Nat} {ad en : Nat → Nat} {ca : Nat → ClassId} {p : Program} {l : Launch} {e : Env} {s : State} {m : MethodId} {args : Array Value} {below : List Frame} {meth : Method} {c : Code} {res : mz_St} (E : mz_En SX 55 mz_cl dC dI ad ca p s m meth c prog_15_method_47_code 9 "MacroHouseModel" none) (n : Nat) (k : Nat) : ∀ (x1 : Int32) (x2 : Int32) (x3 : Int32) (x4 : Int32) (x5 : Int32) (t : mz_St), f_MO_call_64 n k x1 x2 x3 x4 x5 t = some res → ∀ (H : Heap) (locs : List Loc) (ls : Array Slot), mz_Wd mz_tM 55 mz_cl dC dI ad en ca s t H locs → lv_has ls 9 [(0, .ref (ad 0)), (1, .int x1), (2, .int x2), (3, .int x3), (4, .int x4), (5, .int x5)] → W p l e r_MO_call s m args below meth c H locs 0 0 (MQ below (mz_Q SX mz_tM 55 mz_cl dC dI ad en ca none res) args s 0 0 (mz_A ad 55)) (F0 m 64 ls []) := by
  obtain ⟨hx, hb, hml, hown, hcx, -, -, hSX, -, -, hSK⟩ := id E
  induction k with
  | zero => intro x1 x2 x3 x4 x5 t hf; exact absurd hf (by unfold f_MO_call_64; exact fun h => nomatch h)
  | succ k ih =>
    intro x1 x2 x3 x4 x5 t hf H locs ls w hl
    unfold f_MO_call_64 at hf
    refine lv_iload hx hb d_MO_call_64 (lv_at hl 5 rfl) ?_
    refine lv_aload_n hx hb d_MO_call_66 rfl (lv_at hl 0 rfl) ?_
    refine mz_get E w 0 19 (v := .ref (ad 10)) (by decide) rfl rfl ii_11 (by decide) (Nat.le_of_ble_eq_true rfl) k_1202 rfl d_MO_call_67 ?_
    refine lv_iload_n hx hb d_MO_call_70 rfl (lv_at hl 1 rfl) ?_
    obtain ⟨hi7, hf⟩ := mz_gd hf
    refine mz_iald E w 10 (by decide) rfl hi7 d_MO_call_71 ?_
    refine lv_icmp_ge (tgt := 247) hx hb d_MO_call_72 (by decide) (fun hc8 => ?_) (fun hc8 => ?_)
    · have hf := mz_t hc8 hf
      exact b_MO_call_247 E n x1 x2 x3 t hf _ _ _ w (lv_sub hl [0, 1, 2, 3] rfl)
    · have hf := mz_f hc8 hf
      refine lv_aload_n hx hb d_MO_call_75 rfl (lv_at hl 0 rfl) ?_
      refine mz_get E w 0 62 (v := .int (mz_gI t 0 62)) (by decide) rfl rfl ii_11 (by decide) (Nat.le_of_ble_eq_true rfl) k_1245 rfl d_MO_call_76 ?_
      refine lv_if_eq (tgt := 247) hx hb d_MO_call_79 (by decide) (fun hc29 => ?_) (fun hc29 => ?_)
      · have hf := mz_t hc29 hf
        exact b_MO_call_247 E n x1 x2 x3 t hf _ _ _ w (lv_sub hl [0, 1, 2, 3] rfl)
      · have hf := mz_f hc29 hf
        refine lv_iload hx hb d_MO_call_82 (lv_at hl 5 rfl) ?_
        refine lv_iload hx hb d_MO_call_84 (lv_at hl 4 rfl) ?_
        refine lv_icmp_ge (tgt := 110) hx hb d_MO_call_86 (by decide) (fun hc30 => ?_) (fun hc30 => ?_)
        · have hf := mz_t hc30 hf
          exact b_MO_call_110 E n (f_MO_call_64 n k) ih x1 x2 x3 x4 x5 t hf _ _ _ w (lv_sub hl [0, 1, 2, 3, 4, 5] rfl)
        · have hf := mz_f hc30 hf
          refine lv_aload_n hx hb d_MO_call_89 rfl (lv_at hl 0 rfl) ?_
          refine mz_get E w 0 49 (v := .ref (ad 35)) (by decide) rfl rfl ii_11 (by decide) (Nat.le_of_ble_eq_true rfl) k_1232 rfl d_MO_call_90 ?_
          refine lv_iload_n hx hb d_MO_call_93 rfl (lv_at hl 2 rfl) ?_
          refine lv_iload hx hb d_MO_call_94 (lv_at hl 5 rfl) ?_
          refine lv_iadd hx hb d_MO_call_96 ?_
          obtain ⟨hi48, hf⟩ := mz_gd hf
          refine mz_iald E w 35 (by decide) rfl hi48 d_MO_call_97 ?_
          refine lv_aload_n hx hb d_MO_call_98 rfl (lv_at hl 0 rfl) ?_
          refine mz_get E w 0 50 (v := .ref (ad 36)) (by decide) rfl rfl ii_11 (by decide) (Nat.le_of_ble_eq_true rfl) k_1233 rfl d_MO_call_99 ?_
          refine lv_iload_n hx hb d_MO_call_102 rfl (lv_at hl 2 rfl) ?_
          refine lv_iload hx hb d_MO_call_103 (lv_at hl 5 rfl) ?_
          refine lv_iadd hx hb d_MO_call_105 ?_
          obtain ⟨hi49, hf⟩ := mz_gd hf
          refine mz_iald E w 36 (by decide) rfl hi49 d_MO_call_106 ?_
          refine lv_icmp_ne (tgt := 114) hx hb d_MO_call_107 (by decide) (fun hc50 => ?_) (fun hc50 => ?_)
          · have hf := mz_f hc50 hf
            refine lv_iconst (v := (0 : Int32)) hx hb d_MO_call_114 (by decide) ?_
            exact b_MO_call_115 E n (f_MO_call_64 n k) ih x1 x2 x3 x4 x5 (0 : Int32) t hf _ _ _ w (lv_sub hl [0, 1, 2, 3, 4, 5] rfl)
          · have hf := mz_t hc50 hf
            exact b_MO_call_110 E n (f_MO_call_64 n k) ih x1 x2 x3 x4 x5 t hf _ _ _ w (lv_sub hl [0, 1, 2, 3, 4, 5] rfl)
set_option maxRecDepth 100000 in
set_option maxHeartbeats 4000000 in
theorem b_MO_call_58 {SX : State → Heap → Prop} {dC : Nat → ClassId} {dI : Nat → Nat → Nat} {ad en : Nat → Nat} {ca : Nat → ClassId} {p : Program} {l : Launch} {e : Env} {s : State} {m : MethodId} {args : Array Value} {below : List Frame} {meth : Method} {c : Code} {res : mz_St} (E : mz_En SX 55 mz_cl dC dI ad ca p s m meth c prog_15_method_47_code 9 "MacroHouseModel" none) (n : Nat) : ∀ (x1 : Int32) (x2 : Int32) (x3 : Int32) (x4 : Int32) (s1 : Int32) (t : mz_St), f_MO_call_58 n x1 x2 x3 x4 s1 t = some res → ∀ (H : Heap) (locs : List Loc) (ls : Array Slot), mz_Wd mz_tM 55 mz_cl dC dI ad en ca s t H locs → lv_has ls 9 [(0, .ref (ad 0)), (1, .int x1), (2, .int x2), (3, .int x3), (4, .int x4)] → W p l e r_MO_call s m args below meth c H locs 0 0 (MQ below (mz_Q SX mz_tM 55 mz_cl dC dI ad en ca none res) args s 0 0 (mz_A ad 55)) (F0 m 58 ls [.int s1, .ref (ad 0)]) := by
  obtain ⟨hx, hb, hml, hown, hcx, -, -, hSX, -, -, hSK⟩ := id E
  intro x1 x2 x3 x4 s1 t hf H locs ls w hl
  unfold f_MO_call_58 at hf
  obtain ⟨hz5, hf⟩ := mz_gd hf
  refine mz_put E w 0 62 (v := s1) (by decide) rfl rfl ii_11 tk_11 nm_11 (by decide) (Nat.le_of_ble_eq_true rfl) k_1245 rfl (tk_11 62 (by decide)) rfl (mz_b01 hz5) rfl d_MO_call_58 (fun H locs w => ?_)
  obtain ⟨t6, e_t6, hf⟩ := mz_lt hf
  rw [← e_t6] at w
  refine lv_iconst (v := (0 : Int32)) hx hb d_MO_call_61 (by decide) ?_
  refine lv_istore (lv' := [(5, .int (0 : Int32)), (0, .ref (ad 0)), (1, .int x1), (2, .int x2), (3, .int x3), (4, .int x4)]) hx hb d_MO_call_62 hl (by decide) rfl (fun ls hl => ?_)
  exact b_MO_call_64 E n n x1 x2 x3 x4 (0 : Int32) t6 hf _ _ _ w (lv_sub hl [1, 2, 3, 4, 5, 0] rfl)
set_option maxRecDepth 100000 in
set_option maxHeartbeats 4000000 in
theorem b_MO_call_57 {SX : State → Heap → Prop} {dC : Nat → ClassId} {dI : Nat → Nat → Nat} {ad en : Nat → Nat} {ca : Nat → ClassId} {p : Program} {l : Launch} {e : Env} {s : State} {m : MethodId} {args : Array Value} {below : List Frame} {meth : Method} {c : Code} {res : mz_St} (E : mz_En SX 55 mz_cl dC dI ad ca p s m meth c prog_15_method_47_code 9 "MacroHouseModel" none) (n : Nat) : ∀ (x1 : Int32) (x2 : Int32) (x3 : Int32) (x4 : Int32) (t : mz_St), f_MO_call_57 n x1 x2 x3 x4 t = some res → ∀ (H : Heap) (locs : List Loc) (ls : Array Slot), mz_Wd mz_tM 55 mz_cl dC dI ad en ca s t H locs → lv_has ls 9 [(0, .ref (ad 0)), (1, .int x1), (2, .int x2), (3, .int x3), (4, .int x4)] → W p l e r_MO_call s m args below meth c H locs 0 0 (MQ below (mz_Q SX mz_tM 55 mz_cl dC dI ad en ca none res) args s 0 0 (mz_A ad 55)) (F0 m 57 ls [.ref (ad 0)]) := by
  obtain ⟨hx, hb, hml, hown, hcx, -, -, hSX, -, -, hSK⟩ := id E
  intro x1 x2 x3 x4 t hf H locs ls w hl
  unfold f_MO_call_57 at hf
  refine lv_iconst (v := (0 : Int32)) hx hb d_MO_call_57 (by decide) ?_
  exact b_MO_call_58 E n x1 x2 x3 x4 (0 : Int32) t hf _ _ _ w (lv_sub hl [0, 1, 2, 3, 4] rfl)
set_option maxRecDepth 100000 in
set_option maxHeartbeats 4000000 in
theorem b_MO_call_34 {SX : State → Heap → Prop} {dC : Nat → ClassId} {dI : Nat → Nat → Nat} {ad en : Nat → Nat} {ca : Nat → ClassId} {p : Program} {l : Launch} {e : Env} {s : State} {m : MethodId} {args : Array Value} {below : List Frame} {meth : Method} {c : Code} {res : mz_St} (E : mz_En SX 55 mz_cl dC dI ad ca p s m meth c prog_15_method_47_code 9 "MacroHouseModel" none) (n : Nat) : ∀ (x1 : Int32) (x2 : Int32) (x3 : Int32) (x4 : Int32) (t : mz_St), f_MO_call_34 n x1 x2 x3 x4 t = some res → ∀ (H : Heap) (locs : List Loc) (ls : Array Slot), mz_Wd mz_tM 55 mz_cl dC dI ad en ca s t H locs → lv_has ls 9 [(0, .ref (ad 0)), (1, .int x1), (2, .int x2), (3, .int x3), (4, .int x4)] → W p l e r_MO_call s m args below meth c H locs 0 0 (MQ below (mz_Q SX mz_tM 55 mz_cl dC dI ad en ca none res) args s 0 0 (mz_A ad 55)) (F0 m 34 ls []) := by
  obtain ⟨hx, hb, hml, hown, hcx, -, -, hSX, -, -, hSK⟩ := id E
  intro x1 x2 x3 x4 t hf H locs ls w hl
  unfold f_MO_call_34 at hf
  refine lv_aload_n hx hb d_MO_call_34 rfl (lv_at hl 0 rfl) ?_
  refine lv_aload_n hx hb d_MO_call_35 rfl (lv_at hl 0 rfl) ?_
  refine mz_get E w 0 62 (v := .int (mz_gI t 0 62)) (by decide) rfl rfl ii_11 (by decide) (Nat.le_of_ble_eq_true rfl) k_1245 rfl d_MO_call_36 ?_
  refine lv_if_eq (tgt := 57) hx hb d_MO_call_39 (by decide) (fun hc4 => ?_) (fun hc4 => ?_)
  · have hf := mz_t hc4 hf
    exact b_MO_call_57 E n x1 x2 x3 x4 t hf _ _ _ w (lv_sub hl [0, 1, 2, 3, 4] rfl)
  · have hf := mz_f hc4 hf
    refine lv_iload hx hb d_MO_call_42 (lv_at hl 4 rfl) ?_
    refine lv_aload_n hx hb d_MO_call_44 rfl (lv_at hl 0 rfl) ?_
    refine mz_get E w 0 19 (v := .ref (ad 10)) (by decide) rfl rfl ii_11 (by decide) (Nat.le_of_ble_eq_true rfl) k_1202 rfl d_MO_call_45 ?_
    refine lv_iload_n hx hb d_MO_call_48 rfl (lv_at hl 1 rfl) ?_
    obtain ⟨hi51, hf⟩ := mz_gd hf
    refine mz_iald E w 10 (by decide) rfl hi51 d_MO_call_49 ?_
    refine lv_icmp_gt (tgt := 57) hx hb d_MO_call_50 (by decide) (fun hc52 => ?_) (fun hc52 => ?_)
    · have hf := mz_t hc52 hf
      exact b_MO_call_57 E n x1 x2 x3 x4 t hf _ _ _ w (lv_sub hl [0, 1, 2, 3, 4] rfl)
    · have hf := mz_f hc52 hf
      refine lv_iconst (v := (1 : Int32)) hx hb d_MO_call_53 (by decide) ?_
      refine lv_goto (tgt := 58) hx hb d_MO_call_54 (by decide) ?_
      exact b_MO_call_58 E n x1 x2 x3 x4 (1 : Int32) t hf _ _ _ w (lv_sub hl [0, 1, 2, 3, 4] rfl)
set_option maxRecDepth 100000 in
set_option maxHeartbeats 4000000 in
theorem c_MO_call {SX : State → Heap → Prop} {dC : Nat → ClassId} {dI : Nat → Nat → Nat} {ad en : Nat → Nat} {ca : Nat → ClassId} (hSK : mz_SK SX ad 55) (l : Launch) (n : Nat) (x1 : Int32) (t : mz_St) (res : mz_St) (hf : f_MO_call n x1 t = some res) : mz_C SX mz_tM 55 mz_cl dC dI ad en ca l y_MO_call prog_15_method_47_code 9 none r_MO_call [.ref (ad 0), .int x1] t none res := by
  unfold f_MO_call at hf
  refine mz_met hSK (by decide) (Nat.le_of_ble_eq_true rfl) ?_
  intro p e s m args below meth c ls E w hl
  obtain ⟨hx, hb, hml, hown, hcx, -, -, hSX, -, -, -⟩ := id E
  have hl : lv_has ls 9 [(0, .ref (ad 0)), (1, .int x1)] := hl
  refine lv_aload_n hx hb d_MO_call_0 rfl (lv_at hl 0 rfl) ?_
  refine mz_get E w 0 48 (v := .int (mz_gI t 0 48)) (by decide) rfl rfl ii_11 (by decide) (Nat.le_of_ble_eq_true rfl) k_1231 rfl d_MO_call_1 ?_
  refine lv_istore_n (lv' := [(2, .int (mz_gI t 0 48)), (0, .ref (ad 0)), (1, .int x1)]) hx hb d_MO_call_4 rfl hl (by decide) rfl (fun ls hl => ?_)
  refine lv_aload_n hx hb d_MO_call_5 rfl (lv_at hl 1 rfl) ?_
  refine mz_get E w 0 51 (v := .int (mz_gI t 0 51)) (by decide) rfl rfl ii_11 (by decide) (Nat.le_of_ble_eq_true rfl) k_1234 rfl d_MO_call_6 ?_
  refine lv_istore_n (lv' := [(3, .int (mz_gI t 0 51)), (2, .int (mz_gI t 0 48)), (0, .ref (ad 0)), (1, .int x1)]) hx hb d_MO_call_9 rfl hl (by decide) rfl (fun ls hl => ?_)
  refine lv_iconst (v := (0 : Int32)) hx hb d_MO_call_10 (by decide) ?_
  refine lv_istore (lv' := [(4, .int (0 : Int32)), (3, .int (mz_gI t 0 51)), (2, .int (mz_gI t 0 48)), (0, .ref (ad 0)), (1, .int x1)]) hx hb d_MO_call_11 hl (by decide) rfl (fun ls hl => ?_)
  refine lv_aload_n hx hb d_MO_call_13 rfl (lv_at hl 3 rfl) ?_
  obtain ⟨q1, hq2, hf⟩ := mz_bd hf
  refine mz_callV E w (k := 0) (As := []) (rest := []) (c_MO_blanks hSK l n t q1 hq2) (by decide) rfl rfl k_1549 k_15 k_1546 k_1548 ks_67 hm_MO_blanks ⟨⟨rfl, rfl⟩, Nat.le_of_ble_eq_true rfl, Nat.le_of_ble_eq_true rfl⟩ rfl hl.1 rfl (Nat.le_of_ble_eq_true rfl) d_MO_call_14 ⟨Nat.zero_le _, Nat.zero_le _⟩ (st1 := []) rfl (fun H locs w => ?_)
  refine lv_aload_n hx hb d_MO_call_17 rfl (lv_at hl 3 rfl) ?_
  refine mz_get E w 0 61 (v := .int (mz_gI q1 0 61)) (by decide) rfl rfl ii_11 (by decide) (Nat.le_of_ble_eq_true rfl) k_1244 rfl d_MO_call_18 ?_
  refine lv_aload_n hx hb d_MO_call_21 rfl (lv_at hl 3 rfl) ?_
  refine mz_get E w 0 60 (v := .int (mz_gI q1 0 60)) (by decide) rfl rfl ii_11 (by decide) (Nat.le_of_ble_eq_true rfl) k_1243 rfl d_MO_call_22 ?_
  refine lv_icmp_ge (tgt := 34) hx hb d_MO_call_25 (by decide) (fun hc3 => ?_) (fun hc3 => ?_)
  · have hf := mz_t hc3 hf
    exact b_MO_call_34 E n x1 (mz_gI t 0 48) (mz_gI t 0 51) (0 : Int32) q1 hf _ _ _ w (lv_sub hl [3, 4, 2, 1, 0] rfl)
  · have hf := mz_f hc3 hf
    refine lv_aload_n hx hb d_MO_call_28 rfl (lv_at hl 3 rfl) ?_
    obtain ⟨q53, hq54, hf⟩ := mz_bd hf
    refine mz_callV E w (k := 0) (As := []) (rest := []) (c_MO_readTexts hSK l n q1 q53 hq54) (by decide) rfl rfl k_1664 k_15 k_1661 k_1663 ks_95 hm_MO_readTexts ⟨⟨rfl, rfl⟩, Nat.le_of_ble_eq_true rfl, Nat.le_of_ble_eq_true rfl⟩ rfl hl.1 rfl (Nat.le_of_ble_eq_true rfl) d_MO_call_29 ⟨Nat.zero_le _, Nat.zero_le _⟩ (st1 := [.int q53.1]) rfl (fun H locs w => ?_)
    refine lv_istore (lv' := [(4, .int q53.1), (3, .int (mz_gI t 0 51)), (2, .int (mz_gI t 0 48)), (0, .ref (ad 0)), (1, .int x1)]) hx hb d_MO_call_32 hl (by decide) rfl (fun ls hl => ?_)
    exact b_MO_call_34 E n x1 (mz_gI t 0 48) (mz_gI t 0 51) q53.1 q53.2 hf _ _ _ w (lv_sub hl [3, 4, 2, 1, 0] rfl)
