/-! MacroHouse$Signs.at(I)I -/
abbrev r_SI_at : Room := { frames := 0, cells := 0, slots := 0, locals := 0 }
def f_SI_at (n : Nat) (x1 : Int32) (t : mz_St) : Option (Int32 × mz_St) := if x1 < 0 then (some ((-1 : Int32), t)) else (if (6600 : Int32) ≤ x1 then (some ((-1 : Int32), t)) else (if ¬ (x1 < 0 ∨ 6600 ≤ x1.toNatClampNeg) then (some ((mz_gI t 2 x1.toNatClampNeg), t)) else none))
set_option maxRecDepth 100000 in
set_option maxHeartbeats 4000000 in
theorem c_SI_at {SX : State → Heap → Prop} {dC : Nat → ClassId} {dI : Nat → Nat → Nat} {ad en : Nat → Nat} {ca : Nat → ClassId} (hSK : mz_SK SX ad 80) (l : Launch) (n : Nat) (x1 : Int32) (t : mz_St) (res : (Int32 × mz_St)) (hf : f_SI_at n x1 t = some res) : mz_C SX mz_tC 80 mz_cl dC dI ad en ca l y_SI_at prog_12_method_5_code 2 (some (.int)) (r_SI_at) [.ref (ad 1), .int x1] t (some (.int res.1)) res.2 := by
  unfold f_SI_at at hf
  refine mz_met hSK (by decide) (Nat.le_of_ble_eq_true rfl) ?_
  intro p e s m args below meth c ls E w hl
  obtain ⟨hx, hb, hml, hown, hcx, -, -, hSX, -, -, -⟩ := id E
  have hl : lv_has ls 2 [(0, .ref (ad 1)), (1, .int x1)] := hl
  refine lv_iload_n hx hb d_SI_at_0 rfl (lv_at hl 1 rfl) ?_
  refine lv_if_lt (tgt := 22) hx hb d_SI_at_1 (by decide) (fun hc1 => ?_) (fun hc1 => ?_)
  · have hf := mz_t hc1 hf
    refine lv_iconst (v := (-1 : Int32)) hx hb d_SI_at_22 (by decide) ?_
    obtain rfl := Option.some.inj hf
    exact mz_iret E w rfl d_SI_at_23
  · have hf := mz_f hc1 hf
    refine lv_iload_n hx hb d_SI_at_4 rfl (lv_at hl 1 rfl) ?_
    refine lv_aload_n hx hb d_SI_at_5 rfl (lv_at hl 0 rfl) ?_
    refine mz_get E w 1 0 (v := .ref (ad 2)) (by decide) rfl rfl ii_1 (by decide) (Nat.le_of_ble_eq_true rfl) k_41 rfl d_SI_at_6 ?_
    refine mz_alen E w 2 (v := (6600 : Int32)) (by decide) rfl (by decide) rfl d_SI_at_9 ?_
    refine lv_icmp_ge (tgt := 22) hx hb d_SI_at_10 (by decide) (fun hc2 => ?_) (fun hc2 => ?_)
    · have hf := mz_t hc2 hf
      refine lv_iconst (v := (-1 : Int32)) hx hb d_SI_at_22 (by decide) ?_
      obtain rfl := Option.some.inj hf
      exact mz_iret E w rfl d_SI_at_23
    · have hf := mz_f hc2 hf
      refine lv_aload_n hx hb d_SI_at_13 rfl (lv_at hl 0 rfl) ?_
      refine mz_get E w 1 0 (v := .ref (ad 2)) (by decide) rfl rfl ii_1 (by decide) (Nat.le_of_ble_eq_true rfl) k_41 rfl d_SI_at_14 ?_
      refine lv_iload_n hx hb d_SI_at_17 rfl (lv_at hl 1 rfl) ?_
      obtain ⟨hi3, hf⟩ := mz_gd hf
      refine mz_bald E w 2 (by decide) rfl hi3 d_SI_at_18 ?_
      refine lv_goto (tgt := 23) hx hb d_SI_at_19 (by decide) ?_
      obtain rfl := Option.some.inj hf
      exact mz_iret E w rfl d_SI_at_23

/-! MacroHouse$Signs.find(III)I -/
abbrev r_SI_find : Room := { frames := 1, cells := 0, slots := 0, locals := 21 }
def f_SI_find_3 (n : Nat) : Nat → Int32 → Int32 → Int32 → mz_St → Option (Int32 × mz_St)
  | 0, _, _, _, _ => none
  | k + 1, x1, x3, x4, t => if x3 ≤ x4 then (some (x4, t)) else ((f_SI_at n x4 t).bind fun q2 => if q2.1 = x1 then (some (x4, q2.2)) else ((f_SI_find_3 n k) x1 x3 (x4 + (1 : Int32)) q2.2))
def f_SI_find (n : Nat) (x1 : Int32) (x2 : Int32) (x3 : Int32) (t : mz_St) : Option (Int32 × mz_St) := f_SI_find_3 n n x1 x3 x2 t
set_option maxRecDepth 100000 in
set_option maxHeartbeats 4000000 in
theorem b_SI_find_3 {SX : State → Heap → Prop} {dC : Nat → ClassId} {dI : Nat → Nat → Nat} {ad en : Nat → Nat} {ca : Nat → ClassId} {p : Program} {l : Launch} {e : Env} {s : State} {m : MethodId} {args : Array Value} {below : List Frame} {meth : Method} {c : Code} {res : (Int32 × mz_St)} (E : mz_En SX 80 mz_cl dC dI ad ca p s m meth c prog_12_method_10_code 5 "MacroHouse$Signs" (some (.int))) (n : Nat) (k : Nat) : ∀ (x1 : Int32) (x3 : Int32) (x4 : Int32) (t : mz_St), f_SI_find_3 n k x1 x3 x4 t = some res → ∀ (H : Heap) (locs : List Loc) (ls : Array Slot), mz_Wd mz_tC 80 mz_cl dC dI ad en ca s t H locs → lv_has ls 5 [(0, .ref (ad 1)), (1, .int x1), (3, .int x3), (4, .int x4)] → W p l e (r_SI_find) s m args below meth c H locs 0 0 (MQ below (mz_Q SX mz_tC 80 mz_cl dC dI ad en ca (some (.int res.1)) res.2) args s 0 0 (mz_A ad 80)) (F0 m 3 ls []) := by
  obtain ⟨hx, hb, hml, hown, hcx, -, -, hSX, -, -, hSK⟩ := id E
  induction k with
  | zero => intro x1 x3 x4 t hf; exact absurd hf (by unfold f_SI_find_3; exact fun h => nomatch h)
  | succ k ih =>
    intro x1 x3 x4 t hf H locs ls w hl
    unfold f_SI_find_3 at hf
    refine lv_iload hx hb d_SI_find_3 (lv_at hl 3 rfl) ?_
    refine lv_iload_n hx hb d_SI_find_5 rfl (lv_at hl 2 rfl) ?_
    refine lv_icmp_ge (tgt := 25) hx hb d_SI_find_6 (by decide) (fun hc1 => ?_) (fun hc1 => ?_)
    · have hf := mz_t hc1 hf
      refine lv_iload hx hb d_SI_find_25 (lv_at hl 3 rfl) ?_
      obtain rfl := Option.some.inj hf
      exact mz_iret E w rfl d_SI_find_27
    · have hf := mz_f hc1 hf
      refine lv_aload_n hx hb d_SI_find_9 rfl (lv_at hl 0 rfl) ?_
      refine lv_iload hx hb d_SI_find_10 (lv_at hl 3 rfl) ?_
      obtain ⟨q2, hq3, hf⟩ := mz_bd hf
      refine mz_callV E w (k := 1) (As := [.int x4]) (rest := []) (c_SI_at hSK l n x4 t q2 hq3) (by decide) rfl rfl k_450 k_2 k_447 k_448 k_449 hm_SI_at ⟨⟨rfl, rfl⟩, Nat.le_of_ble_eq_true rfl, Nat.le_of_ble_eq_true rfl⟩ rfl hl.1 rfl (Nat.le_of_ble_eq_true rfl) d_SI_find_12 ⟨Nat.zero_le _, Nat.zero_le _⟩ (st1 := [.int q2.1]) rfl (fun H locs w => ?_)
      refine lv_iload_n hx hb d_SI_find_15 rfl (lv_at hl 1 rfl) ?_
      refine lv_icmp_eq (tgt := 25) hx hb d_SI_find_16 (by decide) (fun hc4 => ?_) (fun hc4 => ?_)
      · have hf := mz_t hc4 hf
        refine lv_iload hx hb d_SI_find_25 (lv_at hl 3 rfl) ?_
        obtain rfl := Option.some.inj hf
        exact mz_iret E w rfl d_SI_find_27
      · have hf := mz_f hc4 hf
        refine lv_iinc (v := (x4 + (1 : Int32))) (lv' := [(4, .int (x4 + (1 : Int32))), (0, .ref (ad 1)), (1, .int x1), (3, .int x3)]) hx hb d_SI_find_19 hl (k := 3) rfl rfl (by decide) rfl (fun ls hl => ?_)
        refine lv_goto (tgt := 3) hx hb d_SI_find_22 (by decide) ?_
        exact ih x1 x3 (x4 + (1 : Int32)) q2.2 hf _ _ _ w (lv_sub hl [1, 2, 3, 0] rfl)
set_option maxRecDepth 100000 in
set_option maxHeartbeats 4000000 in
theorem c_SI_find {SX : State → Heap → Prop} {dC : Nat → ClassId} {dI : Nat → Nat → Nat} {ad en : Nat → Nat} {ca : Nat → ClassId} (hSK : mz_SK SX ad 80) (l : Launch) (n : Nat) (x1 : Int32) (x2 : Int32) (x3 : Int32) (t : mz_St) (res : (Int32 × mz_St)) (hf : f_SI_find n x1 x2 x3 t = some res) : mz_C SX mz_tC 80 mz_cl dC dI ad en ca l y_SI_find prog_12_method_10_code 5 (some (.int)) (r_SI_find) [.ref (ad 1), .int x1, .int x2, .int x3] t (some (.int res.1)) res.2 := by
  unfold f_SI_find at hf
  refine mz_met hSK (by decide) (Nat.le_of_ble_eq_true rfl) ?_
  intro p e s m args below meth c ls E w hl
  obtain ⟨hx, hb, hml, hown, hcx, -, -, hSX, -, -, -⟩ := id E
  have hl : lv_has ls 5 [(0, .ref (ad 1)), (1, .int x1), (2, .int x2), (3, .int x3)] := hl
  refine lv_iload_n hx hb d_SI_find_0 rfl (lv_at hl 2 rfl) ?_
  refine lv_istore (lv' := [(4, .int x2), (0, .ref (ad 1)), (1, .int x1), (2, .int x2), (3, .int x3)]) hx hb d_SI_find_1 hl (by decide) rfl (fun ls hl => ?_)
  exact b_SI_find_3 E n n x1 x3 x2 t hf _ _ _ w (lv_sub hl [1, 2, 4, 0] rfl)

/-! MacroHouse$Signs.behindBlanks(II)I -/
abbrev r_SI_behindBlanks : Room := { frames := 0, cells := 0, slots := 0, locals := 0 }
def f_SI_behindBlanks_2 (n : Nat) : Nat → Int32 → Int32 → mz_St → Option (Int32 × mz_St)
  | 0, _, _, _ => none
  | k + 1, x2, x3, t => if x2 ≤ x3 then (some (x3, t)) else (if x3 < 0 then (some (x3, t)) else (if (6600 : Int32) ≤ x3 then (some (x3, t)) else (if ¬ (x3 < 0 ∨ 6600 ≤ x3.toNatClampNeg) then (if (mz_gI t 2 x3.toNatClampNeg) = (32 : Int32) then ((f_SI_behindBlanks_2 n k) x2 (x3 + (1 : Int32)) t) else (some (x3, t))) else none)))
def f_SI_behindBlanks (n : Nat) (x1 : Int32) (x2 : Int32) (t : mz_St) : Option (Int32 × mz_St) := f_SI_behindBlanks_2 n n x2 x1 t
set_option maxRecDepth 100000 in
set_option maxHeartbeats 4000000 in
theorem b_SI_behindBlanks_2 {SX : State → Heap → Prop} {dC : Nat → ClassId} {dI : Nat → Nat → Nat} {ad en : Nat → Nat} {ca : Nat → ClassId} {p : Program} {l : Launch} {e : Env} {s : State} {m : MethodId} {args : Array Value} {below : List Frame} {meth : Method} {c : Code} {res : (Int32 × mz_St)} (E : mz_En SX 80 mz_cl dC dI ad ca p s m meth c prog_12_method_8_code 4 "MacroHouse$Signs" (some (.int))) (n : Nat) (k : Nat) : ∀ (x2 : Int32) (x3 : Int32) (t : mz_St), f_SI_behindBlanks_2 n k x2 x3 t = some res → ∀ (H : Heap) (locs : List Loc) (ls : Array Slot), mz_Wd mz_tC 80 mz_cl dC dI ad en ca s t H locs → lv_has ls 4 [(0, .ref (ad 1)), (2, .int x2), (3, .int x3)] → W p l e (r_SI_behindBlanks) s m args below meth c H locs 0 0 (MQ below (mz_Q SX mz_tC 80 mz_cl dC dI ad en ca (some (.int res.1)) res.2) args s 0 0 (mz_A ad 80)) (F0 m 2 ls []) := by
  obtain ⟨hx, hb, hml, hown, hcx, -, -, hSX, -, -, hSK⟩ := id E
  induction k with
  | zero => intro x2 x3 t hf; exact absurd hf (by unfold f_SI_behindBlanks_2; exact fun h => nomatch h)
  | succ k ih =>
    intro x2 x3 t hf H locs ls w hl
    unfold f_SI_behindBlanks_2 at hf
    refine lv_iload_n hx hb d_SI_behindBlanks_2 rfl (lv_at hl 2 rfl) ?_
    refine lv_iload_n hx hb d_SI_behindBlanks_3 rfl (lv_at hl 1 rfl) ?_
    refine lv_icmp_ge (tgt := 37) hx hb d_SI_behindBlanks_4 (by decide) (fun hc1 => ?_) (fun hc1 => ?_)
    · have hf := mz_t hc1 hf
      refine lv_iload_n hx hb d_SI_behindBlanks_37 rfl (lv_at hl 2 rfl) ?_
      obtain rfl := Option.some.inj hf
      exact mz_iret E w rfl d_SI_behindBlanks_38
    · have hf := mz_f hc1 hf
      refine lv_iload_n hx hb d_SI_behindBlanks_7 rfl (lv_at hl 2 rfl) ?_
      refine lv_if_lt (tgt := 37) hx hb d_SI_behindBlanks_8 (by decide) (fun hc2 => ?_) (fun hc2 => ?_)
      · have hf := mz_t hc2 hf
        refine lv_iload_n hx hb d_SI_behindBlanks_37 rfl (lv_at hl 2 rfl) ?_
        obtain rfl := Option.some.inj hf
        exact mz_iret E w rfl d_SI_behindBlanks_38
      · have hf := mz_f hc2 hf
        refine lv_iload_n hx hb d_SI_behindBlanks_11 rfl (lv_at hl 2 rfl) ?_
        refine lv_aload_n hx hb d_SI_behindBlanks_12 rfl (lv_at hl 0 rfl) ?_
        refine mz_get E w 1 0 (v := .ref (ad 2)) (by decide) rfl rfl ii_1 (by decide) (Nat.le_of_ble_eq_true rfl) k_41 rfl d_SI_behindBlanks_13 ?_
        refine mz_alen E w 2 (v := (6600 : Int32)) (by decide) rfl (by decide) rfl d_SI_behindBlanks_16 ?_
        refine lv_icmp_ge (tgt := 37) hx hb d_SI_behindBlanks_17 (by decide) (fun hc3 => ?_) (fun hc3 => ?_)
        · have hf := mz_t hc3 hf
          refine lv_iload_n hx hb d_SI_behindBlanks_37 rfl (lv_at hl 2 rfl) ?_
          obtain rfl := Option.some.inj hf
          exact mz_iret E w rfl d_SI_behindBlanks_38
        · have hf := mz_f hc3 hf
          refine lv_aload_n hx hb d_SI_behindBlanks_20 rfl (lv_at hl 0 rfl) ?_
          refine mz_get E w 1 0 (v := .ref (ad 2)) (by decide) rfl rfl ii_1 (by decide) (Nat.le_of_ble_eq_true rfl) k_41 rfl d_SI_behindBlanks_21 ?_
          refine lv_iload_n hx hb d_SI_behindBlanks_24 rfl (lv_at hl 2 rfl) ?_
          obtain ⟨hi4, hf⟩ := mz_gd hf
          refine mz_bald E w 2 (by decide) rfl hi4 d_SI_behindBlanks_25 ?_
          refine lv_bipush (v := (32 : Int32)) hx hb d_SI_behindBlanks_26 (by decide) ?_
          refine lv_icmp_ne (tgt := 37) hx hb d_SI_behindBlanks_28 (by decide) (fun hc5 => ?_) (fun hc5 => ?_)
          · have hf := mz_f hc5 hf
            refine lv_iload_n hx hb d_SI_behindBlanks_37 rfl (lv_at hl 2 rfl) ?_
            obtain rfl := Option.some.inj hf
            exact mz_iret E w rfl d_SI_behindBlanks_38
          · have hf := mz_t hc5 hf
            refine lv_iinc (v := (x3 + (1 : Int32))) (lv' := [(3, .int (x3 + (1 : Int32))), (0, .ref (ad 1)), (2, .int x2)]) hx hb d_SI_behindBlanks_31 hl (k := 2) rfl rfl (by decide) rfl (fun ls hl => ?_)
            refine lv_goto (tgt := 2) hx hb d_SI_behindBlanks_34 (by decide) ?_
            exact ih x2 (x3 + (1 : Int32)) t hf _ _ _ w (lv_sub hl [1, 2, 0] rfl)
set_option maxRecDepth 100000 in
set_option maxHeartbeats 4000000 in
theorem c_SI_behindBlanks {SX : State → Heap → Prop} {dC : Nat → ClassId} {dI : Nat → Nat → Nat} {ad en : Nat → Nat} {ca : Nat → ClassId} (hSK : mz_SK SX ad 80) (l : Launch) (n : Nat) (x1 : Int32) (x2 : Int32) (t : mz_St) (res : (Int32 × mz_St)) (hf : f_SI_behindBlanks n x1 x2 t = some res) : mz_C SX mz_tC 80 mz_cl dC dI ad en ca l y_SI_behindBlanks prog_12_method_8_code 4 (some (.int)) (r_SI_behindBlanks) [.ref (ad 1), .int x1, .int x2] t (some (.int res.1)) res.2 := by
  unfold f_SI_behindBlanks at hf
  refine mz_met hSK (by decide) (Nat.le_of_ble_eq_true rfl) ?_
  intro p e s m args below meth c ls E w hl
  obtain ⟨hx, hb, hml, hown, hcx, -, -, hSX, -, -, -⟩ := id E
  have hl : lv_has ls 4 [(0, .ref (ad 1)), (1, .int x1), (2, .int x2)] := hl
  refine lv_iload_n hx hb d_SI_behindBlanks_0 rfl (lv_at hl 1 rfl) ?_
  refine lv_istore_n (lv' := [(3, .int x1), (0, .ref (ad 1)), (1, .int x1), (2, .int x2)]) hx hb d_SI_behindBlanks_1 rfl hl (by decide) rfl (fun ls hl => ?_)
  exact b_SI_behindBlanks_2 E n n x2 x1 t hf _ _ _ w (lv_sub hl [1, 3, 0] rfl)

/-! MacroHouse$Signs.aheadOfBlanks(II)I -/
abbrev r_SI_aheadOfBlanks : Room := { frames := 0, cells := 0, slots := 0, locals := 0 }
def f_SI_aheadOfBlanks_2 (n : Nat) : Nat → Int32 → Int32 → mz_St → Option (Int32 × mz_St)
  | 0, _, _, _ => none
  | k + 1, x1, x3, t => if x3 ≤ x1 then (some (x3, t)) else (if x3 ≤ 0 then (some (x3, t)) else (if (6600 : Int32) < x3 then (some (x3, t)) else (if ¬ ((x3 - (1 : Int32)) < 0 ∨ 6600 ≤ (x3 - (1 : Int32)).toNatClampNeg) then (if (mz_gI t 2 (x3 - (1 : Int32)).toNatClampNeg) = (32 : Int32) then ((f_SI_aheadOfBlanks_2 n k) x1 (x3 + (-1 : Int32)) t) else (some (x3, t))) else none)))
def f_SI_aheadOfBlanks (n : Nat) (x1 : Int32) (x2 : Int32) (t : mz_St) : Option (Int32 × mz_St) := f_SI_aheadOfBlanks_2 n n x1 x2 t
set_option maxRecDepth 100000 in
set_option maxHeartbeats 4000000 in
theorem b_SI_aheadOfBlanks_2 {SX : State → Heap → Prop} {dC : Nat → ClassId} {dI : Nat → Nat → Nat} {ad en : Nat → Nat} {ca : Nat → ClassId} {p : Program} {l : Launch} {e : Env} {s : State} {m : MethodId} {args : Array Value} {below : List Frame} {meth : Method} {c : Code} {res : (Int32 × mz_St)} (E : mz_En SX 80 mz_cl dC dI ad ca p s m meth c prog_12_method_9_code 4 "MacroHouse$Signs" (some (.int))) (n : Nat) (k : Nat) : ∀ (x1 : Int32) (x3 : Int32) (t : mz_St), f_SI_aheadOfBlanks_2 n k x1 x3 t = some res → ∀ (H : Heap) (locs : List Loc) (ls : Array Slot), mz_Wd mz_tC 80 mz_cl dC dI ad en ca s t H locs → lv_has ls 4 [(0, .ref (ad 1)), (1, .int x1), (3, .int x3)] → W p l e (r_SI_aheadOfBlanks) s m args below meth c H locs 0 0 (MQ below (mz_Q SX mz_tC 80 mz_cl dC dI ad en ca (some (.int res.1)) res.2) args s 0 0 (mz_A ad 80)) (F0 m 2 ls []) := by
  obtain ⟨hx, hb, hml, hown, hcx, -, -, hSX, -, -, hSK⟩ := id E
  induction k with
  | zero => intro x1 x3 t hf; exact absurd hf (by unfold f_SI_aheadOfBlanks_2; exact fun h => nomatch h)
  | succ k ih =>
    intro x1 x3 t hf H locs ls w hl
    unfold f_SI_aheadOfBlanks_2 at hf
    refine lv_iload_n hx hb d_SI_aheadOfBlanks_2 rfl (lv_at hl 2 rfl) ?_
    refine lv_iload_n hx hb d_SI_aheadOfBlanks_3 rfl (lv_at hl 1 rfl) ?_
    refine lv_icmp_le (tgt := 39) hx hb d_SI_aheadOfBlanks_4 (by decide) (fun hc1 => ?_) (fun hc1 => ?_)
    · have hf := mz_t hc1 hf
      refine lv_iload_n hx hb d_SI_aheadOfBlanks_39 rfl (lv_at hl 2 rfl) ?_
      obtain rfl := Option.some.inj hf
      exact mz_iret E w rfl d_SI_aheadOfBlanks_40
    · have hf := mz_f hc1 hf
      refine lv_iload_n hx hb d_SI_aheadOfBlanks_7 rfl (lv_at hl 2 rfl) ?_
      refine lv_if_le (tgt := 39) hx hb d_SI_aheadOfBlanks_8 (by decide) (fun hc2 => ?_) (fun hc2 => ?_)
      · have hf := mz_t hc2 hf
        refine lv_iload_n hx hb d_SI_aheadOfBlanks_39 rfl (lv_at hl 2 rfl) ?_
        obtain rfl := Option.some.inj hf
        exact mz_iret E w rfl d_SI_aheadOfBlanks_40
      · have hf := mz_f hc2 hf
        refine lv_iload_n hx hb d_SI_aheadOfBlanks_11 rfl (lv_at hl 2 rfl) ?_
        refine lv_aload_n hx hb d_SI_aheadOfBlanks_12 rfl (lv_at hl 0 rfl) ?_
        refine mz_get E w 1 0 (v := .ref (ad 2)) (by decide) rfl rfl ii_1 (by decide) (Nat.le_of_ble_eq_true rfl) k_41 rfl d_SI_aheadOfBlanks_13 ?_
        refine mz_alen E w 2 (v := (6600 : Int32)) (by decide) rfl (by decide) rfl d_SI_aheadOfBlanks_16 ?_
        refine lv_icmp_gt (tgt := 39) hx hb d_SI_aheadOfBlanks_17 (by decide) (fun hc3 => ?_) (fun hc3 => ?_)
        · have hf := mz_t hc3 hf
          refine lv_iload_n hx hb d_SI_aheadOfBlanks_39 rfl (lv_at hl 2 rfl) ?_
          obtain rfl := Option.some.inj hf
          exact mz_iret E w rfl d_SI_aheadOfBlanks_40
        · have hf := mz_f hc3 hf
          refine lv_aload_n hx hb d_SI_aheadOfBlanks_20 rfl (lv_at hl 0 rfl) ?_
          refine mz_get E w 1 0 (v := .ref (ad 2)) (by decide) rfl rfl ii_1 (by decide) (Nat.le_of_ble_eq_true rfl) k_41 rfl d_SI_aheadOfBlanks_21 ?_
          refine lv_iload_n hx hb d_SI_aheadOfBlanks_24 rfl (lv_at hl 2 rfl) ?_
          refine lv_iconst (v := (1 : Int32)) hx hb d_SI_aheadOfBlanks_25 (by decide) ?_
          refine lv_isub hx hb d_SI_aheadOfBlanks_26 ?_
          obtain ⟨hi4, hf⟩ := mz_gd hf
          refine mz_bald E w 2 (by decide) rfl hi4 d_SI_aheadOfBlanks_27 ?_
          refine lv_bipush (v := (32 : Int32)) hx hb d_SI_aheadOfBlanks_28 (by decide) ?_
          refine lv_icmp_ne (tgt := 39) hx hb d_SI_aheadOfBlanks_30 (by decide) (fun hc5 => ?_) (fun hc5 => ?_)
          · have hf := mz_f hc5 hf
            refine lv_iload_n hx hb d_SI_aheadOfBlanks_39 rfl (lv_at hl 2 rfl) ?_
            obtain rfl := Option.some.inj hf
            exact mz_iret E w rfl d_SI_aheadOfBlanks_40
          · have hf := mz_t hc5 hf
            refine lv_iinc (v := (x3 + (-1 : Int32))) (lv' := [(3, .int (x3 + (-1 : Int32))), (0, .ref (ad 1)), (1, .int x1)]) hx hb d_SI_aheadOfBlanks_33 hl (k := 2) rfl rfl (by decide) rfl (fun ls hl => ?_)
            refine lv_goto (tgt := 2) hx hb d_SI_aheadOfBlanks_36 (by decide) ?_
            exact ih x1 (x3 + (-1 : Int32)) t hf _ _ _ w (lv_sub hl [1, 2, 0] rfl)
set_option maxRecDepth 100000 in
set_option maxHeartbeats 4000000 in
theorem c_SI_aheadOfBlanks {SX : State → Heap → Prop} {dC : Nat → ClassId} {dI : Nat → Nat → Nat} {ad en : Nat → Nat} {ca : Nat → ClassId} (hSK : mz_SK SX ad 80) (l : Launch) (n : Nat) (x1 : Int32) (x2 : Int32) (t : mz_St) (res : (Int32 × mz_St)) (hf : f_SI_aheadOfBlanks n x1 x2 t = some res) : mz_C SX mz_tC 80 mz_cl dC dI ad en ca l y_SI_aheadOfBlanks prog_12_method_9_code 4 (some (.int)) (r_SI_aheadOfBlanks) [.ref (ad 1), .int x1, .int x2] t (some (.int res.1)) res.2 := by
  unfold f_SI_aheadOfBlanks at hf
  refine mz_met hSK (by decide) (Nat.le_of_ble_eq_true rfl) ?_
  intro p e s m args below meth c ls E w hl
  obtain ⟨hx, hb, hml, hown, hcx, -, -, hSX, -, -, -⟩ := id E
  have hl : lv_has ls 4 [(0, .ref (ad 1)), (1, .int x1), (2, .int x2)] := hl
  refine lv_iload_n hx hb d_SI_aheadOfBlanks_0 rfl (lv_at hl 2 rfl) ?_
  refine lv_istore_n (lv' := [(3, .int x2), (0, .ref (ad 1)), (1, .int x1), (2, .int x2)]) hx hb d_SI_aheadOfBlanks_1 rfl hl (by decide) rfl (fun ls hl => ?_)
  exact b_SI_aheadOfBlanks_2 E n n x1 x2 t hf _ _ _ w (lv_sub hl [1, 2, 0] rfl)

/-! MacroHouse$Signs.keepRange(II)V -/
abbrev r_SI_keepRange : Room := { frames := 2, cells := 0, slots := 0, locals := 45 }
def f_SI_keepRange (n : Nat) (x1 : Int32) (x2 : Int32) (t : mz_St) : Option mz_St := if (3001 : Int32) ≤ (mz_gI t 1 4) then (some t) else (if (mz_gI t 1 4) < (3001 : Int32) then ((f_SI_find n (35 : Int32) x1 x2 t).bind fun q3 => (f_SI_behindBlanks n x1 q3.1 q3.2).bind fun q5 => if ¬ ((mz_gI q5.2 1 4) < 0 ∨ 3001 ≤ (mz_gI q5.2 1 4).toNatClampNeg) then (mz_let (mz_pI q5.2 3 (mz_gI q5.2 1 4).toNatClampNeg q5.1) fun t8 => (f_SI_aheadOfBlanks n q5.1 q3.1 t8).bind fun q9 => if ¬ ((mz_gI t8 1 4) < 0 ∨ 3001 ≤ (mz_gI t8 1 4).toNatClampNeg) then (mz_let (mz_pI q9.2 4 (mz_gI t8 1 4).toNatClampNeg q9.1) fun t12 => mz_let (mz_pI t12 1 4 ((mz_gI t12 1 4) + (1 : Int32))) fun t13 => some t13) else none) else none) else (some t))
set_option maxRecDepth 100000 in
set_option maxHeartbeats 4000000 in
theorem c_SI_keepRange {SX : State → Heap → Prop} {dC : Nat → ClassId} {dI : Nat → Nat → Nat} {ad en : Nat → Nat} {ca : Nat → ClassId} (hSK : mz_SK SX ad 80) (l : Launch) (n : Nat) (x1 : Int32) (x2 : Int32) (t : mz_St) (res : mz_St) (hf : f_SI_keepRange n x1 x2 t = some res) : mz_C SX mz_tC 80 mz_cl dC dI ad en ca l y_SI_keepRange prog_12_method_15_code 5 none (r_SI_keepRange) [.ref (ad 1), .int x1, .int x2] t none res := by
  unfold f_SI_keepRange at hf
  refine mz_met hSK (by decide) (Nat.le_of_ble_eq_true rfl) ?_
  intro p e s m args below meth c ls E w hl
  obtain ⟨hx, hb, hml, hown, hcx, -, -, hSX, -, -, -⟩ := id E
  have hl : lv_has ls 5 [(0, .ref (ad 1)), (1, .int x1), (2, .int x2)] := hl
  refine lv_aload_n hx hb d_SI_keepRange_0 rfl (lv_at hl 0 rfl) ?_
  refine mz_get E w 1 4 (v := .int (mz_gI t 1 4)) (by decide) rfl rfl ii_1 (by decide) (Nat.le_of_ble_eq_true rfl) k_47 rfl d_SI_keepRange_1 ?_
  refine lv_aload_n hx hb d_SI_keepRange_4 rfl (lv_at hl 0 rfl) ?_
  refine mz_get E w 1 1 (v := .ref (ad 3)) (by decide) rfl rfl ii_1 (by decide) (Nat.le_of_ble_eq_true rfl) k_42 rfl d_SI_keepRange_5 ?_
  refine mz_alen E w 3 (v := (3001 : Int32)) (by decide) rfl (by decide) rfl d_SI_keepRange_8 ?_
  refine lv_icmp_ge (tgt := 24) hx hb d_SI_keepRange_9 (by decide) (fun hc1 => ?_) (fun hc1 => ?_)
  · have hf := mz_t hc1 hf
    obtain rfl := Option.some.inj hf
    exact mz_vret E w rfl d_SI_keepRange_24
  · have hf := mz_f hc1 hf
    refine lv_aload_n hx hb d_SI_keepRange_12 rfl (lv_at hl 0 rfl) ?_
    refine mz_get E w 1 4 (v := .int (mz_gI t 1 4)) (by decide) rfl rfl ii_1 (by decide) (Nat.le_of_ble_eq_true rfl) k_47 rfl d_SI_keepRange_13 ?_
    refine lv_aload_n hx hb d_SI_keepRange_16 rfl (lv_at hl 0 rfl) ?_
    refine mz_get E w 1 2 (v := .ref (ad 4)) (by decide) rfl rfl ii_1 (by decide) (Nat.le_of_ble_eq_true rfl) k_43 rfl d_SI_keepRange_17 ?_
    refine mz_alen E w 4 (v := (3001 : Int32)) (by decide) rfl (by decide) rfl d_SI_keepRange_20 ?_
    refine lv_icmp_lt (tgt := 25) hx hb d_SI_keepRange_21 (by decide) (fun hc2 => ?_) (fun hc2 => ?_)
    · have hf := mz_t hc2 hf
      refine lv_aload_n hx hb d_SI_keepRange_25 rfl (lv_at hl 0 rfl) ?_
      refine lv_bipush (v := (35 : Int32)) hx hb d_SI_keepRange_26 (by decide) ?_
      refine lv_iload_n hx hb d_SI_keepRange_28 rfl (lv_at hl 1 rfl) ?_
      refine lv_iload_n hx hb d_SI_keepRange_29 rfl (lv_at hl 2 rfl) ?_
      obtain ⟨q3, hq4, hf⟩ := mz_bd hf
      refine mz_callV E w (k := 1) (As := [.int (35 : Int32), .int x1, .int x2]) (rest := []) (c_SI_find hSK l n (35 : Int32) x1 x2 t q3 hq4) (by decide) rfl rfl k_458 k_2 k_455 k_456 k_457 hm_SI_find ⟨⟨rfl, rfl⟩, Nat.le_of_ble_eq_true rfl, Nat.le_of_ble_eq_true rfl⟩ rfl hl.1 rfl (Nat.le_of_ble_eq_true rfl) d_SI_keepRange_30 ⟨Nat.zero_le _, Nat.zero_le _⟩ (st1 := [.int q3.1]) rfl (fun H locs w => ?_)
      refine lv_istore_n (lv' := [(3, .int q3.1), (0, .ref (ad 1)), (1, .int x1), (2, .int x2)]) hx hb d_SI_keepRange_33 rfl hl (by decide) rfl (fun ls hl => ?_)
      refine lv_aload_n hx hb d_SI_keepRange_34 rfl (lv_at hl 1 rfl) ?_
      refine lv_iload_n hx hb d_SI_keepRange_35 rfl (lv_at hl 2 rfl) ?_
      refine lv_iload_n hx hb d_SI_keepRange_36 rfl (lv_at hl 0 rfl) ?_
      obtain ⟨q5, hq6, hf⟩ := mz_bd hf
      refine mz_callV E w (k := 1) (As := [.int x1, .int q3.1]) (rest := []) (c_SI_behindBlanks hSK l n x1 q3.1 q3.2 q5 hq6) (by decide) rfl rfl k_462 k_2 k_459 k_460 k_461 hm_SI_behindBlanks ⟨⟨rfl, rfl⟩, Nat.le_of_ble_eq_true rfl, Nat.le_of_ble_eq_true rfl⟩ rfl hl.1 rfl (Nat.le_of_ble_eq_true rfl) d_SI_keepRange_37 ⟨Nat.zero_le _, Nat.zero_le _⟩ (st1 := [.int q5.1]) rfl (fun H locs w => ?_)
      refine lv_istore (lv' := [(4, .int q5.1), (3, .int q3.1), (0, .ref (ad 1)), (1, .int x1), (2, .int x2)]) hx hb d_SI_keepRange_40 hl (by decide) rfl (fun ls hl => ?_)
      refine lv_aload_n hx hb d_SI_keepRange_42 rfl (lv_at hl 2 rfl) ?_
      refine mz_get E w 1 1 (v := .ref (ad 3)) (by decide) rfl rfl ii_1 (by decide) (Nat.le_of_ble_eq_true rfl) k_42 rfl d_SI_keepRange_43 ?_
      refine lv_aload_n hx hb d_SI_keepRange_46 rfl (lv_at hl 2 rfl) ?_
      refine mz_get E w 1 4 (v := .int (mz_gI q5.2 1 4)) (by decide) rfl rfl ii_1 (by decide) (Nat.le_of_ble_eq_true rfl) k_47 rfl d_SI_keepRange_47 ?_
      refine lv_iload hx hb d_SI_keepRange_50 (lv_at hl 0 rfl) ?_
      obtain ⟨hi7, hf⟩ := mz_gd hf
      refine mz_iast E w 3 (x := q5.1) (by decide) rfl hi7 d_SI_keepRange_52 (fun H locs w => ?_)
      obtain ⟨t8, e_t8, hf⟩ := mz_lt hf
      rw [← e_t8] at w
      refine lv_aload_n hx hb d_SI_keepRange_53 rfl (lv_at hl 2 rfl) ?_
      refine mz_get E w 1 2 (v := .ref (ad 4)) (by decide) rfl rfl ii_1 (by decide) (Nat.le_of_ble_eq_true rfl) k_43 rfl d_SI_keepRange_54 ?_
      refine lv_aload_n hx hb d_SI_keepRange_57 rfl (lv_at hl 2 rfl) ?_
      refine mz_get E w 1 4 (v := .int (mz_gI t8 1 4)) (by decide) rfl rfl ii_1 (by decide) (Nat.le_of_ble_eq_true rfl) k_47 rfl d_SI_keepRange_58 ?_
      refine lv_aload_n hx hb d_SI_keepRange_61 rfl (lv_at hl 2 rfl) ?_
      refine lv_iload hx hb d_SI_keepRange_62 (lv_at hl 0 rfl) ?_
      refine lv_iload_n hx hb d_SI_keepRange_64 rfl (lv_at hl 1 rfl) ?_
      obtain ⟨q9, hq10, hf⟩ := mz_bd hf
      refine mz_callV E w (k := 1) (As := [.int q5.1, .int q3.1]) (rest := [.int (mz_gI t8 1 4), .ref (ad 4)]) (c_SI_aheadOfBlanks hSK l n q5.1 q3.1 t8 q9 hq10) (by decide) rfl rfl k_466 k_2 k_463 k_464 k_465 hm_SI_aheadOfBlanks ⟨⟨rfl, rfl⟩, Nat.le_of_ble_eq_true rfl, Nat.le_of_ble_eq_true rfl⟩ rfl hl.1 rfl (Nat.le_of_ble_eq_true rfl) d_SI_keepRange_65 ⟨Nat.zero_le _, Nat.zero_le _⟩ (st1 := [.int q9.1, .int (mz_gI t8 1 4), .ref (ad 4)]) rfl (fun H locs w => ?_)
      obtain ⟨hi11, hf⟩ := mz_gd hf
      refine mz_iast E w 4 (x := q9.1) (by decide) rfl hi11 d_SI_keepRange_68 (fun H locs w => ?_)
      obtain ⟨t12, e_t12, hf⟩ := mz_lt hf
      rw [← e_t12] at w
      refine lv_aload_n hx hb d_SI_keepRange_69 rfl (lv_at hl 2 rfl) ?_
      refine lv_dup hx hb d_SI_keepRange_70 rfl ?_
      refine mz_get E w 1 4 (v := .int (mz_gI t12 1 4)) (by decide) rfl rfl ii_1 (by decide) (Nat.le_of_ble_eq_true rfl) k_47 rfl d_SI_keepRange_71 ?_
      refine lv_iconst (v := (1 : Int32)) hx hb d_SI_keepRange_74 (by decide) ?_
      refine lv_iadd hx hb d_SI_keepRange_75 ?_
      refine mz_put E w 1 4 (v := ((mz_gI t12 1 4) + (1 : Int32))) (by decide) rfl rfl ii_1 tk_1 nm_1 (by decide) (Nat.le_of_ble_eq_true rfl) k_47 rfl (tk_1 4 (by decide)) rfl rfl rfl d_SI_keepRange_76 (fun H locs w => ?_)
      obtain ⟨t13, e_t13, hf⟩ := mz_lt hf
      rw [← e_t13] at w
      obtain rfl := Option.some.inj hf
      exact mz_vret E w rfl d_SI_keepRange_79
    · have hf := mz_f hc2 hf
      obtain rfl := Option.some.inj hf
      exact mz_vret E w rfl d_SI_keepRange_24

/-! MacroHouse$Signs.partIntoLines()V -/
abbrev r_SI_partIntoLines : Room := { frames := 3, cells := 0, slots := 0, locals := 69 }
def f_SI_partIntoLines_45 (n : Nat) (K9 : Int32 → Int32 → mz_St → Option mz_St) (x1 : Int32) (x2 : Int32) (t : mz_St) : Option mz_St := K9 x1 (x2 + (1 : Int32)) t
def f_SI_partIntoLines_35 (n : Nat) (K9 : Int32 → Int32 → mz_St → Option mz_St) (x1 : Int32) (x2 : Int32) (t : mz_St) : Option mz_St := (f_SI_keepRange n x1 x2 t).bind fun q4 => f_SI_partIntoLines_45 n K9 (x2 + (1 : Int32)) x2 q4
def f_SI_partIntoLines_9 (n : Nat) : Nat → Int32 → Int32 → mz_St → Option mz_St
  | 0, _, _, _ => none
  | k + 1, x1, x2, t => if (mz_gI t 1 3) < x2 then (some t) else (if x2 = (mz_gI t 1 3) then (f_SI_partIntoLines_35 n (f_SI_partIntoLines_9 n k) x1 x2 t) else ((f_SI_at n x2 t).bind fun q6 => if q6.1 = (10 : Int32) then (f_SI_partIntoLines_35 n (f_SI_partIntoLines_9 n k) x1 x2 q6.2) else (f_SI_partIntoLines_45 n (f_SI_partIntoLines_9 n k) x1 x2 q6.2)))
def f_SI_partIntoLines (n : Nat) (t : mz_St) : Option mz_St := mz_let (mz_pI t 1 4 (0 : Int32)) fun t1 => f_SI_partIntoLines_9 n n (0 : Int32) (0 : Int32) t1
set_option maxRecDepth 100000 in
set_option maxHeartbeats 4000000 in
theorem b_SI_partIntoLines_45 {SX : State → Heap → Prop} {dC : Nat → ClassId} {dI : Nat → Nat → Nat} {ad en : Nat → Nat} {ca : Nat → ClassId} {p : Program} {l : Launch} {e : Env} {s : State} {m : MethodId} {args : Array Value} {below : List Frame} {meth : Method} {c : Code} {res : mz_St} (E : mz_En SX 80 mz_cl dC dI ad ca p s m meth c prog_12_method_14_code 3 "MacroHouse$Signs" none) (n : Nat) (K9 : Int32 → Int32 → mz_St → Option mz_St) (hK9 : ∀ (x1 : Int32) (x2 : Int32) (t : mz_St), K9 x1 x2 t = some res → ∀ (H : Heap) (locs : List Loc) (ls : Array Slot), mz_Wd mz_tC 80 mz_cl dC dI ad en ca s t H locs → lv_has ls 3 [(0, .ref (ad 1)), (1, .int x1), (2, .int x2)] → W p l e (r_SI_partIntoLines) s m args below meth c H locs 0 0 (MQ below (mz_Q SX mz_tC 80 mz_cl dC dI ad en ca none res) args s 0 0 (mz_A ad 80)) (F0 m 9 ls [])) : ∀ (x1 : Int32) (x2 : Int32) (t : mz_St), f_SI_partIntoLines_45 n K9 x1 x2 t = some res → ∀ (H : Heap) (locs : List Loc) (ls : Array Slot), mz_Wd mz_tC 80 mz_cl dC dI ad en ca s t H locs → lv_has ls 3 [(0, .ref (ad 1)), (1, .int x1), (2, .int x2)] → W p l e (r_SI_partIntoLines) s m args below meth c H locs 0 0 (MQ below (mz_Q SX mz_tC 80 mz_cl dC dI ad en ca none res) args s 0 0 (mz_A ad 80)) (F0 m 45 ls []) := by
  obtain ⟨hx, hb, hml, hown, hcx, -, -, hSX, -, -, hSK⟩ := id E
  intro x1 x2 t hf H locs ls w hl
  unfold f_SI_partIntoLines_45 at hf
  refine lv_iinc (v := (x2 + (1 : Int32))) (lv' := [(2, .int (x2 + (1 : Int32))), (0, .ref (ad 1)), (1, .int x1)]) hx hb d_SI_partIntoLines_45 hl (k := 2) rfl rfl (by decide) rfl (fun ls hl => ?_)
  refine lv_goto (tgt := 9) hx hb d_SI_partIntoLines_48 (by decide) ?_
  exact hK9 x1 (x2 + (1 : Int32)) t hf _ _ _ w (lv_sub hl [1, 2, 0] rfl)
set_option maxRecDepth 100000 in
set_option maxHeartbeats 4000000 in
theorem b_SI_partIntoLines_35 {SX : State → Heap → Prop} {dC : Nat → ClassId} {dI : Nat → Nat → Nat} {ad en : Nat → Nat} {ca : Nat → ClassId} {p : Program} {l : Launch} {e : Env} {s : State} {m : MethodId} {args : Array Value} {below : List Frame} {meth : Method} {c : Code} {res : mz_St} (E : mz_En SX 80 mz_cl dC dI ad ca p s m meth c prog_12_method_14_code 3 "MacroHouse$Signs" none) (n : Nat) (K9 : Int32 → Int32 → mz_St → Option mz_St) (hK9 : ∀ (x1 : Int32) (x2 : Int32) (t : mz_St), K9 x1 x2 t = some res → ∀ (H : Heap) (locs : List Loc) (ls : Array Slot), mz_Wd mz_tC 80 mz_cl dC dI ad en ca s t H locs → lv_has ls 3 [(0, .ref (ad 1)), (1, .int x1), (2, .int x2)] → W p l e (r_SI_partIntoLines) s m args below meth c H locs 0 0 (MQ below (mz_Q SX mz_tC 80 mz_cl dC dI ad en ca none res) args s 0 0 (mz_A ad 80)) (F0 m 9 ls [])) : ∀ (x1 : Int32) (x2 : Int32) (t : mz_St), f_SI_partIntoLines_35 n K9 x1 x2 t = some res → ∀ (H : Heap) (locs : List Loc) (ls : Array Slot), mz_Wd mz_tC 80 mz_cl dC dI ad en ca s t H locs → lv_has ls 3 [(0, .ref (ad 1)), (1, .int x1), (2, .int x2)] → W p l e (r_SI_partIntoLines) s m args below meth c H locs 0 0 (MQ below (mz_Q SX mz_tC 80 mz_cl dC dI ad en ca none res) args s 0 0 (mz_A ad 80)) (F0 m 35 ls []) := by
  obtain ⟨hx, hb, hml, hown, hcx, -, -, hSX, -, -, hSK⟩ := id E
  intro x1 x2 t hf H locs ls w hl
  unfold f_SI_partIntoLines_35 at hf
  refine lv_aload_n hx hb d_SI_partIntoLines_35 rfl (lv_at hl 0 rfl) ?_
  refine lv_iload_n hx hb d_SI_partIntoLines_36 rfl (lv_at hl 1 rfl) ?_
  refine lv_iload_n hx hb d_SI_partIntoLines_37 rfl (lv_at hl 2 rfl) ?_
  obtain ⟨q4, hq5, hf⟩ := mz_bd hf
  refine mz_callV E w (k := 1) (As := [.int x1, .int x2]) (rest := []) (c_SI_keepRange hSK l n x1 x2 t q4 hq5) (by decide) rfl rfl k_454 k_2 k_451 k_453 ks_1 hm_SI_keepRange ⟨⟨rfl, rfl⟩, Nat.le_of_ble_eq_true rfl, Nat.le_of_ble_eq_true rfl⟩ rfl hl.1 rfl (Nat.le_of_ble_eq_true rfl) d_SI_partIntoLines_38 ⟨Nat.zero_le _, Nat.zero_le _⟩ (st1 := []) rfl (fun H locs w => ?_)
  refine lv_iload_n hx hb d_SI_partIntoLines_41 rfl (lv_at hl 2 rfl) ?_
  refine lv_iconst (v := (1 : Int32)) hx hb d_SI_partIntoLines_42 (by decide) ?_
  refine lv_iadd hx hb d_SI_partIntoLines_43 ?_
  refine lv_istore_n (lv' := [(1, .int (x2 + (1 : Int32))), (0, .ref (ad 1)), (2, .int x2)]) hx hb d_SI_partIntoLines_44 rfl hl (by decide) rfl (fun ls hl => ?_)
  exact b_SI_partIntoLines_45 E n K9 hK9 (x2 + (1 : Int32)) x2 q4 hf _ _ _ w (lv_sub hl [1, 0, 2] rfl)
set_option maxRecDepth 100000 in
set_option maxHeartbeats 4000000 in
theorem b_SI_partIntoLines_9 {SX : State → Heap → Prop} {dC : Nat → ClassId} {dI : Nat → Nat → Nat} {ad en : Nat → Nat} {ca : Nat → ClassId} {p : Program} {l : Launch} {e : Env} {s : State} {m : MethodId} {args : Array Value} {below : List Frame} {meth : Method} {c : Code} {res : mz_St} (E : mz_En SX 80 mz_cl dC dI ad ca p s m meth c prog_12_method_14_code 3 "MacroHouse$Signs" none) (n : Nat) (k : Nat) : ∀ (x1 : Int32) (x2 : Int32) (t : mz_St), f_SI_partIntoLines_9 n k x1 x2 t = some res → ∀ (H : Heap) (locs : List Loc) (ls : Array Slot), mz_Wd mz_tC 80 mz_cl dC dI ad en ca s t H locs → lv_has ls 3 [(0, .ref (ad 1)), (1, .int x1), (2, .int x2)] → W p l e (r_SI_partIntoLines) s m args below meth c H locs 0 0 (MQ below (mz_Q SX mz_tC 80 mz_cl dC dI ad en ca none res) args s 0 0 (mz_A ad 80)) (F0 m 9 ls []) := by
  obtain ⟨hx, hb, hml, hown, hcx, -, -, hSX, -, -, hSK⟩ := id E
  induction k with
  | zero => intro x1 x2 t hf; exact absurd hf (by unfold f_SI_partIntoLines_9; exact fun h => nomatch h)
  | succ k ih =>
    intro x1 x2 t hf H locs ls w hl
    unfold f_SI_partIntoLines_9 at hf
    refine lv_iload_n hx hb d_SI_partIntoLines_9 rfl (lv_at hl 2 rfl) ?_
    refine lv_aload_n hx hb d_SI_partIntoLines_10 rfl (lv_at hl 0 rfl) ?_
    refine mz_get E w 1 3 (v := .int (mz_gI t 1 3)) (by decide) rfl rfl ii_1 (by decide) (Nat.le_of_ble_eq_true rfl) k_45 rfl d_SI_partIntoLines_11 ?_
    refine lv_icmp_gt (tgt := 51) hx hb d_SI_partIntoLines_14 (by decide) (fun hc2 => ?_) (fun hc2 => ?_)
    · have hf := mz_t hc2 hf
      obtain rfl := Option.some.inj hf
      exact mz_vret E w rfl d_SI_partIntoLines_51
    · have hf := mz_f hc2 hf
      refine lv_iload_n hx hb d_SI_partIntoLines_17 rfl (lv_at hl 2 rfl) ?_
      refine lv_aload_n hx hb d_SI_partIntoLines_18 rfl (lv_at hl 0 rfl) ?_
      refine mz_get E w 1 3 (v := .int (mz_gI t 1 3)) (by decide) rfl rfl ii_1 (by decide) (Nat.le_of_ble_eq_true rfl) k_45 rfl d_SI_partIntoLines_19 ?_
      refine lv_icmp_eq (tgt := 35) hx hb d_SI_partIntoLines_22 (by decide) (fun hc3 => ?_) (fun hc3 => ?_)
      · have hf := mz_t hc3 hf
        exact b_SI_partIntoLines_35 E n (f_SI_partIntoLines_9 n k) ih x1 x2 t hf _ _ _ w (lv_sub hl [0, 1, 2] rfl)
      · have hf := mz_f hc3 hf
        refine lv_aload_n hx hb d_SI_partIntoLines_25 rfl (lv_at hl 0 rfl) ?_
        refine lv_iload_n hx hb d_SI_partIntoLines_26 rfl (lv_at hl 2 rfl) ?_
        obtain ⟨q6, hq7, hf⟩ := mz_bd hf
        refine mz_callV E w (k := 1) (As := [.int x2]) (rest := []) (c_SI_at hSK l n x2 t q6 hq7) (by decide) rfl rfl k_450 k_2 k_447 k_448 k_449 hm_SI_at ⟨⟨rfl, rfl⟩, Nat.le_of_ble_eq_true rfl, Nat.le_of_ble_eq_true rfl⟩ rfl hl.1 rfl (Nat.le_of_ble_eq_true rfl) d_SI_partIntoLines_27 ⟨Nat.zero_le _, Nat.zero_le _⟩ (st1 := [.int q6.1]) rfl (fun H locs w => ?_)
        refine lv_bipush (v := (10 : Int32)) hx hb d_SI_partIntoLines_30 (by decide) ?_
        refine lv_icmp_ne (tgt := 45) hx hb d_SI_partIntoLines_32 (by decide) (fun hc8 => ?_) (fun hc8 => ?_)
        · have hf := mz_f hc8 hf
          exact b_SI_partIntoLines_45 E n (f_SI_partIntoLines_9 n k) ih x1 x2 q6.2 hf _ _ _ w (lv_sub hl [0, 1, 2] rfl)
        · have hf := mz_t hc8 hf
          exact b_SI_partIntoLines_35 E n (f_SI_partIntoLines_9 n k) ih x1 x2 q6.2 hf _ _ _ w (lv_sub hl [0, 1, 2] rfl)
set_option maxRecDepth 100000 in
set_option maxHeartbeats 4000000 in
theorem c_SI_partIntoLines {SX : State → Heap → Prop} {dC : Nat → ClassId} {dI : Nat → Nat → Nat} {ad en : Nat → Nat} {ca : Nat → ClassId} (hSK : mz_SK SX ad 80) (l : Launch) (n : Nat) (t : mz_St) (res : mz_St) (hf : f_SI_partIntoLines n t = some res) : mz_C SX mz_tC 80 mz_cl dC dI ad en ca l y_SI_partIntoLines prog_12_method_14_code 3 none (r_SI_partIntoLines) [.ref (ad 1)] t none res := by
  unfold f_SI_partIntoLines at hf
  refine mz_met hSK (by decide) (Nat.le_of_ble_eq_true rfl) ?_
  intro p e s m args below meth c ls E w hl
  obtain ⟨hx, hb, hml, hown, hcx, -, -, hSX, -, -, -⟩ := id E
  have hl : lv_has ls 3 [(0, .ref (ad 1))] := hl
  refine lv_aload_n hx hb d_SI_partIntoLines_0 rfl (lv_at hl 0 rfl) ?_
  refine lv_iconst (v := (0 : Int32)) hx hb d_SI_partIntoLines_1 (by decide) ?_
  refine mz_put E w 1 4 (v := (0 : Int32)) (by decide) rfl rfl ii_1 tk_1 nm_1 (by decide) (Nat.le_of_ble_eq_true rfl) k_47 rfl (tk_1 4 (by decide)) rfl rfl rfl d_SI_partIntoLines_2 (fun H locs w => ?_)
  obtain ⟨t1, e_t1, hf⟩ := mz_lt hf
  rw [← e_t1] at w
  refine lv_iconst (v := (0 : Int32)) hx hb d_SI_partIntoLines_5 (by decide) ?_
  refine lv_istore_n (lv' := [(1, .int (0 : Int32)), (0, .ref (ad 1))]) hx hb d_SI_partIntoLines_6 rfl hl (by decide) rfl (fun ls hl => ?_)
  refine lv_iconst (v := (0 : Int32)) hx hb d_SI_partIntoLines_7 (by decide) ?_
  refine lv_istore_n (lv' := [(2, .int (0 : Int32)), (1, .int (0 : Int32)), (0, .ref (ad 1))]) hx hb d_SI_partIntoLines_8 rfl hl (by decide) rfl (fun ls hl => ?_)
  exact b_SI_partIntoLines_9 E n n (0 : Int32) (0 : Int32) t1 hf _ _ _ w (lv_sub hl [2, 1, 0] rfl)

/-! MacroHouse$Signs.argumentEnd(II)I -/
abbrev r_SI_argumentEnd : Room := { frames := 1, cells := 0, slots := 0, locals := 21 }
def f_SI_argumentEnd_53 (n : Nat) (K5 : Int32 → Int32 → Int32 → mz_St → Option (Int32 × mz_St)) (x2 : Int32) (x3 : Int32) (x4 : Int32) (t : mz_St) : Option (Int32 × mz_St) := if 0 ≤ x3 then (K5 x2 x3 (x4 + (1 : Int32)) t) else (some ((-1 : Int32), t))
def f_SI_argumentEnd_43 (n : Nat) (K5 : Int32 → Int32 → Int32 → mz_St → Option (Int32 × mz_St)) (x2 : Int32) (x3 : Int32) (x4 : Int32) (x5 : Int32) (t : mz_St) : Option (Int32 × mz_St) := if x5 = (41 : Int32) then (f_SI_argumentEnd_53 n K5 x2 (x3 + (-1 : Int32)) x4 t) else (f_SI_argumentEnd_53 n K5 x2 x3 x4 t)
def f_SI_argumentEnd_33 (n : Nat) (K5 : Int32 → Int32 → Int32 → mz_St → Option (Int32 × mz_St)) (x2 : Int32) (x3 : Int32) (x4 : Int32) (x5 : Int32) (t : mz_St) : Option (Int32 × mz_St) := if x5 = (40 : Int32) then (f_SI_argumentEnd_43 n K5 x2 (x3 + (1 : Int32)) x4 x5 t) else (f_SI_argumentEnd_43 n K5 x2 x3 x4 x5 t)
def f_SI_argumentEnd_5 (n : Nat) : Nat → Int32 → Int32 → Int32 → mz_St → Option (Int32 × mz_St)
  | 0, _, _, _, _ => none
  | k + 1, x2, x3, x4, t => if x2 ≤ x4 then (if x3 = 0 then (some (x2, t)) else (some ((-1 : Int32), t))) else ((f_SI_at n x4 t).bind fun q3 => if q3.1 = (44 : Int32) then (if x3 = 0 then (some (x4, q3.2)) else (f_SI_argumentEnd_33 n (f_SI_argumentEnd_5 n k) x2 x3 x4 q3.1 q3.2)) else (f_SI_argumentEnd_33 n (f_SI_argumentEnd_5 n k) x2 x3 x4 q3.1 q3.2))
def f_SI_argumentEnd (n : Nat) (x1 : Int32) (x2 : Int32) (t : mz_St) : Option (Int32 × mz_St) := f_SI_argumentEnd_5 n n x2 (0 : Int32) x1 t
set_option maxRecDepth 100000 in
set_option maxHeartbeats 4000000 in
theorem b_SI_argumentEnd_53 {SX : State → Heap → Prop} {dC : Nat → ClassId} {dI : Nat → Nat → Nat} {ad en : Nat → Nat} {ca : Nat → ClassId} {p : Program} {l : Launch} {e : Env} {s : State} {m : MethodId} {args : Array Value} {below : List Frame} {meth : Method} {c : Code} {res : (Int32 × mz_St)} (E : mz_En SX 80 mz_cl dC dI ad ca p s m meth c prog_12_method_11_code 6 "MacroHouse$Signs" (some (.int))) (n : Nat) (K5 : Int32 → Int32 → Int32 → mz_St → Option (Int32 × mz_St)) (hK5 : ∀ (x2 : Int32) (x3 : Int32) (x4 : Int32) (t : mz_St), K5 x2 x3 x4 t = some res → ∀ (H : Heap) (locs : List Loc) (ls : Array Slot), mz_Wd mz_tC 80 mz_cl dC dI ad en ca s t H locs → lv_has ls 6 [(0, .ref (ad 1)), (2, .int x2), (3, .int x3), (4, .int x4)] → W p l e (r_SI_argumentEnd) s m args below meth c H locs 0 0 (MQ below (mz_Q SX mz_tC 80 mz_cl dC dI ad en ca (some (.int res.1)) res.2) args s 0 0 (mz_A ad 80)) (F0 m 5 ls [])) : ∀ (x2 : Int32) (x3 : Int32) (x4 : Int32) (t : mz_St), f_SI_argumentEnd_53 n K5 x2 x3 x4 t = some res → ∀ (H : Heap) (locs : List Loc) (ls : Array Slot), mz_Wd mz_tC 80 mz_cl dC dI ad en ca s t H locs → lv_has ls 6 [(0, .ref (ad 1)), (2, .int x2), (3, .int x3), (4, .int x4)] → W p l e (r_SI_argumentEnd) s m args below meth c H locs 0 0 (MQ below (mz_Q SX mz_tC 80 mz_cl dC dI ad en ca (some (.int res.1)) res.2) args s 0 0 (mz_A ad 80)) (F0 m 53 ls []) := by
  obtain ⟨hx, hb, hml, hown, hcx, -, -, hSX, -, -, hSK⟩ := id E
  intro x2 x3 x4 t hf H locs ls w hl
  unfold f_SI_argumentEnd_53 at hf
  refine lv_iload_n hx hb d_SI_argumentEnd_53 rfl (lv_at hl 2 rfl) ?_
  refine lv_if_ge (tgt := 59) hx hb d_SI_argumentEnd_54 (by decide) (fun hc8 => ?_) (fun hc8 => ?_)
  · have hf := mz_t hc8 hf
    refine lv_iinc (v := (x4 + (1 : Int32))) (lv' := [(4, .int (x4 + (1 : Int32))), (0, .ref (ad 1)), (2, .int x2), (3, .int x3)]) hx hb d_SI_argumentEnd_59 hl (k := 3) rfl rfl (by decide) rfl (fun ls hl => ?_)
    refine lv_goto (tgt := 5) hx hb d_SI_argumentEnd_62 (by decide) ?_
    exact hK5 x2 x3 (x4 + (1 : Int32)) t hf _ _ _ w (lv_sub hl [1, 2, 3, 0] rfl)
  · have hf := mz_f hc8 hf
    refine lv_iconst (v := (-1 : Int32)) hx hb d_SI_argumentEnd_57 (by decide) ?_
    obtain rfl := Option.some.inj hf
    exact mz_iret E w rfl d_SI_argumentEnd_58
set_option maxRecDepth 100000 in
set_option maxHeartbeats 4000000 in
theorem b_SI_argumentEnd_43 {SX : State → Heap → Prop} {dC : Nat → ClassId} {dI : Nat → Nat → Nat} {ad en : Nat → Nat} {ca : Nat → ClassId} {p : Program} {l : Launch} {e : Env} {s : State} {m : MethodId} {args : Array Value} {below : List Frame} {meth : Method} {c : Code} {res : (Int32 × mz_St)} (E : mz_En SX 80 mz_cl dC dI ad ca p s m meth c prog_12_method_11_code 6 "MacroHouse$Signs" (some (.int))) (n : Nat) (K5 : Int32 → Int32 → Int32 → mz_St → Option (Int32 × mz_St)) (hK5 : ∀ (x2 : Int32) (x3 : Int32) (x4 : Int32) (t : mz_St), K5 x2 x3 x4 t = some res → ∀ (H : Heap) (locs : List Loc) (ls : Array Slot), mz_Wd mz_tC 80 mz_cl dC dI ad en ca s t H locs → lv_has ls 6 [(0, .ref (ad 1)), (2, .int x2), (3, .int x3), (4, .int x4)] → W p l e (r_SI_argumentEnd) s m args below meth c H locs 0 0 (MQ below (mz_Q SX mz_tC 80 mz_cl dC dI ad en ca (some (.int res.1)) res.2) args s 0 0 (mz_A ad 80)) (F0 m 5 ls [])) : ∀ (x2 : Int32) (x3 : Int32) (x4 : Int32) (x5 : Int32) (t : mz_St), f_SI_argumentEnd_43 n K5 x2 x3 x4 x5 t = some res → ∀ (H : Heap) (locs : List Loc) (ls : Array Slot), mz_Wd mz_tC 80 mz_cl dC dI ad en ca s t H locs → lv_has ls 6 [(0, .ref (ad 1)), (2, .int x2), (3, .int x3), (4, .int x4), (5, .int x5)] → W p l e (r_SI_argumentEnd) s m args below meth c H locs 0 0 (MQ below (mz_Q SX mz_tC 80 mz_cl dC dI ad en ca (some (.int res.1)) res.2) args s 0 0 (mz_A ad 80)) (F0 m 43 ls []) := by
  obtain ⟨hx, hb, hml, hown, hcx, -, -, hSX, -, -, hSK⟩ := id E
  intro x2 x3 x4 x5 t hf H locs ls w hl
  unfold f_SI_argumentEnd_43 at hf
  refine lv_iload hx hb d_SI_argumentEnd_43 (lv_at hl 4 rfl) ?_
  refine lv_bipush (v := (41 : Int32)) hx hb d_SI_argumentEnd_45 (by decide) ?_
  refine lv_icmp_ne (tgt := 53) hx hb d_SI_argumentEnd_47 (by decide) (fun hc7 => ?_) (fun hc7 => ?_)
  · have hf := mz_f hc7 hf
    exact b_SI_argumentEnd_53 E n K5 hK5 x2 x3 x4 t hf _ _ _ w (lv_sub hl [0, 1, 2, 3] rfl)
  · have hf := mz_t hc7 hf
    refine lv_iinc (v := (x3 + (-1 : Int32))) (lv' := [(3, .int (x3 + (-1 : Int32))), (0, .ref (ad 1)), (2, .int x2), (4, .int x4), (5, .int x5)]) hx hb d_SI_argumentEnd_50 hl (k := 2) rfl rfl (by decide) rfl (fun ls hl => ?_)
    exact b_SI_argumentEnd_53 E n K5 hK5 x2 (x3 + (-1 : Int32)) x4 t hf _ _ _ w (lv_sub hl [1, 2, 0, 3] rfl)
set_option maxRecDepth 100000 in
set_option maxHeartbeats 4000000 in
theorem b_SI_argumentEnd_33 {SX : State → Heap → Prop} {dC : Nat → ClassId} {dI : Nat → Nat → Nat} {ad en : Nat → Nat} {ca : Nat → ClassId} {p : Program} {l : Launch} {e : Env} {s : State} {m : MethodId} {args : Array Value} {below : List Frame} {meth : Method} {c : Code} {res : (Int32 × mz_St)} (E : mz_En SX 80 mz_cl dC dI ad ca p s m meth c prog_12_method_11_code 6 "MacroHouse$Signs" (some (.int))) (n : Nat) (K5 : Int32 → Int32 → Int32 → mz_St → Option (Int32 × mz_St)) (hK5 : ∀ (x2 : Int32) (x3 : Int32) (x4 : Int32) (t : mz_St), K5 x2 x3 x4 t = some res → ∀ (H : Heap) (locs : List Loc) (ls : Array Slot), mz_Wd mz_tC 80 mz_cl dC dI ad en ca s t H locs → lv_has ls 6 [(0, .ref (ad 1)), (2, .int x2), (3, .int x3), (4, .int x4)] → W p l e (r_SI_argumentEnd) s m args below meth c H locs 0 0 (MQ below (mz_Q SX mz_tC 80 mz_cl dC dI ad en ca (some (.int res.1)) res.2) args s 0 0 (mz_A ad 80)) (F0 m 5 ls [])) : ∀ (x2 : Int32) (x3 : Int32) (x4 : Int32) (x5 : Int32) (t : mz_St), f_SI_argumentEnd_33 n K5 x2 x3 x4 x5 t = some res → ∀ (H : Heap) (locs : List Loc) (ls : Array Slot), mz_Wd mz_tC 80 mz_cl dC dI ad en ca s t H locs → lv_has ls 6 [(0, .ref (ad 1)), (2, .int x2), (3, .int x3), (4, .int x4), (5, .int x5)] → W p l e (r_SI_argumentEnd) s m args below meth c H locs 0 0 (MQ below (mz_Q SX mz_tC 80 mz_cl dC dI ad en ca (some (.int res.1)) res.2) args s 0 0 (mz_A ad 80)) (F0 m 33 ls []) := by
  obtain ⟨hx, hb, hml, hown, hcx, -, -, hSX, -, -, hSK⟩ := id E
  intro x2 x3 x4 x5 t hf H locs ls w hl
  unfold f_SI_argumentEnd_33 at hf
  refine lv_iload hx hb d_SI_argumentEnd_33 (lv_at hl 4 rfl) ?_
  refine lv_bipush (v := (40 : Int32)) hx hb d_SI_argumentEnd_35 (by decide) ?_
  refine lv_icmp_ne (tgt := 43) hx hb d_SI_argumentEnd_37 (by decide) (fun hc6 => ?_) (fun hc6 => ?_)
  · have hf := mz_f hc6 hf
    exact b_SI_argumentEnd_43 E n K5 hK5 x2 x3 x4 x5 t hf _ _ _ w (lv_sub hl [0, 1, 2, 3, 4] rfl)
  · have hf := mz_t hc6 hf
    refine lv_iinc (v := (x3 + (1 : Int32))) (lv' := [(3, .int (x3 + (1 : Int32))), (0, .ref (ad 1)), (2, .int x2), (4, .int x4), (5, .int x5)]) hx hb d_SI_argumentEnd_40 hl (k := 2) rfl rfl (by decide) rfl (fun ls hl => ?_)
    exact b_SI_argumentEnd_43 E n K5 hK5 x2 (x3 + (1 : Int32)) x4 x5 t hf _ _ _ w (lv_sub hl [1, 2, 0, 3, 4] rfl)
set_option maxRecDepth 100000 in
set_option maxHeartbeats 4000000 in
theorem b_SI_argumentEnd_5 {SX : State → Heap → Prop} {dC : Nat → ClassId} {dI : Nat → Nat → Nat} {ad en : Nat → Nat} {ca : Nat → ClassId} {p : Program} {l : Launch} {e : Env} {s : State} {m : MethodId} {args : Array Value} {below : List Frame} {meth : Method} {c : Code} {res : (Int32 × mz_St)} (E : mz_En SX 80 mz_cl dC dI ad ca p s m meth c prog_12_method_11_code 6 "MacroHouse$Signs" (some (.int))) (n : Nat) (k : Nat) : ∀ (x2 : Int32) (x3 : Int32) (x4 : Int32) (t : mz_St), f_SI_argumentEnd_5 n k x2 x3 x4 t = some res → ∀ (H : Heap) (locs : List Loc) (ls : Array Slot), mz_Wd mz_tC 80 mz_cl dC dI ad en ca s t H locs → lv_has ls 6 [(0, .ref (ad 1)), (2, .int x2), (3, .int x3), (4, .int x4)] → W p l e (r_SI_argumentEnd) s m args below meth c H locs 0 0 (MQ below (mz_Q SX mz_tC 80 mz_cl dC dI ad en ca (some (.int res.1)) res.2) args s 0 0 (mz_A ad 80)) (F0 m 5 ls []) := by
  obtain ⟨hx, hb, hml, hown, hcx, -, -, hSX, -, -, hSK⟩ := id E
  induction k with
  | zero => intro x2 x3 x4 t hf; exact absurd hf (by unfold f_SI_argumentEnd_5; exact fun h => nomatch h)
  | succ k ih =>
    intro x2 x3 x4 t hf H locs ls w hl
    unfold f_SI_argumentEnd_5 at hf
    refine lv_iload hx hb d_SI_argumentEnd_5 (lv_at hl 3 rfl) ?_
    refine lv_iload_n hx hb d_SI_argumentEnd_7 rfl (lv_at hl 1 rfl) ?_
    refine lv_icmp_ge (tgt := 65) hx hb d_SI_argumentEnd_8 (by decide) (fun hc1 => ?_) (fun hc1 => ?_)
    · have hf := mz_t hc1 hf
      refine lv_iload_n hx hb d_SI_argumentEnd_65 rfl (lv_at hl 2 rfl) ?_
      refine lv_if_ne (tgt := 73) hx hb d_SI_argumentEnd_66 (by decide) (fun hc2 => ?_) (fun hc2 => ?_)
      · have hf := mz_f hc2 hf
        refine lv_iconst (v := (-1 : Int32)) hx hb d_SI_argumentEnd_73 (by decide) ?_
        obtain rfl := Option.some.inj hf
        exact mz_iret E w rfl d_SI_argumentEnd_74
      · have hf := mz_t hc2 hf
        refine lv_iload_n hx hb d_SI_argumentEnd_69 rfl (lv_at hl 1 rfl) ?_
        refine lv_goto (tgt := 74) hx hb d_SI_argumentEnd_70 (by decide) ?_
        obtain rfl := Option.some.inj hf
        exact mz_iret E w rfl d_SI_argumentEnd_74
    · have hf := mz_f hc1 hf
      refine lv_aload_n hx hb d_SI_argumentEnd_11 rfl (lv_at hl 0 rfl) ?_
      refine lv_iload hx hb d_SI_argumentEnd_12 (lv_at hl 3 rfl) ?_
      obtain ⟨q3, hq4, hf⟩ := mz_bd hf
      refine mz_callV E w (k := 1) (As := [.int x4]) (rest := []) (c_SI_at hSK l n x4 t q3 hq4) (by decide) rfl rfl k_450 k_2 k_447 k_448 k_449 hm_SI_at ⟨⟨rfl, rfl⟩, Nat.le_of_ble_eq_true rfl, Nat.le_of_ble_eq_true rfl⟩ rfl hl.1 rfl (Nat.le_of_ble_eq_true rfl) d_SI_argumentEnd_14 ⟨Nat.zero_le _, Nat.zero_le _⟩ (st1 := [.int q3.1]) rfl (fun H locs w => ?_)
      refine lv_istore (lv' := [(5, .int q3.1), (0, .ref (ad 1)), (2, .int x2), (3, .int x3), (4, .int x4)]) hx hb d_SI_argumentEnd_17 hl (by decide) rfl (fun ls hl => ?_)
      refine lv_iload hx hb d_SI_argumentEnd_19 (lv_at hl 0 rfl) ?_
      refine lv_bipush (v := (44 : Int32)) hx hb d_SI_argumentEnd_21 (by decide) ?_
      refine lv_icmp_ne (tgt := 33) hx hb d_SI_argumentEnd_23 (by decide) (fun hc5 => ?_) (fun hc5 => ?_)
      · have hf := mz_f hc5 hf
        exact b_SI_argumentEnd_33 E n (f_SI_argumentEnd_5 n k) ih x2 x3 x4 q3.1 q3.2 hf _ _ _ w (lv_sub hl [1, 2, 3, 4, 0] rfl)
      · have hf := mz_t hc5 hf
        refine lv_iload_n hx hb d_SI_argumentEnd_26 rfl (lv_at hl 3 rfl) ?_
        refine lv_if_ne (tgt := 33) hx hb d_SI_argumentEnd_27 (by decide) (fun hc9 => ?_) (fun hc9 => ?_)
        · have hf := mz_f hc9 hf
          exact b_SI_argumentEnd_33 E n (f_SI_argumentEnd_5 n k) ih x2 x3 x4 q3.1 q3.2 hf _ _ _ w (lv_sub hl [1, 2, 3, 4, 0] rfl)
        · have hf := mz_t hc9 hf
          refine lv_iload hx hb d_SI_argumentEnd_30 (lv_at hl 4 rfl) ?_
          obtain rfl := Option.some.inj hf
          exact mz_iret E w rfl d_SI_argumentEnd_32
set_option maxRecDepth 100000 in
set_option maxHeartbeats 4000000 in
theorem c_SI_argumentEnd {SX : State → Heap → Prop} {dC : Nat → ClassId} {dI : Nat → Nat → Nat} {ad en : Nat → Nat} {ca : Nat → ClassId} (hSK : mz_SK SX ad 80) (l : Launch) (n : Nat) (x1 : Int32) (x2 : Int32) (t : mz_St) (res : (Int32 × mz_St)) (hf : f_SI_argumentEnd n x1 x2 t = some res) : mz_C SX mz_tC 80 mz_cl dC dI ad en ca l y_SI_argumentEnd prog_12_method_11_code 6 (some (.int)) (r_SI_argumentEnd) [.ref (ad 1), .int x1, .int x2] t (some (.int res.1)) res.2 := by
  unfold f_SI_argumentEnd at hf
  refine mz_met hSK (by decide) (Nat.le_of_ble_eq_true rfl) ?_
  intro p e s m args below meth c ls E w hl
  obtain ⟨hx, hb, hml, hown, hcx, -, -, hSX, -, -, -⟩ := id E
  have hl : lv_has ls 6 [(0, .ref (ad 1)), (1, .int x1), (2, .int x2)] := hl
  refine lv_iconst (v := (0 : Int32)) hx hb d_SI_argumentEnd_0 (by decide) ?_
  refine lv_istore_n (lv' := [(3, .int (0 : Int32)), (0, .ref (ad 1)), (1, .int x1), (2, .int x2)]) hx hb d_SI_argumentEnd_1 rfl hl (by decide) rfl (fun ls hl => ?_)
  refine lv_iload_n hx hb d_SI_argumentEnd_2 rfl (lv_at hl 2 rfl) ?_
  refine lv_istore (lv' := [(4, .int x1), (3, .int (0 : Int32)), (0, .ref (ad 1)), (1, .int x1), (2, .int x2)]) hx hb d_SI_argumentEnd_3 hl (by decide) rfl (fun ls hl => ?_)
  exact b_SI_argumentEnd_5 E n n x2 (0 : Int32) x1 t hf _ _ _ w (lv_sub hl [2, 4, 1, 0] rfl)

/-! MacroHouse$Signs.startOf(I)I -/
abbrev r_SI_startOf : Room := { frames := 0, cells := 0, slots := 0, locals := 0 }
def f_SI_startOf (n : Nat) (x1 : Int32) (t : mz_St) : Option (Int32 × mz_St) := if x1 < 0 then (some ((0 : Int32), t)) else (if (3001 : Int32) ≤ x1 then (some ((0 : Int32), t)) else (if ¬ (x1 < 0 ∨ 3001 ≤ x1.toNatClampNeg) then (some ((mz_gI t 3 x1.toNatClampNeg), t)) else none))
set_option maxRecDepth 100000 in
set_option maxHeartbeats 4000000 in
theorem c_SI_startOf {SX : State → Heap → Prop} {dC : Nat → ClassId} {dI : Nat → Nat → Nat} {ad en : Nat → Nat} {ca : Nat → ClassId} (hSK : mz_SK SX ad 80) (l : Launch) (n : Nat) (x1 : Int32) (t : mz_St) (res : (Int32 × mz_St)) (hf : f_SI_startOf n x1 t = some res) : mz_C SX mz_tC 80 mz_cl dC dI ad en ca l y_SI_startOf prog_12_method_16_code 2 (some (.int)) (r_SI_startOf) [.ref (ad 1), .int x1] t (some (.int res.1)) res.2 := by
  unfold f_SI_startOf at hf
  refine mz_met hSK (by decide) (Nat.le_of_ble_eq_true rfl) ?_
  intro p e s m args below meth c ls E w hl
  obtain ⟨hx, hb, hml, hown, hcx, -, -, hSX, -, -, -⟩ := id E
  have hl : lv_has ls 2 [(0, .ref (ad 1)), (1, .int x1)] := hl
  refine lv_iload_n hx hb d_SI_startOf_0 rfl (lv_at hl 1 rfl) ?_
  refine lv_if_lt (tgt := 22) hx hb d_SI_startOf_1 (by decide) (fun hc1 => ?_) (fun hc1 => ?_)
  · have hf := mz_t hc1 hf
    refine lv_iconst (v := (0 : Int32)) hx hb d_SI_startOf_22 (by decide) ?_
    obtain rfl := Option.some.inj hf
    exact mz_iret E w rfl d_SI_startOf_23
  · have hf := mz_f hc1 hf
    refine lv_iload_n hx hb d_SI_startOf_4 rfl (lv_at hl 1 rfl) ?_
    refine lv_aload_n hx hb d_SI_startOf_5 rfl (lv_at hl 0 rfl) ?_
    refine mz_get E w 1 1 (v := .ref (ad 3)) (by decide) rfl rfl ii_1 (by decide) (Nat.le_of_ble_eq_true rfl) k_42 rfl d_SI_startOf_6 ?_
    refine mz_alen E w 3 (v := (3001 : Int32)) (by decide) rfl (by decide) rfl d_SI_startOf_9 ?_
    refine lv_icmp_ge (tgt := 22) hx hb d_SI_startOf_10 (by decide) (fun hc2 => ?_) (fun hc2 => ?_)
    · have hf := mz_t hc2 hf
      refine lv_iconst (v := (0 : Int32)) hx hb d_SI_startOf_22 (by decide) ?_
      obtain rfl := Option.some.inj hf
      exact mz_iret E w rfl d_SI_startOf_23
    · have hf := mz_f hc2 hf
      refine lv_aload_n hx hb d_SI_startOf_13 rfl (lv_at hl 0 rfl) ?_
      refine mz_get E w 1 1 (v := .ref (ad 3)) (by decide) rfl rfl ii_1 (by decide) (Nat.le_of_ble_eq_true rfl) k_42 rfl d_SI_startOf_14 ?_
      refine lv_iload_n hx hb d_SI_startOf_17 rfl (lv_at hl 1 rfl) ?_
      obtain ⟨hi3, hf⟩ := mz_gd hf
      refine mz_iald E w 3 (by decide) rfl hi3 d_SI_startOf_18 ?_
      refine lv_goto (tgt := 23) hx hb d_SI_startOf_19 (by decide) ?_
      obtain rfl := Option.some.inj hf
      exact mz_iret E w rfl d_SI_startOf_23

/-! MacroHouse$Signs.stopOf(I)I -/
abbrev r_SI_stopOf : Room := { frames := 0, cells := 0, slots := 0, locals := 0 }
def f_SI_stopOf (n : Nat) (x1 : Int32) (t : mz_St) : Option (Int32 × mz_St) := if x1 < 0 then (some ((0 : Int32), t)) else (if (3001 : Int32) ≤ x1 then (some ((0 : Int32), t)) else (if ¬ (x1 < 0 ∨ 3001 ≤ x1.toNatClampNeg) then (some ((mz_gI t 4 x1.toNatClampNeg), t)) else none))
set_option maxRecDepth 100000 in
set_option maxHeartbeats 4000000 in
theorem c_SI_stopOf {SX : State → Heap → Prop} {dC : Nat → ClassId} {dI : Nat → Nat → Nat} {ad en : Nat → Nat} {ca : Nat → ClassId} (hSK : mz_SK SX ad 80) (l : Launch) (n : Nat) (x1 : Int32) (t : mz_St) (res : (Int32 × mz_St)) (hf : f_SI_stopOf n x1 t = some res) : mz_C SX mz_tC 80 mz_cl dC dI ad en ca l y_SI_stopOf prog_12_method_17_code 2 (some (.int)) (r_SI_stopOf) [.ref (ad 1), .int x1] t (some (.int res.1)) res.2 := by
  unfold f_SI_stopOf at hf
  refine mz_met hSK (by decide) (Nat.le_of_ble_eq_true rfl) ?_
  intro p e s m args below meth c ls E w hl
  obtain ⟨hx, hb, hml, hown, hcx, -, -, hSX, -, -, -⟩ := id E
  have hl : lv_has ls 2 [(0, .ref (ad 1)), (1, .int x1)] := hl
  refine lv_iload_n hx hb d_SI_stopOf_0 rfl (lv_at hl 1 rfl) ?_
  refine lv_if_lt (tgt := 22) hx hb d_SI_stopOf_1 (by decide) (fun hc1 => ?_) (fun hc1 => ?_)
  · have hf := mz_t hc1 hf
    refine lv_iconst (v := (0 : Int32)) hx hb d_SI_stopOf_22 (by decide) ?_
    obtain rfl := Option.some.inj hf
    exact mz_iret E w rfl d_SI_stopOf_23
  · have hf := mz_f hc1 hf
    refine lv_iload_n hx hb d_SI_stopOf_4 rfl (lv_at hl 1 rfl) ?_
    refine lv_aload_n hx hb d_SI_stopOf_5 rfl (lv_at hl 0 rfl) ?_
    refine mz_get E w 1 2 (v := .ref (ad 4)) (by decide) rfl rfl ii_1 (by decide) (Nat.le_of_ble_eq_true rfl) k_43 rfl d_SI_stopOf_6 ?_
    refine mz_alen E w 4 (v := (3001 : Int32)) (by decide) rfl (by decide) rfl d_SI_stopOf_9 ?_
    refine lv_icmp_ge (tgt := 22) hx hb d_SI_stopOf_10 (by decide) (fun hc2 => ?_) (fun hc2 => ?_)
    · have hf := mz_t hc2 hf
      refine lv_iconst (v := (0 : Int32)) hx hb d_SI_stopOf_22 (by decide) ?_
      obtain rfl := Option.some.inj hf
      exact mz_iret E w rfl d_SI_stopOf_23
    · have hf := mz_f hc2 hf
      refine lv_aload_n hx hb d_SI_stopOf_13 rfl (lv_at hl 0 rfl) ?_
      refine mz_get E w 1 2 (v := .ref (ad 4)) (by decide) rfl rfl ii_1 (by decide) (Nat.le_of_ble_eq_true rfl) k_43 rfl d_SI_stopOf_14 ?_
      refine lv_iload_n hx hb d_SI_stopOf_17 rfl (lv_at hl 1 rfl) ?_
      obtain ⟨hi3, hf⟩ := mz_gd hf
      refine mz_iald E w 4 (by decide) rfl hi3 d_SI_stopOf_18 ?_
      refine lv_goto (tgt := 23) hx hb d_SI_stopOf_19 (by decide) ?_
      obtain rfl := Option.some.inj hf
      exact mz_iret E w rfl d_SI_stopOf_23

/-! MacroHouse$Signs.beginsWord(I)Z -/
abbrev r_SI_beginsWord : Room := { frames := 0, cells := 0, slots := 0, locals := 0 }
def f_SI_beginsWord_18 (n : Nat) (t : mz_St) : Option (Int32 × mz_St) := some ((1 : Int32), t)
def f_SI_beginsWord_12 (n : Nat) (x0 : Int32) (t : mz_St) : Option (Int32 × mz_St) := if x0 = (95 : Int32) then (f_SI_beginsWord_18 n  t) else (some ((0 : Int32), t))
def f_SI_beginsWord (n : Nat) (x0 : Int32) (t : mz_St) : Option (Int32 × mz_St) := if x0 < (97 : Int32) then (f_SI_beginsWord_12 n x0 t) else (if x0 ≤ (122 : Int32) then (f_SI_beginsWord_18 n  t) else (f_SI_beginsWord_12 n x0 t))
set_option maxRecDepth 100000 in
set_option maxHeartbeats 4000000 in
theorem b_SI_beginsWord_18 {SX : State → Heap → Prop} {dC : Nat → ClassId} {dI : Nat → Nat → Nat} {ad en : Nat → Nat} {ca : Nat → ClassId} {p : Program} {l : Launch} {e : Env} {s : State} {m : MethodId} {args : Array Value} {below : List Frame} {meth : Method} {c : Code} {res : (Int32 × mz_St)} (E : mz_En SX 80 mz_cl dC dI ad ca p s m meth c prog_12_method_4_code 1 "MacroHouse$Signs" (some (.boolean))) (n : Nat) : ∀ (t : mz_St), f_SI_beginsWord_18 n t = some res → ∀ (H : Heap) (locs : List Loc) (ls : Array Slot), mz_Wd mz_tC 80 mz_cl dC dI ad en ca s t H locs → lv_has ls 1 [] → W p l e (r_SI_beginsWord) s m args below meth c H locs 0 0 (MQ below (mz_Q SX mz_tC 80 mz_cl dC dI ad en ca (some (.int res.1)) res.2) args s 0 0 (mz_A ad 80)) (F0 m 18 ls []) := by
  obtain ⟨hx, hb, hml, hown, hcx, -, -, hSX, -, -, hSK⟩ := id E
  intro t hf H locs ls w hl
  unfold f_SI_beginsWord_18 at hf
  refine lv_iconst (v := (1 : Int32)) hx hb d_SI_beginsWord_18 (by decide) ?_
  refine lv_goto (tgt := 23) hx hb d_SI_beginsWord_19 (by decide) ?_
  obtain rfl := Option.some.inj hf
  exact mz_zret E w (by decide) rfl d_SI_beginsWord_23
set_option maxRecDepth 100000 in
set_option maxHeartbeats 4000000 in
theorem b_SI_beginsWord_12 {SX : State → Heap → Prop} {dC : Nat → ClassId} {dI : Nat → Nat → Nat} {ad en : Nat → Nat} {ca : Nat → ClassId} {p : Program} {l : Launch} {e : Env} {s : State} {m : MethodId} {args : Array Value} {below : List Frame} {meth : Method} {c : Code} {res : (Int32 × mz_St)} (E : mz_En SX 80 mz_cl dC dI ad ca p s m meth c prog_12_method_4_code 1 "MacroHouse$Signs" (some (.boolean))) (n : Nat) : ∀ (x0 : Int32) (t : mz_St), f_SI_beginsWord_12 n x0 t = some res → ∀ (H : Heap) (locs : List Loc) (ls : Array Slot), mz_Wd mz_tC 80 mz_cl dC dI ad en ca s t H locs → lv_has ls 1 [(0, .int x0)] → W p l e (r_SI_beginsWord) s m args below meth c H locs 0 0 (MQ below (mz_Q SX mz_tC 80 mz_cl dC dI ad en ca (some (.int res.1)) res.2) args s 0 0 (mz_A ad 80)) (F0 m 12 ls []) := by
  obtain ⟨hx, hb, hml, hown, hcx, -, -, hSX, -, -, hSK⟩ := id E
  intro x0 t hf H locs ls w hl
  unfold f_SI_beginsWord_12 at hf
  refine lv_iload_n hx hb d_SI_beginsWord_12 rfl (lv_at hl 0 rfl) ?_
  refine lv_bipush (v := (95 : Int32)) hx hb d_SI_beginsWord_13 (by decide) ?_
  refine lv_icmp_ne (tgt := 22) hx hb d_SI_beginsWord_15 (by decide) (fun hc2 => ?_) (fun hc2 => ?_)
  · have hf := mz_f hc2 hf
    refine lv_iconst (v := (0 : Int32)) hx hb d_SI_beginsWord_22 (by decide) ?_
    obtain rfl := Option.some.inj hf
    exact mz_zret E w (by decide) rfl d_SI_beginsWord_23
  · have hf := mz_t hc2 hf
    exact b_SI_beginsWord_18 E n  t hf _ _ _ w (lv_sub hl [] rfl)
set_option maxRecDepth 100000 in
set_option maxHeartbeats 4000000 in
theorem c_SI_beginsWord {SX : State → Heap → Prop} {dC : Nat → ClassId} {dI : Nat → Nat → Nat} {ad en : Nat → Nat} {ca : Nat → ClassId} (hSK : mz_SK SX ad 80) (l : Launch) (n : Nat) (x0 : Int32) (t : mz_St) (res : (Int32 × mz_St)) (hf : f_SI_beginsWord n x0 t = some res) : mz_C SX mz_tC 80 mz_cl dC dI ad en ca l y_SI_beginsWord prog_12_method_4_code 1 (some (.boolean)) (r_SI_beginsWord) [.int x0] t (some (.int res.1)) res.2 := by
  unfold f_SI_beginsWord at hf
  refine mz_met hSK (by decide) (Nat.le_of_ble_eq_true rfl) ?_
  intro p e s m args below meth c ls E w hl
  obtain ⟨hx, hb, hml, hown, hcx, -, -, hSX, -, -, -⟩ := id E
  have hl : lv_has ls 1 [(0, .int x0)] := hl
  refine lv_iload_n hx hb d_SI_beginsWord_0 rfl (lv_at hl 0 rfl) ?_
  refine lv_bipush (v := (97 : Int32)) hx hb d_SI_beginsWord_1 (by decide) ?_
  refine lv_icmp_lt (tgt := 12) hx hb d_SI_beginsWord_3 (by decide) (fun hc1 => ?_) (fun hc1 => ?_)
  · have hf := mz_t hc1 hf
    exact b_SI_beginsWord_12 E n x0 t hf _ _ _ w (lv_sub hl [0] rfl)
  · have hf := mz_f hc1 hf
    refine lv_iload_n hx hb d_SI_beginsWord_6 rfl (lv_at hl 0 rfl) ?_
    refine lv_bipush (v := (122 : Int32)) hx hb d_SI_beginsWord_7 (by decide) ?_
    refine lv_icmp_le (tgt := 18) hx hb d_SI_beginsWord_9 (by decide) (fun hc3 => ?_) (fun hc3 => ?_)
    · have hf := mz_t hc3 hf
      exact b_SI_beginsWord_18 E n  t hf _ _ _ w (lv_sub hl [] rfl)
    · have hf := mz_f hc3 hf
      exact b_SI_beginsWord_12 E n x0 t hf _ _ _ w (lv_sub hl [0] rfl)

/-! MacroHouse$Signs.isDigit(I)Z -/
abbrev r_SI_isDigit : Room := { frames := 0, cells := 0, slots := 0, locals := 0 }
def f_SI_isDigit (n : Nat) (x0 : Int32) (t : mz_St) : Option (Int32 × mz_St) := if x0 < (48 : Int32) then (some ((0 : Int32), t)) else (if (57 : Int32) < x0 then (some ((0 : Int32), t)) else (some ((1 : Int32), t)))
set_option maxRecDepth 100000 in
set_option maxHeartbeats 4000000 in
theorem c_SI_isDigit {SX : State → Heap → Prop} {dC : Nat → ClassId} {dI : Nat → Nat → Nat} {ad en : Nat → Nat} {ca : Nat → ClassId} (hSK : mz_SK SX ad 80) (l : Launch) (n : Nat) (x0 : Int32) (t : mz_St) (res : (Int32 × mz_St)) (hf : f_SI_isDigit n x0 t = some res) : mz_C SX mz_tC 80 mz_cl dC dI ad en ca l y_SI_isDigit prog_12_method_3_code 1 (some (.boolean)) (r_SI_isDigit) [.int x0] t (some (.int res.1)) res.2 := by
  unfold f_SI_isDigit at hf
  refine mz_met hSK (by decide) (Nat.le_of_ble_eq_true rfl) ?_
  intro p e s m args below meth c ls E w hl
  obtain ⟨hx, hb, hml, hown, hcx, -, -, hSX, -, -, -⟩ := id E
  have hl : lv_has ls 1 [(0, .int x0)] := hl
  refine lv_iload_n hx hb d_SI_isDigit_0 rfl (lv_at hl 0 rfl) ?_
  refine lv_bipush (v := (48 : Int32)) hx hb d_SI_isDigit_1 (by decide) ?_
  refine lv_icmp_lt (tgt := 16) hx hb d_SI_isDigit_3 (by decide) (fun hc1 => ?_) (fun hc1 => ?_)
  · have hf := mz_t hc1 hf
    refine lv_iconst (v := (0 : Int32)) hx hb d_SI_isDigit_16 (by decide) ?_
    obtain rfl := Option.some.inj hf
    exact mz_zret E w (by decide) rfl d_SI_isDigit_17
  · have hf := mz_f hc1 hf
    refine lv_iload_n hx hb d_SI_isDigit_6 rfl (lv_at hl 0 rfl) ?_
    refine lv_bipush (v := (57 : Int32)) hx hb d_SI_isDigit_7 (by decide) ?_
    refine lv_icmp_gt (tgt := 16) hx hb d_SI_isDigit_9 (by decide) (fun hc2 => ?_) (fun hc2 => ?_)
    · have hf := mz_t hc2 hf
      refine lv_iconst (v := (0 : Int32)) hx hb d_SI_isDigit_16 (by decide) ?_
      obtain rfl := Option.some.inj hf
      exact mz_zret E w (by decide) rfl d_SI_isDigit_17
    · have hf := mz_f hc2 hf
      refine lv_iconst (v := (1 : Int32)) hx hb d_SI_isDigit_12 (by decide) ?_
      refine lv_goto (tgt := 17) hx hb d_SI_isDigit_13 (by decide) ?_
      obtain rfl := Option.some.inj hf
      exact mz_zret E w (by decide) rfl d_SI_isDigit_17

/-! MacroHouse$Signs.wordEnd(II)I -/
abbrev r_SI_wordEnd : Room := { frames := 1, cells := 0, slots := 0, locals := 21 }
def f_SI_wordEnd_49 (n : Nat) (K22 : Int32 → Int32 → mz_St → Option (Int32 × mz_St)) (x2 : Int32) (x3 : Int32) (t : mz_St) : Option (Int32 × mz_St) := K22 x2 (x3 + (1 : Int32)) t
def f_SI_wordEnd_22 (n : Nat) : Nat → Int32 → Int32 → mz_St → Option (Int32 × mz_St)
  | 0, _, _, _ => none
  | k + 1, x2, x3, t => if x2 ≤ x3 then (some (x3, t)) else ((f_SI_at n x3 t).bind fun q8 => (f_SI_beginsWord n q8.1 q8.2).bind fun q10 => if q10.1 = 0 then ((f_SI_at n x3 q10.2).bind fun q13 => (f_SI_isDigit n q13.1 q13.2).bind fun q15 => if q15.1 = 0 then (some (x3, q15.2)) else (f_SI_wordEnd_49 n (f_SI_wordEnd_22 n k) x2 x3 q15.2)) else (f_SI_wordEnd_49 n (f_SI_wordEnd_22 n k) x2 x3 q10.2))
def f_SI_wordEnd (n : Nat) (x1 : Int32) (x2 : Int32) (t : mz_St) : Option (Int32 × mz_St) := if x2 ≤ x1 then (some (x1, t)) else ((f_SI_at n x1 t).bind fun q2 => (f_SI_beginsWord n q2.1 q2.2).bind fun q4 => if q4.1 = 0 then (some (x1, q4.2)) else (f_SI_wordEnd_22 n n x2 (x1 + (1 : Int32)) q4.2))
set_option maxRecDepth 100000 in
set_option maxHeartbeats 4000000 in
theorem b_SI_wordEnd_49 {SX : State → Heap → Prop} {dC : Nat → ClassId} {dI : Nat → Nat → Nat} {ad en : Nat → Nat} {ca : Nat → ClassId} {p : Program} {l : Launch} {e : Env} {s : State} {m : MethodId} {args : Array Value} {below : List Frame} {meth : Method} {c : Code} {res : (Int32 × mz_St)} (E : mz_En SX 80 mz_cl dC dI ad ca p s m meth c prog_12_method_7_code 4 "MacroHouse$Signs" (some (.int))) (n : Nat) (K22 : Int32 → Int32 → mz_St → Option (Int32 × mz_St)) (hK22 : ∀ (x2 : Int32) (x3 : Int32) (t : mz_St), K22 x2 x3 t = some res → ∀ (H : Heap) (locs : List Loc) (ls : Array Slot), mz_Wd mz_tC 80 mz_cl dC dI ad en ca s t H locs → lv_has ls 4 [(0, .ref (ad 1)), (2, .int x2), (3, .int x3)] → W p l e (r_SI_wordEnd) s m args below meth c H locs 0 0 (MQ below (mz_Q SX mz_tC 80 mz_cl dC dI ad en ca (some (.int res.1)) res.2) args s 0 0 (mz_A ad 80)) (F0 m 22 ls [])) : ∀ (x2 : Int32) (x3 : Int32) (t : mz_St), f_SI_wordEnd_49 n K22 x2 x3 t = some res → ∀ (H : Heap) (locs : List Loc) (ls : Array Slot), mz_Wd mz_tC 80 mz_cl dC dI ad en ca s t H locs → lv_has ls 4 [(0, .ref (ad 1)), (2, .int x2), (3, .int x3)] → W p l e (r_SI_wordEnd) s m args below meth c H locs 0 0 (MQ below (mz_Q SX mz_tC 80 mz_cl dC dI ad en ca (some (.int res.1)) res.2) args s 0 0 (mz_A ad 80)) (F0 m 49 ls []) := by
  obtain ⟨hx, hb, hml, hown, hcx, -, -, hSX, -, -, hSK⟩ := id E
  intro x2 x3 t hf H locs ls w hl
  unfold f_SI_wordEnd_49 at hf
  refine lv_iinc (v := (x3 + (1 : Int32))) (lv' := [(3, .int (x3 + (1 : Int32))), (0, .ref (ad 1)), (2, .int x2)]) hx hb d_SI_wordEnd_49 hl (k := 2) rfl rfl (by decide) rfl (fun ls hl => ?_)
  refine lv_goto (tgt := 22) hx hb d_SI_wordEnd_52 (by decide) ?_
  exact hK22 x2 (x3 + (1 : Int32)) t hf _ _ _ w (lv_sub hl [1, 2, 0] rfl)
set_option maxRecDepth 100000 in
set_option maxHeartbeats 4000000 in
theorem b_SI_wordEnd_22 {SX : State → Heap → Prop} {dC : Nat → ClassId} {dI : Nat → Nat → Nat} {ad en : Nat → Nat} {ca : Nat → ClassId} {p : Program} {l : Launch} {e : Env} {s : State} {m : MethodId} {args : Array Value} {below : List Frame} {meth : Method} {c : Code} {res : (Int32 × mz_St)} (E : mz_En SX 80 mz_cl dC dI ad ca p s m meth c prog_12_method_7_code 4 "MacroHouse$Signs" (some (.int))) (n : Nat) (k : Nat) : ∀ (x2 : Int32) (x3 : Int32) (t : mz_St), f_SI_wordEnd_22 n k x2 x3 t = some res → ∀ (H : Heap) (locs : List Loc) (ls : Array Slot), mz_Wd mz_tC 80 mz_cl dC dI ad en ca s t H locs → lv_has ls 4 [(0, .ref (ad 1)), (2, .int x2), (3, .int x3)] → W p l e (r_SI_wordEnd) s m args below meth c H locs 0 0 (MQ below (mz_Q SX mz_tC 80 mz_cl dC dI ad en ca (some (.int res.1)) res.2) args s 0 0 (mz_A ad 80)) (F0 m 22 ls []) := by
  obtain ⟨hx, hb, hml, hown, hcx, -, -, hSX, -, -, hSK⟩ := id E
  induction k with
  | zero => intro x2 x3 t hf; exact absurd hf (by unfold f_SI_wordEnd_22; exact fun h => nomatch h)
  | succ k ih =>
    intro x2 x3 t hf H locs ls w hl
    unfold f_SI_wordEnd_22 at hf
    refine lv_iload_n hx hb d_SI_wordEnd_22 rfl (lv_at hl 2 rfl) ?_
    refine lv_iload_n hx hb d_SI_wordEnd_23 rfl (lv_at hl 1 rfl) ?_
    refine lv_icmp_ge (tgt := 55) hx hb d_SI_wordEnd_24 (by decide) (fun hc7 => ?_) (fun hc7 => ?_)
    · have hf := mz_t hc7 hf
      refine lv_iload_n hx hb d_SI_wordEnd_55 rfl (lv_at hl 2 rfl) ?_
      obtain rfl := Option.some.inj hf
      exact mz_iret E w rfl d_SI_wordEnd_56
    · have hf := mz_f hc7 hf
      refine lv_aload_n hx hb d_SI_wordEnd_27 rfl (lv_at hl 0 rfl) ?_
      refine lv_iload_n hx hb d_SI_wordEnd_28 rfl (lv_at hl 2 rfl) ?_
      obtain ⟨q8, hq9, hf⟩ := mz_bd hf
      refine mz_callV E w (k := 1) (As := [.int x3]) (rest := []) (c_SI_at hSK l n x3 t q8 hq9) (by decide) rfl rfl k_450 k_2 k_447 k_448 k_449 hm_SI_at ⟨⟨rfl, rfl⟩, Nat.le_of_ble_eq_true rfl, Nat.le_of_ble_eq_true rfl⟩ rfl hl.1 rfl (Nat.le_of_ble_eq_true rfl) d_SI_wordEnd_29 ⟨Nat.zero_le _, Nat.zero_le _⟩ (st1 := [.int q8.1]) rfl (fun H locs w => ?_)
      obtain ⟨q10, hq11, hf⟩ := mz_bd hf
      refine mz_callS E w (As := [.int q8.1]) (rest := []) (c_SI_beginsWord hSK l n q8.1 q8.2 q10 hq11) k_569 k_2 k_567 k_568 hm_SI_beginsWord ⟨⟨rfl, rfl⟩, Nat.le_of_ble_eq_true rfl, Nat.le_of_ble_eq_true rfl⟩ rfl hl.1 rfl (Nat.le_of_ble_eq_true rfl) d_SI_wordEnd_32 ⟨Nat.zero_le _, Nat.zero_le _⟩ (st1 := [.int q10.1]) rfl (fun H locs w => ?_)
      refine lv_if_ne (tgt := 49) hx hb d_SI_wordEnd_35 (by decide) (fun hc12 => ?_) (fun hc12 => ?_)
      · have hf := mz_f hc12 hf
        exact b_SI_wordEnd_49 E n (f_SI_wordEnd_22 n k) ih x2 x3 q10.2 hf _ _ _ w (lv_sub hl [0, 1, 2] rfl)
      · have hf := mz_t hc12 hf
        refine lv_aload_n hx hb d_SI_wordEnd_38 rfl (lv_at hl 0 rfl) ?_
        refine lv_iload_n hx hb d_SI_wordEnd_39 rfl (lv_at hl 2 rfl) ?_
        obtain ⟨q13, hq14, hf⟩ := mz_bd hf
        refine mz_callV E w (k := 1) (As := [.int x3]) (rest := []) (c_SI_at hSK l n x3 q10.2 q13 hq14) (by decide) rfl rfl k_450 k_2 k_447 k_448 k_449 hm_SI_at ⟨⟨rfl, rfl⟩, Nat.le_of_ble_eq_true rfl, Nat.le_of_ble_eq_true rfl⟩ rfl hl.1 rfl (Nat.le_of_ble_eq_true rfl) d_SI_wordEnd_40 ⟨Nat.zero_le _, Nat.zero_le _⟩ (st1 := [.int q13.1]) rfl (fun H locs w => ?_)
        obtain ⟨q15, hq16, hf⟩ := mz_bd hf
        refine mz_callS E w (As := [.int q13.1]) (rest := []) (c_SI_isDigit hSK l n q13.1 q13.2 q15 hq16) k_572 k_2 k_570 k_571 hm_SI_isDigit ⟨⟨rfl, rfl⟩, Nat.le_of_ble_eq_true rfl, Nat.le_of_ble_eq_true rfl⟩ rfl hl.1 rfl (Nat.le_of_ble_eq_true rfl) d_SI_wordEnd_43 ⟨Nat.zero_le _, Nat.zero_le _⟩ (st1 := [.int q15.1]) rfl (fun H locs w => ?_)
        refine lv_if_eq (tgt := 55) hx hb d_SI_wordEnd_46 (by decide) (fun hc17 => ?_) (fun hc17 => ?_)
        · have hf := mz_t hc17 hf
          refine lv_iload_n hx hb d_SI_wordEnd_55 rfl (lv_at hl 2 rfl) ?_
          obtain rfl := Option.some.inj hf
          exact mz_iret E w rfl d_SI_wordEnd_56
        · have hf := mz_f hc17 hf
          exact b_SI_wordEnd_49 E n (f_SI_wordEnd_22 n k) ih x2 x3 q15.2 hf _ _ _ w (lv_sub hl [0, 1, 2] rfl)
set_option maxRecDepth 100000 in
set_option maxHeartbeats 4000000 in
theorem c_SI_wordEnd {SX : State → Heap → Prop} {dC : Nat → ClassId} {dI : Nat → Nat → Nat} {ad en : Nat → Nat} {ca : Nat → ClassId} (hSK : mz_SK SX ad 80) (l : Launch) (n : Nat) (x1 : Int32) (x2 : Int32) (t : mz_St) (res : (Int32 × mz_St)) (hf : f_SI_wordEnd n x1 x2 t = some res) : mz_C SX mz_tC 80 mz_cl dC dI ad en ca l y_SI_wordEnd prog_12_method_7_code 4 (some (.int)) (r_SI_wordEnd) [.ref (ad 1), .int x1, .int x2] t (some (.int res.1)) res.2 := by
  unfold f_SI_wordEnd at hf
  refine mz_met hSK (by decide) (Nat.le_of_ble_eq_true rfl) ?_
  intro p e s m args below meth c ls E w hl
  obtain ⟨hx, hb, hml, hown, hcx, -, -, hSX, -, -, -⟩ := id E
  have hl : lv_has ls 4 [(0, .ref (ad 1)), (1, .int x1), (2, .int x2)] := hl
  refine lv_iload_n hx hb d_SI_wordEnd_0 rfl (lv_at hl 1 rfl) ?_
  refine lv_iload_n hx hb d_SI_wordEnd_1 rfl (lv_at hl 2 rfl) ?_
  refine lv_icmp_ge (tgt := 16) hx hb d_SI_wordEnd_2 (by decide) (fun hc1 => ?_) (fun hc1 => ?_)
  · have hf := mz_t hc1 hf
    refine lv_iload_n hx hb d_SI_wordEnd_16 rfl (lv_at hl 1 rfl) ?_
    obtain rfl := Option.some.inj hf
    exact mz_iret E w rfl d_SI_wordEnd_17
  · have hf := mz_f hc1 hf
    refine lv_aload_n hx hb d_SI_wordEnd_5 rfl (lv_at hl 0 rfl) ?_
    refine lv_iload_n hx hb d_SI_wordEnd_6 rfl (lv_at hl 1 rfl) ?_
    obtain ⟨q2, hq3, hf⟩ := mz_bd hf
    refine mz_callV E w (k := 1) (As := [.int x1]) (rest := []) (c_SI_at hSK l n x1 t q2 hq3) (by decide) rfl rfl k_450 k_2 k_447 k_448 k_449 hm_SI_at ⟨⟨rfl, rfl⟩, Nat.le_of_ble_eq_true rfl, Nat.le_of_ble_eq_true rfl⟩ rfl hl.1 rfl (Nat.le_of_ble_eq_true rfl) d_SI_wordEnd_7 ⟨Nat.zero_le _, Nat.zero_le _⟩ (st1 := [.int q2.1]) rfl (fun H locs w => ?_)
    obtain ⟨q4, hq5, hf⟩ := mz_bd hf
    refine mz_callS E w (As := [.int q2.1]) (rest := []) (c_SI_beginsWord hSK l n q2.1 q2.2 q4 hq5) k_569 k_2 k_567 k_568 hm_SI_beginsWord ⟨⟨rfl, rfl⟩, Nat.le_of_ble_eq_true rfl, Nat.le_of_ble_eq_true rfl⟩ rfl hl.1 rfl (Nat.le_of_ble_eq_true rfl) d_SI_wordEnd_10 ⟨Nat.zero_le _, Nat.zero_le _⟩ (st1 := [.int q4.1]) rfl (fun H locs w => ?_)
    refine lv_if_ne (tgt := 18) hx hb d_SI_wordEnd_13 (by decide) (fun hc6 => ?_) (fun hc6 => ?_)
    · have hf := mz_f hc6 hf
      refine lv_iload_n hx hb d_SI_wordEnd_18 rfl (lv_at hl 1 rfl) ?_
      refine lv_iconst (v := (1 : Int32)) hx hb d_SI_wordEnd_19 (by decide) ?_
      refine lv_iadd hx hb d_SI_wordEnd_20 ?_
      refine lv_istore_n (lv' := [(3, .int (x1 + (1 : Int32))), (0, .ref (ad 1)), (1, .int x1), (2, .int x2)]) hx hb d_SI_wordEnd_21 rfl hl (by decide) rfl (fun ls hl => ?_)
      exact b_SI_wordEnd_22 E n n x2 (x1 + (1 : Int32)) q4.2 hf _ _ _ w (lv_sub hl [1, 3, 0] rfl)
    · have hf := mz_t hc6 hf
      refine lv_iload_n hx hb d_SI_wordEnd_16 rfl (lv_at hl 1 rfl) ?_
      obtain rfl := Option.some.inj hf
      exact mz_iret E w rfl d_SI_wordEnd_17

/-! MacroHouse$Signs.spells(IILjava/lang/String;)Z -/
abbrev r_SI_spells : Room := { frames := 4, cells := 0, slots := 0, locals := 85 }
def f_SI_spells_15 (n : Nat) : Nat → Int32 → Nat → Int32 → mz_St → Option (Int32 × mz_St)
  | 0, _, _, _, _ => none
  | k + 1, x1, x3, x4, t => if x3 < 15 then ((f_JS_length n x3 t).bind fun q5 => if q5.1 ≤ x4 then (some ((1 : Int32), q5.2)) else ((f_SI_at n (x1 + x4) q5.2).bind fun q9 => if x3 < 15 then ((f_JS_charAt n x3 x4 q9.2).bind fun q11 => if q9.1 = q11.1 then ((f_SI_spells_15 n k) x1 x3 (x4 + (1 : Int32)) q11.2) else (some ((0 : Int32), q11.2))) else none)) else none
def f_SI_spells (n : Nat) (x1 : Int32) (x2 : Int32) (x3 : Nat) (t : mz_St) : Option (Int32 × mz_St) := if x3 < 15 then ((f_JS_length n x3 t).bind fun q1 => if (x2 - x1) = q1.1 then (f_SI_spells_15 n n x1 x3 (0 : Int32) q1.2) else (some ((0 : Int32), q1.2))) else none
set_option maxRecDepth 100000 in
set_option maxHeartbeats 4000000 in
theorem b_SI_spells_15 {dC : Nat → ClassId} {dI : Nat → Nat → Nat} {ad en adK adV : Nat → Nat} {tA tS : Nat} {oF : Option Nat} {ca : Nat → ClassId} {p : Program} {l : Launch} {e : Env} {s : State} {m : MethodId} {args : Array Value} {below : List Frame} {meth : Method} {c : Code} {res : (Int32 × mz_St)} (E : mz_En (mz_SC ad en adK adV tA tS oF) 80 mz_cl dC dI ad ca p s m meth c prog_12_method_13_code 5 "MacroHouse$Signs" (some (.boolean))) (n : Nat) (k : Nat) : ∀ (x1 : Int32) (x3 : Nat) (x4 : Int32) (t : mz_St), f_SI_spells_15 n k x1 x3 x4 t = some res → ∀ (H : Heap) (locs : List Loc) (ls : Array Slot), mz_Wd mz_tC 80 mz_cl dC dI ad en ca s t H locs → lv_has ls 5 [(0, .ref (ad 1)), (1, .int x1), (3, .ref (adK x3)), (4, .int x4)] → W p l e (r_SI_spells) s m args below meth c H locs 0 0 (MQ below (mz_Q (mz_SC ad en adK adV tA tS oF) mz_tC 80 mz_cl dC dI ad en ca (some (.int res.1)) res.2) args s 0 0 (mz_A ad 80)) (F0 m 15 ls []) := by
  obtain ⟨hx, hb, hml, hown, hcx, -, -, hSX, -, -, hSK⟩ := id E
  induction k with
  | zero => intro x1 x3 x4 t hf; exact absurd hf (by unfold f_SI_spells_15; exact fun h => nomatch h)
  | succ k ih =>
    intro x1 x3 x4 t hf H locs ls w hl
    unfold f_SI_spells_15 at hf
    refine lv_iload hx hb d_SI_spells_15 (lv_at hl 3 rfl) ?_
    refine lv_aload_n hx hb d_SI_spells_17 rfl (lv_at hl 2 rfl) ?_
    obtain ⟨hg7, hf⟩ := mz_gd hf
    obtain ⟨q5, hq6, hf⟩ := mz_bd hf
    refine mz_callG E w (As := []) (rest := [.int x4]) (c_JS_length hSK l n x3 t q5 hq6) (mz_rcK E w hg7) k_582 k_21 k_579 k_580 k_581 hm_JS_length ⟨⟨rfl, rfl⟩, Nat.le_of_ble_eq_true rfl, Nat.le_of_ble_eq_true rfl⟩ rfl hl.1 rfl (Nat.le_of_ble_eq_true rfl) d_SI_spells_18 ⟨Nat.zero_le _, Nat.zero_le _⟩ (st1 := [.int q5.1, .int x4]) rfl (fun H locs w => ?_)
    refine lv_icmp_ge (tgt := 49) hx hb d_SI_spells_21 (by decide) (fun hc8 => ?_) (fun hc8 => ?_)
    · have hf := mz_t hc8 hf
      refine lv_iconst (v := (1 : Int32)) hx hb d_SI_spells_49 (by decide) ?_
      obtain rfl := Option.some.inj hf
      exact mz_zret E w (by decide) rfl d_SI_spells_50
    · have hf := mz_f hc8 hf
      refine lv_aload_n hx hb d_SI_spells_24 rfl (lv_at hl 0 rfl) ?_
      refine lv_iload_n hx hb d_SI_spells_25 rfl (lv_at hl 1 rfl) ?_
      refine lv_iload hx hb d_SI_spells_26 (lv_at hl 3 rfl) ?_
      refine lv_iadd hx hb d_SI_spells_28 ?_
      obtain ⟨q9, hq10, hf⟩ := mz_bd hf
      refine mz_callV E w (k := 1) (As := [.int (x1 + x4)]) (rest := []) (c_SI_at hSK l n (x1 + x4) q5.2 q9 hq10) (by decide) rfl rfl k_450 k_2 k_447 k_448 k_449 hm_SI_at ⟨⟨rfl, rfl⟩, Nat.le_of_ble_eq_true rfl, Nat.le_of_ble_eq_true rfl⟩ rfl hl.1 rfl (Nat.le_of_ble_eq_true rfl) d_SI_spells_29 ⟨Nat.zero_le _, Nat.zero_le _⟩ (st1 := [.int q9.1]) rfl (fun H locs w => ?_)
      refine lv_aload_n hx hb d_SI_spells_32 rfl (lv_at hl 2 rfl) ?_
      refine lv_iload hx hb d_SI_spells_33 (lv_at hl 3 rfl) ?_
      obtain ⟨hg13, hf⟩ := mz_gd hf
      obtain ⟨q11, hq12, hf⟩ := mz_bd hf
      refine mz_callG E w (As := [.int x4]) (rest := [.int q9.1]) (c_JS_charAt hSK l n x3 x4 q9.2 q11 hq12) (mz_rcK E w hg13) k_592 k_21 k_589 k_590 k_591 hm_JS_charAt ⟨⟨rfl, rfl⟩, Nat.le_of_ble_eq_true rfl, Nat.le_of_ble_eq_true rfl⟩ rfl hl.1 rfl (Nat.le_of_ble_eq_true rfl) d_SI_spells_35 ⟨Nat.zero_le _, Nat.zero_le _⟩ (st1 := [.int q11.1, .int q9.1]) rfl (fun H locs w => ?_)
      refine lv_icmp_eq (tgt := 43) hx hb d_SI_spells_38 (by decide) (fun hc14 => ?_) (fun hc14 => ?_)
      · have hf := mz_t hc14 hf
        refine lv_iinc (v := (x4 + (1 : Int32))) (lv' := [(4, .int (x4 + (1 : Int32))), (0, .ref (ad 1)), (1, .int x1), (3, .ref (adK x3))]) hx hb d_SI_spells_43 hl (k := 3) rfl rfl (by decide) rfl (fun ls hl => ?_)
        refine lv_goto (tgt := 15) hx hb d_SI_spells_46 (by decide) ?_
        exact ih x1 x3 (x4 + (1 : Int32)) q11.2 hf _ _ _ w (lv_sub hl [1, 2, 3, 0] rfl)
      · have hf := mz_f hc14 hf
        refine lv_iconst (v := (0 : Int32)) hx hb d_SI_spells_41 (by decide) ?_
        obtain rfl := Option.some.inj hf
        exact mz_zret E w (by decide) rfl d_SI_spells_42
set_option maxRecDepth 100000 in
set_option maxHeartbeats 4000000 in
theorem c_SI_spells {dC : Nat → ClassId} {dI : Nat → Nat → Nat} {ad en adK adV : Nat → Nat} {tA tS : Nat} {oF : Option Nat} {ca : Nat → ClassId} (hSK : mz_SK (mz_SC ad en adK adV tA tS oF) ad 80) (l : Launch) (n : Nat) (x1 : Int32) (x2 : Int32) (x3 : Nat) (t : mz_St) (res : (Int32 × mz_St)) (hf : f_SI_spells n x1 x2 x3 t = some res) : mz_C (mz_SC ad en adK adV tA tS oF) mz_tC 80 mz_cl dC dI ad en ca l y_SI_spells prog_12_method_13_code 5 (some (.boolean)) (r_SI_spells) [.ref (ad 1), .int x1, .int x2, .ref (adK x3)] t (some (.int res.1)) res.2 := by
  unfold f_SI_spells at hf
  refine mz_met hSK (by decide) (Nat.le_of_ble_eq_true rfl) ?_
  intro p e s m args below meth c ls E w hl
  obtain ⟨hx, hb, hml, hown, hcx, -, -, hSX, -, -, -⟩ := id E
  have hl : lv_has ls 5 [(0, .ref (ad 1)), (1, .int x1), (2, .int x2), (3, .ref (adK x3))] := hl
  refine lv_iload_n hx hb d_SI_spells_0 rfl (lv_at hl 2 rfl) ?_
  refine lv_iload_n hx hb d_SI_spells_1 rfl (lv_at hl 1 rfl) ?_
  refine lv_isub hx hb d_SI_spells_2 ?_
  refine lv_aload_n hx hb d_SI_spells_3 rfl (lv_at hl 3 rfl) ?_
  obtain ⟨hg3, hf⟩ := mz_gd hf
  obtain ⟨q1, hq2, hf⟩ := mz_bd hf
  refine mz_callG E w (As := []) (rest := [.int (x2 - x1)]) (c_JS_length hSK l n x3 t q1 hq2) (mz_rcK E w hg3) k_582 k_21 k_579 k_580 k_581 hm_JS_length ⟨⟨rfl, rfl⟩, Nat.le_of_ble_eq_true rfl, Nat.le_of_ble_eq_true rfl⟩ rfl hl.1 rfl (Nat.le_of_ble_eq_true rfl) d_SI_spells_4 ⟨Nat.zero_le _, Nat.zero_le _⟩ (st1 := [.int q1.1, .int (x2 - x1)]) rfl (fun H locs w => ?_)
  refine lv_icmp_eq (tgt := 12) hx hb d_SI_spells_7 (by decide) (fun hc4 => ?_) (fun hc4 => ?_)
  · have hf := mz_t hc4 hf
    refine lv_iconst (v := (0 : Int32)) hx hb d_SI_spells_12 (by decide) ?_
    refine lv_istore (lv' := [(4, .int (0 : Int32)), (0, .ref (ad 1)), (1, .int x1), (2, .int x2), (3, .ref (adK x3))]) hx hb d_SI_spells_13 hl (by decide) rfl (fun ls hl => ?_)
    exact b_SI_spells_15 E n n x1 x3 (0 : Int32) q1.2 hf _ _ _ w (lv_sub hl [1, 2, 4, 0] rfl)
  · have hf := mz_f hc4 hf
    refine lv_iconst (v := (0 : Int32)) hx hb d_SI_spells_10 (by decide) ?_
    obtain rfl := Option.some.inj hf
    exact mz_zret E w (by decide) rfl d_SI_spells_11

/-! MacroHouse$Signs.write(II)V -/
abbrev r_SI_write : Room := { frames := 0, cells := 0, slots := 0, locals := 0 }
def f_SI_write (n : Nat) (x1 : Int32) (x2 : Int32) (t : mz_St) : Option mz_St := if x1 < 0 then (some t) else (if (6600 : Int32) ≤ x1 then (some t) else (if ¬ (x1 < 0 ∨ 6600 ≤ x1.toNatClampNeg) then (mz_let (mz_pI t 2 x1.toNatClampNeg (vp_nar .byte x2.toInt8.toInt32)) fun t4 => some t4) else none))
set_option maxRecDepth 100000 in
set_option maxHeartbeats 4000000 in
theorem c_SI_write {SX : State → Heap → Prop} {dC : Nat → ClassId} {dI : Nat → Nat → Nat} {ad en : Nat → Nat} {ca : Nat → ClassId} (hSK : mz_SK SX ad 80) (l : Launch) (n : Nat) (x1 : Int32) (x2 : Int32) (t : mz_St) (res : mz_St) (hf : f_SI_write n x1 x2 t = some res) : mz_C SX mz_tC 80 mz_cl dC dI ad en ca l y_SI_write prog_12_method_6_code 3 none (r_SI_write) [.ref (ad 1), .int x1, .int x2] t none res := by
  unfold f_SI_write at hf
  refine mz_met hSK (by decide) (Nat.le_of_ble_eq_true rfl) ?_
  intro p e s m args below meth c ls E w hl
  obtain ⟨hx, hb, hml, hown, hcx, -, -, hSX, -, -, -⟩ := id E
  have hl : lv_has ls 3 [(0, .ref (ad 1)), (1, .int x1), (2, .int x2)] := hl
  refine lv_iload_n hx hb d_SI_write_0 rfl (lv_at hl 1 rfl) ?_
  refine lv_if_lt (tgt := 21) hx hb d_SI_write_1 (by decide) (fun hc1 => ?_) (fun hc1 => ?_)
  · have hf := mz_t hc1 hf
    obtain rfl := Option.some.inj hf
    exact mz_vret E w rfl d_SI_write_21
  · have hf := mz_f hc1 hf
    refine lv_iload_n hx hb d_SI_write_4 rfl (lv_at hl 1 rfl) ?_
    refine lv_aload_n hx hb d_SI_write_5 rfl (lv_at hl 0 rfl) ?_
    refine mz_get E w 1 0 (v := .ref (ad 2)) (by decide) rfl rfl ii_1 (by decide) (Nat.le_of_ble_eq_true rfl) k_41 rfl d_SI_write_6 ?_
    refine mz_alen E w 2 (v := (6600 : Int32)) (by decide) rfl (by decide) rfl d_SI_write_9 ?_
    refine lv_icmp_ge (tgt := 21) hx hb d_SI_write_10 (by decide) (fun hc2 => ?_) (fun hc2 => ?_)
    · have hf := mz_t hc2 hf
      obtain rfl := Option.some.inj hf
      exact mz_vret E w rfl d_SI_write_21
    · have hf := mz_f hc2 hf
      refine lv_aload_n hx hb d_SI_write_13 rfl (lv_at hl 0 rfl) ?_
      refine mz_get E w 1 0 (v := .ref (ad 2)) (by decide) rfl rfl ii_1 (by decide) (Nat.le_of_ble_eq_true rfl) k_41 rfl d_SI_write_14 ?_
      refine lv_iload_n hx hb d_SI_write_17 rfl (lv_at hl 1 rfl) ?_
      refine lv_iload_n hx hb d_SI_write_18 rfl (lv_at hl 2 rfl) ?_
      refine lv_i2b (v := x2.toInt8.toInt32) hx hb d_SI_write_19 rfl ?_
      obtain ⟨hi3, hf⟩ := mz_gd hf
      refine mz_bast E w 2 (x := x2.toInt8.toInt32) (by decide) rfl hi3 d_SI_write_20 (fun H locs w => ?_)
      obtain ⟨t4, e_t4, hf⟩ := mz_lt hf
      rw [← e_t4] at w
      obtain rfl := Option.some.inj hf
      exact mz_vret E w rfl d_SI_write_21

/-! MacroHouse$Signs.same(IIII)Z -/
abbrev r_SI_same : Room := { frames := 0, cells := 0, slots := 0, locals := 0 }
def f_SI_same_42 (n : Nat) : Nat → Int32 → Int32 → Int32 → Int32 → mz_St → Option (Int32 × mz_St)
  | 0, _, _, _, _, _ => none
  | k + 1, x1, x2, x3, x5, t => if (x2 - x1) ≤ x5 then (some ((1 : Int32), t)) else (if ¬ ((x1 + x5) < 0 ∨ 6600 ≤ (x1 + x5).toNatClampNeg) then (if ¬ ((x3 + x5) < 0 ∨ 6600 ≤ (x3 + x5).toNatClampNeg) then (if (mz_gI t 2 (x1 + x5).toNatClampNeg) = (mz_gI t 2 (x3 + x5).toNatClampNeg) then ((f_SI_same_42 n k) x1 x2 x3 (x5 + (1 : Int32)) t) else (some ((0 : Int32), t))) else none) else none)
def f_SI_same (n : Nat) (x1 : Int32) (x2 : Int32) (x3 : Int32) (x4 : Int32) (t : mz_St) : Option (Int32 × mz_St) := if (x2 - x1) = (x4 - x3) then (if x1 < 0 then (some ((0 : Int32), t)) else (if x3 < 0 then (some ((0 : Int32), t)) else (if (6600 : Int32) < x2 then (some ((0 : Int32), t)) else (if x4 ≤ (6600 : Int32) then (f_SI_same_42 n n x1 x2 x3 (0 : Int32) t) else (some ((0 : Int32), t)))))) else (some ((0 : Int32), t))
set_option maxRecDepth 100000 in
set_option maxHeartbeats 4000000 in
theorem b_SI_same_42 {SX : State → Heap → Prop} {dC : Nat → ClassId} {dI : Nat → Nat → Nat} {ad en : Nat → Nat} {ca : Nat → ClassId} {p : Program} {l : Launch} {e : Env} {s : State} {m : MethodId} {args : Array Value} {below : List Frame} {meth : Method} {c : Code} {res : (Int32 × mz_St)} (E : mz_En SX 80 mz_cl dC dI ad ca p s m meth c prog_12_method_12_code 6 "MacroHouse$Signs" (some (.boolean))) (n : Nat) (k : Nat) : ∀ (x1 : Int32) (x2 : Int32) (x3 : Int32) (x5 : Int32) (t : mz_St), f_SI_same_42 n k x1 x2 x3 x5 t = some res → ∀ (H : Heap) (locs : List Loc) (ls : Array Slot), mz_Wd mz_tC 80 mz_cl dC dI ad en ca s t H locs → lv_has ls 6 [(0, .ref (ad 1)), (1, .int x1), (2, .int x2), (3, .int x3), (5, .int x5)] → W p l e (r_SI_same) s m args below meth c H locs 0 0 (MQ below (mz_Q SX mz_tC 80 mz_cl dC dI ad en ca (some (.int res.1)) res.2) args s 0 0 (mz_A ad 80)) (F0 m 42 ls []) := by
  obtain ⟨hx, hb, hml, hown, hcx, -, -, hSX, -, -, hSK⟩ := id E
  induction k with
  | zero => intro x1 x2 x3 x5 t hf; exact absurd hf (by unfold f_SI_same_42; exact fun h => nomatch h)
  | succ k ih =>
    intro x1 x2 x3 x5 t hf H locs ls w hl
    unfold f_SI_same_42 at hf
    refine lv_iload hx hb d_SI_same_42 (lv_at hl 4 rfl) ?_
    refine lv_iload_n hx hb d_SI_same_44 rfl (lv_at hl 2 rfl) ?_
    refine lv_iload_n hx hb d_SI_same_45 rfl (lv_at hl 1 rfl) ?_
    refine lv_isub hx hb d_SI_same_46 ?_
    refine lv_icmp_ge (tgt := 79) hx hb d_SI_same_47 (by decide) (fun hc6 => ?_) (fun hc6 => ?_)
    · have hf := mz_t hc6 hf
      refine lv_iconst (v := (1 : Int32)) hx hb d_SI_same_79 (by decide) ?_
      obtain rfl := Option.some.inj hf
      exact mz_zret E w (by decide) rfl d_SI_same_80
    · have hf := mz_f hc6 hf
      refine lv_aload_n hx hb d_SI_same_50 rfl (lv_at hl 0 rfl) ?_
      refine mz_get E w 1 0 (v := .ref (ad 2)) (by decide) rfl rfl ii_1 (by decide) (Nat.le_of_ble_eq_true rfl) k_41 rfl d_SI_same_51 ?_
      refine lv_iload_n hx hb d_SI_same_54 rfl (lv_at hl 1 rfl) ?_
      refine lv_iload hx hb d_SI_same_55 (lv_at hl 4 rfl) ?_
      refine lv_iadd hx hb d_SI_same_57 ?_
      obtain ⟨hi7, hf⟩ := mz_gd hf
      refine mz_bald E w 2 (by decide) rfl hi7 d_SI_same_58 ?_
      refine lv_aload_n hx hb d_SI_same_59 rfl (lv_at hl 0 rfl) ?_
      refine mz_get E w 1 0 (v := .ref (ad 2)) (by decide) rfl rfl ii_1 (by decide) (Nat.le_of_ble_eq_true rfl) k_41 rfl d_SI_same_60 ?_
      refine lv_iload_n hx hb d_SI_same_63 rfl (lv_at hl 3 rfl) ?_
      refine lv_iload hx hb d_SI_same_64 (lv_at hl 4 rfl) ?_
      refine lv_iadd hx hb d_SI_same_66 ?_
      obtain ⟨hi8, hf⟩ := mz_gd hf
      refine mz_bald E w 2 (by decide) rfl hi8 d_SI_same_67 ?_
      refine lv_icmp_eq (tgt := 73) hx hb d_SI_same_68 (by decide) (fun hc9 => ?_) (fun hc9 => ?_)
      · have hf := mz_t hc9 hf
        refine lv_iinc (v := (x5 + (1 : Int32))) (lv' := [(5, .int (x5 + (1 : Int32))), (0, .ref (ad 1)), (1, .int x1), (2, .int x2), (3, .int x3)]) hx hb d_SI_same_73 hl (k := 4) rfl rfl (by decide) rfl (fun ls hl => ?_)
        refine lv_goto (tgt := 42) hx hb d_SI_same_76 (by decide) ?_
        exact ih x1 x2 x3 (x5 + (1 : Int32)) t hf _ _ _ w (lv_sub hl [1, 2, 3, 4, 0] rfl)
      · have hf := mz_f hc9 hf
        refine lv_iconst (v := (0 : Int32)) hx hb d_SI_same_71 (by decide) ?_
        obtain rfl := Option.some.inj hf
        exact mz_zret E w (by decide) rfl d_SI_same_72
set_option maxRecDepth 100000 in
set_option maxHeartbeats 4000000 in
theorem c_SI_same {SX : State → Heap → Prop} {dC : Nat → ClassId} {dI : Nat → Nat → Nat} {ad en : Nat → Nat} {ca : Nat → ClassId} (hSK : mz_SK SX ad 80) (l : Launch) (n : Nat) (x1 : Int32) (x2 : Int32) (x3 : Int32) (x4 : Int32) (t : mz_St) (res : (Int32 × mz_St)) (hf : f_SI_same n x1 x2 x3 x4 t = some res) : mz_C SX mz_tC 80 mz_cl dC dI ad en ca l y_SI_same prog_12_method_12_code 6 (some (.boolean)) (r_SI_same) [.ref (ad 1), .int x1, .int x2, .int x3, .int x4] t (some (.int res.1)) res.2 := by
  unfold f_SI_same at hf
  refine mz_met hSK (by decide) (Nat.le_of_ble_eq_true rfl) ?_
  intro p e s m args below meth c ls E w hl
  obtain ⟨hx, hb, hml, hown, hcx, -, -, hSX, -, -, -⟩ := id E
  have hl : lv_has ls 6 [(0, .ref (ad 1)), (1, .int x1), (2, .int x2), (3, .int x3), (4, .int x4)] := hl
  refine lv_iload_n hx hb d_SI_same_0 rfl (lv_at hl 2 rfl) ?_
  refine lv_iload_n hx hb d_SI_same_1 rfl (lv_at hl 1 rfl) ?_
  refine lv_isub hx hb d_SI_same_2 ?_
  refine lv_iload hx hb d_SI_same_3 (lv_at hl 4 rfl) ?_
  refine lv_iload_n hx hb d_SI_same_5 rfl (lv_at hl 3 rfl) ?_
  refine lv_isub hx hb d_SI_same_6 ?_
  refine lv_icmp_ne (tgt := 37) hx hb d_SI_same_7 (by decide) (fun hc1 => ?_) (fun hc1 => ?_)
  · have hf := mz_f hc1 hf
    refine lv_iconst (v := (0 : Int32)) hx hb d_SI_same_37 (by decide) ?_
    obtain rfl := Option.some.inj hf
    exact mz_zret E w (by decide) rfl d_SI_same_38
  · have hf := mz_t hc1 hf
    refine lv_iload_n hx hb d_SI_same_10 rfl (lv_at hl 1 rfl) ?_
    refine lv_if_lt (tgt := 37) hx hb d_SI_same_11 (by decide) (fun hc2 => ?_) (fun hc2 => ?_)
    · have hf := mz_t hc2 hf
      refine lv_iconst (v := (0 : Int32)) hx hb d_SI_same_37 (by decide) ?_
      obtain rfl := Option.some.inj hf
      exact mz_zret E w (by decide) rfl d_SI_same_38
    · have hf := mz_f hc2 hf
      refine lv_iload_n hx hb d_SI_same_14 rfl (lv_at hl 3 rfl) ?_
      refine lv_if_lt (tgt := 37) hx hb d_SI_same_15 (by decide) (fun hc3 => ?_) (fun hc3 => ?_)
      · have hf := mz_t hc3 hf
        refine lv_iconst (v := (0 : Int32)) hx hb d_SI_same_37 (by decide) ?_
        obtain rfl := Option.some.inj hf
        exact mz_zret E w (by decide) rfl d_SI_same_38
      · have hf := mz_f hc3 hf
        refine lv_iload_n hx hb d_SI_same_18 rfl (lv_at hl 2 rfl) ?_
        refine lv_aload_n hx hb d_SI_same_19 rfl (lv_at hl 0 rfl) ?_
        refine mz_get E w 1 0 (v := .ref (ad 2)) (by decide) rfl rfl ii_1 (by decide) (Nat.le_of_ble_eq_true rfl) k_41 rfl d_SI_same_20 ?_
        refine mz_alen E w 2 (v := (6600 : Int32)) (by decide) rfl (by decide) rfl d_SI_same_23 ?_
        refine lv_icmp_gt (tgt := 37) hx hb d_SI_same_24 (by decide) (fun hc4 => ?_) (fun hc4 => ?_)
        · have hf := mz_t hc4 hf
          refine lv_iconst (v := (0 : Int32)) hx hb d_SI_same_37 (by decide) ?_
          obtain rfl := Option.some.inj hf
          exact mz_zret E w (by decide) rfl d_SI_same_38
        · have hf := mz_f hc4 hf
          refine lv_iload hx hb d_SI_same_27 (lv_at hl 4 rfl) ?_
          refine lv_aload_n hx hb d_SI_same_29 rfl (lv_at hl 0 rfl) ?_
          refine mz_get E w 1 0 (v := .ref (ad 2)) (by decide) rfl rfl ii_1 (by decide) (Nat.le_of_ble_eq_true rfl) k_41 rfl d_SI_same_30 ?_
          refine mz_alen E w 2 (v := (6600 : Int32)) (by decide) rfl (by decide) rfl d_SI_same_33 ?_
          refine lv_icmp_le (tgt := 39) hx hb d_SI_same_34 (by decide) (fun hc5 => ?_) (fun hc5 => ?_)
          · have hf := mz_t hc5 hf
            refine lv_iconst (v := (0 : Int32)) hx hb d_SI_same_39 (by decide) ?_
            refine lv_istore (lv' := [(5, .int (0 : Int32)), (0, .ref (ad 1)), (1, .int x1), (2, .int x2), (3, .int x3), (4, .int x4)]) hx hb d_SI_same_40 hl (by decide) rfl (fun ls hl => ?_)
            exact b_SI_same_42 E n n x1 x2 x3 (0 : Int32) t hf _ _ _ w (lv_sub hl [1, 2, 3, 4, 0] rfl)
          · have hf := mz_f hc5 hf
            refine lv_iconst (v := (0 : Int32)) hx hb d_SI_same_37 (by decide) ?_
            obtain rfl := Option.some.inj hf
            exact mz_zret E w (by decide) rfl d_SI_same_38

/-! MacroHouse$Signs.mayStand(I)Z -/
abbrev r_SI_mayStand : Room := { frames := 0, cells := 0, slots := 0, locals := 0 }
def f_SI_mayStand_18 (n : Nat) (t : mz_St) : Option (Int32 × mz_St) := some ((1 : Int32), t)
def f_SI_mayStand (n : Nat) (x0 : Int32) (t : mz_St) : Option (Int32 × mz_St) := if x0 = (10 : Int32) then (f_SI_mayStand_18 n  t) else (if x0 < (32 : Int32) then (some ((0 : Int32), t)) else (if (126 : Int32) < x0 then (some ((0 : Int32), t)) else (f_SI_mayStand_18 n  t)))
set_option maxRecDepth 100000 in
set_option maxHeartbeats 4000000 in
theorem b_SI_mayStand_18 {SX : State → Heap → Prop} {dC : Nat → ClassId} {dI : Nat → Nat → Nat} {ad en : Nat → Nat} {ca : Nat → ClassId} {p : Program} {l : Launch} {e : Env} {s : State} {m : MethodId} {args : Array Value} {below : List Frame} {meth : Method} {c : Code} {res : (Int32 × mz_St)} (E : mz_En SX 80 mz_cl dC dI ad ca p s m meth c prog_12_method_2_code 1 "MacroHouse$Signs" (some (.boolean))) (n : Nat) : ∀ (t : mz_St), f_SI_mayStand_18 n t = some res → ∀ (H : Heap) (locs : List Loc) (ls : Array Slot), mz_Wd mz_tC 80 mz_cl dC dI ad en ca s t H locs → lv_has ls 1 [] → W p l e (r_SI_mayStand) s m args below meth c H locs 0 0 (MQ below (mz_Q SX mz_tC 80 mz_cl dC dI ad en ca (some (.int res.1)) res.2) args s 0 0 (mz_A ad 80)) (F0 m 18 ls []) := by
  obtain ⟨hx, hb, hml, hown, hcx, -, -, hSX, -, -, hSK⟩ := id E
  intro t hf H locs ls w hl
  unfold f_SI_mayStand_18 at hf
  refine lv_iconst (v := (1 : Int32)) hx hb d_SI_mayStand_18 (by decide) ?_
  refine lv_goto (tgt := 23) hx hb d_SI_mayStand_19 (by decide) ?_
  obtain rfl := Option.some.inj hf
  exact mz_zret E w (by decide) rfl d_SI_mayStand_23
set_option maxRecDepth 100000 in
set_option maxHeartbeats 4000000 in
theorem c_SI_mayStand {SX : State → Heap → Prop} {dC : Nat → ClassId} {dI : Nat → Nat → Nat} {ad en : Nat → Nat} {ca : Nat → ClassId} (hSK : mz_SK SX ad 80) (l : Launch) (n : Nat) (x0 : Int32) (t : mz_St) (res : (Int32 × mz_St)) (hf : f_SI_mayStand n x0 t = some res) : mz_C SX mz_tC 80 mz_cl dC dI ad en ca l y_SI_mayStand prog_12_method_2_code 1 (some (.boolean)) (r_SI_mayStand) [.int x0] t (some (.int res.1)) res.2 := by
  unfold f_SI_mayStand at hf
  refine mz_met hSK (by decide) (Nat.le_of_ble_eq_true rfl) ?_
  intro p e s m args below meth c ls E w hl
  obtain ⟨hx, hb, hml, hown, hcx, -, -, hSX, -, -, -⟩ := id E
  have hl : lv_has ls 1 [(0, .int x0)] := hl
  refine lv_iload_n hx hb d_SI_mayStand_0 rfl (lv_at hl 0 rfl) ?_
  refine lv_bipush (v := (10 : Int32)) hx hb d_SI_mayStand_1 (by decide) ?_
  refine lv_icmp_eq (tgt := 18) hx hb d_SI_mayStand_3 (by decide) (fun hc1 => ?_) (fun hc1 => ?_)
  · have hf := mz_t hc1 hf
    exact b_SI_mayStand_18 E n  t hf _ _ _ w (lv_sub hl [] rfl)
  · have hf := mz_f hc1 hf
    refine lv_iload_n hx hb d_SI_mayStand_6 rfl (lv_at hl 0 rfl) ?_
    refine lv_bipush (v := (32 : Int32)) hx hb d_SI_mayStand_7 (by decide) ?_
    refine lv_icmp_lt (tgt := 22) hx hb d_SI_mayStand_9 (by decide) (fun hc2 => ?_) (fun hc2 => ?_)
    · have hf := mz_t hc2 hf
      refine lv_iconst (v := (0 : Int32)) hx hb d_SI_mayStand_22 (by decide) ?_
      obtain rfl := Option.some.inj hf
      exact mz_zret E w (by decide) rfl d_SI_mayStand_23
    · have hf := mz_f hc2 hf
      refine lv_iload_n hx hb d_SI_mayStand_12 rfl (lv_at hl 0 rfl) ?_
      refine lv_bipush (v := (126 : Int32)) hx hb d_SI_mayStand_13 (by decide) ?_
      refine lv_icmp_gt (tgt := 22) hx hb d_SI_mayStand_15 (by decide) (fun hc3 => ?_) (fun hc3 => ?_)
      · have hf := mz_t hc3 hf
        refine lv_iconst (v := (0 : Int32)) hx hb d_SI_mayStand_22 (by decide) ?_
        obtain rfl := Option.some.inj hf
        exact mz_zret E w (by decide) rfl d_SI_mayStand_23
      · have hf := mz_f hc3 hf
        exact b_SI_mayStand_18 E n  t hf _ _ _ w (lv_sub hl [] rfl)
