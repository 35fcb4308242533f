/-! MacroHouse$Names.lengthOf(I)I -/
abbrev r_NA_lengthOf_c : Room := { frames := 0, cells := 0, slots := 0, locals := 0 }
def f_NA_lengthOf_c (n : Nat) (x1 : Int32) (t : mz_St) : Option (Int32 × mz_St) := if x1 < 0 then (some ((0 : Int32), t)) else (if (mz_gI t 15 4) ≤ x1 then (some ((0 : Int32), t)) else (if (64 : Int32) ≤ x1 then (some ((0 : Int32), t)) else (if ¬ (x1 < 0 ∨ 64 ≤ x1.toNatClampNeg) then (some ((mz_gI t 17 x1.toNatClampNeg), t)) else none)))
set_option maxRecDepth 100000 in
set_option maxHeartbeats 4000000 in
theorem c_NA_lengthOf_c {SX : State → Heap → Prop} {dC : Nat → ClassId} {dI : Nat → Nat → Nat} {ad en : Nat → Nat} {ca : Nat → ClassId} (hSK : mz_SK SX ad 80) (l : Launch) (n : Nat) (x1 : Int32) (t : mz_St) (res : (Int32 × mz_St)) (hf : f_NA_lengthOf_c n x1 t = some res) : mz_C SX mz_tC 80 mz_cl dC dI ad en ca l y_NA_lengthOf prog_9_method_7_code 2 (some (.int)) (r_NA_lengthOf_c) [.ref (ad 15), .int x1] t (some (.int res.1)) res.2 := by
  unfold f_NA_lengthOf_c at hf
  refine mz_met hSK (by decide) (Nat.le_of_ble_eq_true rfl) ?_
  intro p e s m args below meth c ls E w hl
  obtain ⟨hx, hb, hml, hown, hcx, -, -, hSX, -, -, -⟩ := id E
  have hl : lv_has ls 2 [(0, .ref (ad 15)), (1, .int x1)] := hl
  refine lv_iload_n hx hb d_NA_lengthOf_0 rfl (lv_at hl 1 rfl) ?_
  refine lv_if_lt (tgt := 30) hx hb d_NA_lengthOf_1 (by decide) (fun hc1 => ?_) (fun hc1 => ?_)
  · have hf := mz_t hc1 hf
    refine lv_iconst (v := (0 : Int32)) hx hb d_NA_lengthOf_30 (by decide) ?_
    obtain rfl := Option.some.inj hf
    exact mz_iret E w rfl d_NA_lengthOf_31
  · have hf := mz_f hc1 hf
    refine lv_iload_n hx hb d_NA_lengthOf_4 rfl (lv_at hl 1 rfl) ?_
    refine lv_aload_n hx hb d_NA_lengthOf_5 rfl (lv_at hl 0 rfl) ?_
    refine mz_get E w 15 4 (v := .int (mz_gI t 15 4)) (by decide) rfl rfl ii_6 (by decide) (Nat.le_of_ble_eq_true rfl) k_145 rfl d_NA_lengthOf_6 ?_
    refine lv_icmp_ge (tgt := 30) hx hb d_NA_lengthOf_9 (by decide) (fun hc2 => ?_) (fun hc2 => ?_)
    · have hf := mz_t hc2 hf
      refine lv_iconst (v := (0 : Int32)) hx hb d_NA_lengthOf_30 (by decide) ?_
      obtain rfl := Option.some.inj hf
      exact mz_iret E w rfl d_NA_lengthOf_31
    · have hf := mz_f hc2 hf
      refine lv_iload_n hx hb d_NA_lengthOf_12 rfl (lv_at hl 1 rfl) ?_
      refine lv_aload_n hx hb d_NA_lengthOf_13 rfl (lv_at hl 0 rfl) ?_
      refine mz_get E w 15 3 (v := .ref (ad 17)) (by decide) rfl rfl ii_6 (by decide) (Nat.le_of_ble_eq_true rfl) k_144 rfl d_NA_lengthOf_14 ?_
      refine mz_alen E w 17 (v := (64 : Int32)) (by decide) rfl (by decide) rfl d_NA_lengthOf_17 ?_
      refine lv_icmp_ge (tgt := 30) hx hb d_NA_lengthOf_18 (by decide) (fun hc3 => ?_) (fun hc3 => ?_)
      · have hf := mz_t hc3 hf
        refine lv_iconst (v := (0 : Int32)) hx hb d_NA_lengthOf_30 (by decide) ?_
        obtain rfl := Option.some.inj hf
        exact mz_iret E w rfl d_NA_lengthOf_31
      · have hf := mz_f hc3 hf
        refine lv_aload_n hx hb d_NA_lengthOf_21 rfl (lv_at hl 0 rfl) ?_
        refine mz_get E w 15 3 (v := .ref (ad 17)) (by decide) rfl rfl ii_6 (by decide) (Nat.le_of_ble_eq_true rfl) k_144 rfl d_NA_lengthOf_22 ?_
        refine lv_iload_n hx hb d_NA_lengthOf_25 rfl (lv_at hl 1 rfl) ?_
        obtain ⟨hi4, hf⟩ := mz_gd hf
        refine mz_iald E w 17 (by decide) rfl hi4 d_NA_lengthOf_26 ?_
        refine lv_goto (tgt := 31) hx hb d_NA_lengthOf_27 (by decide) ?_
        obtain rfl := Option.some.inj hf
        exact mz_iret E w rfl d_NA_lengthOf_31

/-! MacroHouse$Names.lengthOf(I)I -/
abbrev r_NA_lengthOf_m : Room := { frames := 0, cells := 0, slots := 0, locals := 0 }
def f_NA_lengthOf_m (n : Nat) (x1 : Int32) (t : mz_St) : Option (Int32 × mz_St) := if x1 < 0 then (some ((0 : Int32), t)) else (if (mz_gI t 27 4) ≤ x1 then (some ((0 : Int32), t)) else (if (16 : Int32) ≤ x1 then (some ((0 : Int32), t)) else (if ¬ (x1 < 0 ∨ 16 ≤ x1.toNatClampNeg) then (some ((mz_gI t 29 x1.toNatClampNeg), t)) else none)))
set_option maxRecDepth 100000 in
set_option maxHeartbeats 4000000 in
theorem c_NA_lengthOf_m {SX : State → Heap → Prop} {dC : Nat → ClassId} {dI : Nat → Nat → Nat} {ad en : Nat → Nat} {ca : Nat → ClassId} (hSK : mz_SK SX ad 80) (l : Launch) (n : Nat) (x1 : Int32) (t : mz_St) (res : (Int32 × mz_St)) (hf : f_NA_lengthOf_m n x1 t = some res) : mz_C SX mz_tC 80 mz_cl dC dI ad en ca l y_NA_lengthOf prog_9_method_7_code 2 (some (.int)) (r_NA_lengthOf_m) [.ref (ad 27), .int x1] t (some (.int res.1)) res.2 := by
  unfold f_NA_lengthOf_m at hf
  refine mz_met hSK (by decide) (Nat.le_of_ble_eq_true rfl) ?_
  intro p e s m args below meth c ls E w hl
  obtain ⟨hx, hb, hml, hown, hcx, -, -, hSX, -, -, -⟩ := id E
  have hl : lv_has ls 2 [(0, .ref (ad 27)), (1, .int x1)] := hl
  refine lv_iload_n hx hb d_NA_lengthOf_0 rfl (lv_at hl 1 rfl) ?_
  refine lv_if_lt (tgt := 30) hx hb d_NA_lengthOf_1 (by decide) (fun hc1 => ?_) (fun hc1 => ?_)
  · have hf := mz_t hc1 hf
    refine lv_iconst (v := (0 : Int32)) hx hb d_NA_lengthOf_30 (by decide) ?_
    obtain rfl := Option.some.inj hf
    exact mz_iret E w rfl d_NA_lengthOf_31
  · have hf := mz_f hc1 hf
    refine lv_iload_n hx hb d_NA_lengthOf_4 rfl (lv_at hl 1 rfl) ?_
    refine lv_aload_n hx hb d_NA_lengthOf_5 rfl (lv_at hl 0 rfl) ?_
    refine mz_get E w 27 4 (v := .int (mz_gI t 27 4)) (by decide) rfl rfl ii_6 (by decide) (Nat.le_of_ble_eq_true rfl) k_145 rfl d_NA_lengthOf_6 ?_
    refine lv_icmp_ge (tgt := 30) hx hb d_NA_lengthOf_9 (by decide) (fun hc2 => ?_) (fun hc2 => ?_)
    · have hf := mz_t hc2 hf
      refine lv_iconst (v := (0 : Int32)) hx hb d_NA_lengthOf_30 (by decide) ?_
      obtain rfl := Option.some.inj hf
      exact mz_iret E w rfl d_NA_lengthOf_31
    · have hf := mz_f hc2 hf
      refine lv_iload_n hx hb d_NA_lengthOf_12 rfl (lv_at hl 1 rfl) ?_
      refine lv_aload_n hx hb d_NA_lengthOf_13 rfl (lv_at hl 0 rfl) ?_
      refine mz_get E w 27 3 (v := .ref (ad 29)) (by decide) rfl rfl ii_6 (by decide) (Nat.le_of_ble_eq_true rfl) k_144 rfl d_NA_lengthOf_14 ?_
      refine mz_alen E w 29 (v := (16 : Int32)) (by decide) rfl (by decide) rfl d_NA_lengthOf_17 ?_
      refine lv_icmp_ge (tgt := 30) hx hb d_NA_lengthOf_18 (by decide) (fun hc3 => ?_) (fun hc3 => ?_)
      · have hf := mz_t hc3 hf
        refine lv_iconst (v := (0 : Int32)) hx hb d_NA_lengthOf_30 (by decide) ?_
        obtain rfl := Option.some.inj hf
        exact mz_iret E w rfl d_NA_lengthOf_31
      · have hf := mz_f hc3 hf
        refine lv_aload_n hx hb d_NA_lengthOf_21 rfl (lv_at hl 0 rfl) ?_
        refine mz_get E w 27 3 (v := .ref (ad 29)) (by decide) rfl rfl ii_6 (by decide) (Nat.le_of_ble_eq_true rfl) k_144 rfl d_NA_lengthOf_22 ?_
        refine lv_iload_n hx hb d_NA_lengthOf_25 rfl (lv_at hl 1 rfl) ?_
        obtain ⟨hi4, hf⟩ := mz_gd hf
        refine mz_iald E w 29 (by decide) rfl hi4 d_NA_lengthOf_26 ?_
        refine lv_goto (tgt := 31) hx hb d_NA_lengthOf_27 (by decide) ?_
        obtain rfl := Option.some.inj hf
        exact mz_iret E w rfl d_NA_lengthOf_31

/-! MacroHouse$Names.is(III)Z -/
abbrev r_NA_is_c : Room := { frames := 1, cells := 0, slots := 0, locals := 21 }
def f_NA_is_c_44 (n : Nat) : Nat → Int32 → Int32 → Int32 → Int32 → mz_St → Option (Int32 × mz_St)
  | 0, _, _, _, _, _ => none
  | k + 1, x2, x4, x5, x6, t => if x5 ≤ x6 then (some ((1 : Int32), t)) else (if ¬ ((x4 + x6) < 0 ∨ 768 ≤ (x4 + x6).toNatClampNeg) then ((f_SI_at n (x2 + x6) t).bind fun q8 => if (mz_gI t 16 (x4 + x6).toNatClampNeg) = q8.1 then ((f_NA_is_c_44 n k) x2 x4 x5 (x6 + (1 : Int32)) q8.2) else (some ((0 : Int32), q8.2))) else none)
def f_NA_is_c (n : Nat) (x1 : Int32) (x2 : Int32) (x3 : Int32) (t : mz_St) : Option (Int32 × mz_St) := (f_NA_lengthOf_c n x1 t).bind fun q1 => if q1.1 = (x3 - x2) then (if (x1 * (12 : Int32)) < 0 then (some ((0 : Int32), q1.2)) else (if ((x1 * (12 : Int32)) + (x3 - x2)) ≤ (768 : Int32) then (f_NA_is_c_44 n n x2 (x1 * (12 : Int32)) (x3 - x2) (0 : Int32) q1.2) else (some ((0 : Int32), q1.2)))) else (some ((0 : Int32), q1.2))
set_option maxRecDepth 100000 in
set_option maxHeartbeats 4000000 in
theorem b_NA_is_c_44 {SX : State → Heap → Prop} {dC : Nat → ClassId} {dI : Nat → Nat → Nat} {ad en : Nat → Nat} {ca : Nat → ClassId} {p : Program} {l : Launch} {e : Env} {s : State} {m : MethodId} {args : Array Value} {below : List Frame} {meth : Method} {c : Code} {res : (Int32 × mz_St)} (E : mz_En SX 80 mz_cl dC dI ad ca p s m meth c prog_9_method_4_code 7 "MacroHouse$Names" (some (.boolean))) (n : Nat) (k : Nat) : ∀ (x2 : Int32) (x4 : Int32) (x5 : Int32) (x6 : Int32) (t : mz_St), f_NA_is_c_44 n k x2 x4 x5 x6 t = some res → ∀ (H : Heap) (locs : List Loc) (ls : Array Slot), mz_Wd mz_tC 80 mz_cl dC dI ad en ca s t H locs → lv_has ls 7 [(0, .ref (ad 15)), (2, .int x2), (4, .int x4), (5, .int x5), (6, .int x6)] → W p l e (r_NA_is_c) s m args below meth c H locs 0 0 (MQ below (mz_Q SX mz_tC 80 mz_cl dC dI ad en ca (some (.int res.1)) res.2) args s 0 0 (mz_A ad 80)) (F0 m 44 ls []) := by
  obtain ⟨hx, hb, hml, hown, hcx, -, -, hSX, -, -, hSK⟩ := id E
  induction k with
  | zero => intro x2 x4 x5 x6 t hf; exact absurd hf (by unfold f_NA_is_c_44; exact fun h => nomatch h)
  | succ k ih =>
    intro x2 x4 x5 x6 t hf H locs ls w hl
    unfold f_NA_is_c_44 at hf
    refine lv_iload hx hb d_NA_is_44 (lv_at hl 4 rfl) ?_
    refine lv_iload hx hb d_NA_is_46 (lv_at hl 3 rfl) ?_
    refine lv_icmp_ge (tgt := 83) hx hb d_NA_is_48 (by decide) (fun hc6 => ?_) (fun hc6 => ?_)
    · have hf := mz_t hc6 hf
      refine lv_iconst (v := (1 : Int32)) hx hb d_NA_is_83 (by decide) ?_
      obtain rfl := Option.some.inj hf
      exact mz_zret E w (by decide) rfl d_NA_is_84
    · have hf := mz_f hc6 hf
      refine lv_aload_n hx hb d_NA_is_51 rfl (lv_at hl 0 rfl) ?_
      refine mz_get E w 15 2 (v := .ref (ad 16)) (by decide) rfl rfl ii_6 (by decide) (Nat.le_of_ble_eq_true rfl) k_143 rfl d_NA_is_52 ?_
      refine lv_iload hx hb d_NA_is_55 (lv_at hl 2 rfl) ?_
      refine lv_iload hx hb d_NA_is_57 (lv_at hl 4 rfl) ?_
      refine lv_iadd hx hb d_NA_is_59 ?_
      obtain ⟨hi7, hf⟩ := mz_gd hf
      refine mz_bald E w 16 (by decide) rfl hi7 d_NA_is_60 ?_
      refine lv_aload_n hx hb d_NA_is_61 rfl (lv_at hl 0 rfl) ?_
      refine mz_get E w 15 0 (v := .ref (ad 1)) (by decide) rfl rfl ii_6 (by decide) (Nat.le_of_ble_eq_true rfl) k_141 rfl d_NA_is_62 ?_
      refine lv_iload_n hx hb d_NA_is_65 rfl (lv_at hl 1 rfl) ?_
      refine lv_iload hx hb d_NA_is_66 (lv_at hl 4 rfl) ?_
      refine lv_iadd hx hb d_NA_is_68 ?_
      obtain ⟨q8, hq9, hf⟩ := mz_bd hf
      refine mz_callV E w (k := 1) (As := [.int (x2 + x6)]) (rest := [.int (mz_gI t 16 (x4 + x6).toNatClampNeg)]) (c_SI_at hSK l n (x2 + x6) t q8 hq9) (by decide) rfl rfl k_450 k_2 k_740 k_448 k_449 hm_SI_at ⟨⟨rfl, rfl⟩, Nat.le_of_ble_eq_true rfl, Nat.le_of_ble_eq_true rfl⟩ rfl hl.1 rfl (Nat.le_of_ble_eq_true rfl) d_NA_is_69 ⟨Nat.zero_le _, Nat.zero_le _⟩ (st1 := [.int q8.1, .int (mz_gI t 16 (x4 + x6).toNatClampNeg)]) rfl (fun H locs w => ?_)
      refine lv_icmp_eq (tgt := 77) hx hb d_NA_is_72 (by decide) (fun hc10 => ?_) (fun hc10 => ?_)
      · have hf := mz_t hc10 hf
        refine lv_iinc (v := (x6 + (1 : Int32))) (lv' := [(6, .int (x6 + (1 : Int32))), (0, .ref (ad 15)), (2, .int x2), (4, .int x4), (5, .int x5)]) hx hb d_NA_is_77 hl (k := 4) rfl rfl (by decide) rfl (fun ls hl => ?_)
        refine lv_goto (tgt := 44) hx hb d_NA_is_80 (by decide) ?_
        exact ih x2 x4 x5 (x6 + (1 : Int32)) q8.2 hf _ _ _ w (lv_sub hl [1, 2, 3, 4, 0] rfl)
      · have hf := mz_f hc10 hf
        refine lv_iconst (v := (0 : Int32)) hx hb d_NA_is_75 (by decide) ?_
        obtain rfl := Option.some.inj hf
        exact mz_zret E w (by decide) rfl d_NA_is_76
set_option maxRecDepth 100000 in
set_option maxHeartbeats 4000000 in
theorem c_NA_is_c {SX : State → Heap → Prop} {dC : Nat → ClassId} {dI : Nat → Nat → Nat} {ad en : Nat → Nat} {ca : Nat → ClassId} (hSK : mz_SK SX ad 80) (l : Launch) (n : Nat) (x1 : Int32) (x2 : Int32) (x3 : Int32) (t : mz_St) (res : (Int32 × mz_St)) (hf : f_NA_is_c n x1 x2 x3 t = some res) : mz_C SX mz_tC 80 mz_cl dC dI ad en ca l y_NA_is prog_9_method_4_code 7 (some (.boolean)) (r_NA_is_c) [.ref (ad 15), .int x1, .int x2, .int x3] t (some (.int res.1)) res.2 := by
  unfold f_NA_is_c at hf
  refine mz_met hSK (by decide) (Nat.le_of_ble_eq_true rfl) ?_
  intro p e s m args below meth c ls E w hl
  obtain ⟨hx, hb, hml, hown, hcx, -, -, hSX, -, -, -⟩ := id E
  have hl : lv_has ls 7 [(0, .ref (ad 15)), (1, .int x1), (2, .int x2), (3, .int x3)] := hl
  refine lv_iload_n hx hb d_NA_is_0 rfl (lv_at hl 1 rfl) ?_
  refine lv_bipush (v := (12 : Int32)) hx hb d_NA_is_1 (by decide) ?_
  refine lv_imul hx hb d_NA_is_3 ?_
  refine lv_istore (lv' := [(4, .int (x1 * (12 : Int32))), (0, .ref (ad 15)), (1, .int x1), (2, .int x2), (3, .int x3)]) hx hb d_NA_is_4 hl (by decide) rfl (fun ls hl => ?_)
  refine lv_iload_n hx hb d_NA_is_6 rfl (lv_at hl 4 rfl) ?_
  refine lv_iload_n hx hb d_NA_is_7 rfl (lv_at hl 3 rfl) ?_
  refine lv_isub hx hb d_NA_is_8 ?_
  refine lv_istore (lv' := [(5, .int (x3 - x2)), (4, .int (x1 * (12 : Int32))), (0, .ref (ad 15)), (1, .int x1), (2, .int x2), (3, .int x3)]) hx hb d_NA_is_9 hl (by decide) rfl (fun ls hl => ?_)
  refine lv_aload_n hx hb d_NA_is_11 rfl (lv_at hl 2 rfl) ?_
  refine lv_iload_n hx hb d_NA_is_12 rfl (lv_at hl 3 rfl) ?_
  obtain ⟨q1, hq2, hf⟩ := mz_bd hf
  refine mz_callV E w (k := 15) (As := [.int x1]) (rest := []) (c_NA_lengthOf_c hSK l n x1 t q1 hq2) (by decide) rfl rfl k_739 k_9 k_736 k_738 ks_18 hm_NA_lengthOf ⟨⟨rfl, rfl⟩, Nat.le_of_ble_eq_true rfl, Nat.le_of_ble_eq_true rfl⟩ rfl hl.1 rfl (Nat.le_of_ble_eq_true rfl) d_NA_is_13 ⟨Nat.zero_le _, Nat.zero_le _⟩ (st1 := [.int q1.1]) rfl (fun H locs w => ?_)
  refine lv_iload hx hb d_NA_is_16 (lv_at hl 0 rfl) ?_
  refine lv_icmp_ne (tgt := 39) hx hb d_NA_is_18 (by decide) (fun hc3 => ?_) (fun hc3 => ?_)
  · have hf := mz_f hc3 hf
    refine lv_iconst (v := (0 : Int32)) hx hb d_NA_is_39 (by decide) ?_
    obtain rfl := Option.some.inj hf
    exact mz_zret E w (by decide) rfl d_NA_is_40
  · have hf := mz_t hc3 hf
    refine lv_iload hx hb d_NA_is_21 (lv_at hl 1 rfl) ?_
    refine lv_if_lt (tgt := 39) hx hb d_NA_is_23 (by decide) (fun hc4 => ?_) (fun hc4 => ?_)
    · have hf := mz_t hc4 hf
      refine lv_iconst (v := (0 : Int32)) hx hb d_NA_is_39 (by decide) ?_
      obtain rfl := Option.some.inj hf
      exact mz_zret E w (by decide) rfl d_NA_is_40
    · have hf := mz_f hc4 hf
      refine lv_iload hx hb d_NA_is_26 (lv_at hl 1 rfl) ?_
      refine lv_iload hx hb d_NA_is_28 (lv_at hl 0 rfl) ?_
      refine lv_iadd hx hb d_NA_is_30 ?_
      refine lv_aload_n hx hb d_NA_is_31 rfl (lv_at hl 2 rfl) ?_
      refine mz_get E w 15 2 (v := .ref (ad 16)) (by decide) rfl rfl ii_6 (by decide) (Nat.le_of_ble_eq_true rfl) k_143 rfl d_NA_is_32 ?_
      refine mz_alen E w 16 (v := (768 : Int32)) (by decide) rfl (by decide) rfl d_NA_is_35 ?_
      refine lv_icmp_le (tgt := 41) hx hb d_NA_is_36 (by decide) (fun hc5 => ?_) (fun hc5 => ?_)
      · have hf := mz_t hc5 hf
        refine lv_iconst (v := (0 : Int32)) hx hb d_NA_is_41 (by decide) ?_
        refine lv_istore (lv' := [(6, .int (0 : Int32)), (5, .int (x3 - x2)), (4, .int (x1 * (12 : Int32))), (0, .ref (ad 15)), (1, .int x1), (2, .int x2), (3, .int x3)]) hx hb d_NA_is_42 hl (by decide) rfl (fun ls hl => ?_)
        exact b_NA_is_c_44 E n n x2 (x1 * (12 : Int32)) (x3 - x2) (0 : Int32) q1.2 hf _ _ _ w (lv_sub hl [3, 5, 2, 1, 0] rfl)
      · have hf := mz_f hc5 hf
        refine lv_iconst (v := (0 : Int32)) hx hb d_NA_is_39 (by decide) ?_
        obtain rfl := Option.some.inj hf
        exact mz_zret E w (by decide) rfl d_NA_is_40

/-! MacroHouse$Names.is(III)Z -/
abbrev r_NA_is_m : Room := { frames := 1, cells := 0, slots := 0, locals := 21 }
def f_NA_is_m_44 (n : Nat) : Nat → Int32 → Int32 → Int32 → Int32 → mz_St → Option (Int32 × mz_St)
  | 0, _, _, _, _, _ => none
  | k + 1, x2, x4, x5, x6, t => if x5 ≤ x6 then (some ((1 : Int32), t)) else (if ¬ ((x4 + x6) < 0 ∨ 192 ≤ (x4 + x6).toNatClampNeg) then ((f_SI_at n (x2 + x6) t).bind fun q8 => if (mz_gI t 28 (x4 + x6).toNatClampNeg) = q8.1 then ((f_NA_is_m_44 n k) x2 x4 x5 (x6 + (1 : Int32)) q8.2) else (some ((0 : Int32), q8.2))) else none)
def f_NA_is_m (n : Nat) (x1 : Int32) (x2 : Int32) (x3 : Int32) (t : mz_St) : Option (Int32 × mz_St) := (f_NA_lengthOf_m n x1 t).bind fun q1 => if q1.1 = (x3 - x2) then (if (x1 * (12 : Int32)) < 0 then (some ((0 : Int32), q1.2)) else (if ((x1 * (12 : Int32)) + (x3 - x2)) ≤ (192 : Int32) then (f_NA_is_m_44 n n x2 (x1 * (12 : Int32)) (x3 - x2) (0 : Int32) q1.2) else (some ((0 : Int32), q1.2)))) else (some ((0 : Int32), q1.2))
set_option maxRecDepth 100000 in
set_option maxHeartbeats 4000000 in
theorem b_NA_is_m_44 {SX : State → Heap → Prop} {dC : Nat → ClassId} {dI : Nat → Nat → Nat} {ad en : Nat → Nat} {ca : Nat → ClassId} {p : Program} {l : Launch} {e : Env} {s : State} {m : MethodId} {args : Array Value} {below : List Frame} {meth : Method} {c : Code} {res : (Int32 × mz_St)} (E : mz_En SX 80 mz_cl dC dI ad ca p s m meth c prog_9_method_4_code 7 "MacroHouse$Names" (some (.boolean))) (n : Nat) (k : Nat) : ∀ (x2 : Int32) (x4 : Int32) (x5 : Int32) (x6 : Int32) (t : mz_St), f_NA_is_m_44 n k x2 x4 x5 x6 t = some res → ∀ (H : Heap) (locs : List Loc) (ls : Array Slot), mz_Wd mz_tC 80 mz_cl dC dI ad en ca s t H locs → lv_has ls 7 [(0, .ref (ad 27)), (2, .int x2), (4, .int x4), (5, .int x5), (6, .int x6)] → W p l e (r_NA_is_m) s m args below meth c H locs 0 0 (MQ below (mz_Q SX mz_tC 80 mz_cl dC dI ad en ca (some (.int res.1)) res.2) args s 0 0 (mz_A ad 80)) (F0 m 44 ls []) := by
  obtain ⟨hx, hb, hml, hown, hcx, -, -, hSX, -, -, hSK⟩ := id E
  induction k with
  | zero => intro x2 x4 x5 x6 t hf; exact absurd hf (by unfold f_NA_is_m_44; exact fun h => nomatch h)
  | succ k ih =>
    intro x2 x4 x5 x6 t hf H locs ls w hl
    unfold f_NA_is_m_44 at hf
    refine lv_iload hx hb d_NA_is_44 (lv_at hl 4 rfl) ?_
    refine lv_iload hx hb d_NA_is_46 (lv_at hl 3 rfl) ?_
    refine lv_icmp_ge (tgt := 83) hx hb d_NA_is_48 (by decide) (fun hc6 => ?_) (fun hc6 => ?_)
    · have hf := mz_t hc6 hf
      refine lv_iconst (v := (1 : Int32)) hx hb d_NA_is_83 (by decide) ?_
      obtain rfl := Option.some.inj hf
      exact mz_zret E w (by decide) rfl d_NA_is_84
    · have hf := mz_f hc6 hf
      refine lv_aload_n hx hb d_NA_is_51 rfl (lv_at hl 0 rfl) ?_
      refine mz_get E w 27 2 (v := .ref (ad 28)) (by decide) rfl rfl ii_6 (by decide) (Nat.le_of_ble_eq_true rfl) k_143 rfl d_NA_is_52 ?_
      refine lv_iload hx hb d_NA_is_55 (lv_at hl 2 rfl) ?_
      refine lv_iload hx hb d_NA_is_57 (lv_at hl 4 rfl) ?_
      refine lv_iadd hx hb d_NA_is_59 ?_
      obtain ⟨hi7, hf⟩ := mz_gd hf
      refine mz_bald E w 28 (by decide) rfl hi7 d_NA_is_60 ?_
      refine lv_aload_n hx hb d_NA_is_61 rfl (lv_at hl 0 rfl) ?_
      refine mz_get E w 27 0 (v := .ref (ad 1)) (by decide) rfl rfl ii_6 (by decide) (Nat.le_of_ble_eq_true rfl) k_141 rfl d_NA_is_62 ?_
      refine lv_iload_n hx hb d_NA_is_65 rfl (lv_at hl 1 rfl) ?_
      refine lv_iload hx hb d_NA_is_66 (lv_at hl 4 rfl) ?_
      refine lv_iadd hx hb d_NA_is_68 ?_
      obtain ⟨q8, hq9, hf⟩ := mz_bd hf
      refine mz_callV E w (k := 1) (As := [.int (x2 + x6)]) (rest := [.int (mz_gI t 28 (x4 + x6).toNatClampNeg)]) (c_SI_at hSK l n (x2 + x6) t q8 hq9) (by decide) rfl rfl k_450 k_2 k_740 k_448 k_449 hm_SI_at ⟨⟨rfl, rfl⟩, Nat.le_of_ble_eq_true rfl, Nat.le_of_ble_eq_true rfl⟩ rfl hl.1 rfl (Nat.le_of_ble_eq_true rfl) d_NA_is_69 ⟨Nat.zero_le _, Nat.zero_le _⟩ (st1 := [.int q8.1, .int (mz_gI t 28 (x4 + x6).toNatClampNeg)]) rfl (fun H locs w => ?_)
      refine lv_icmp_eq (tgt := 77) hx hb d_NA_is_72 (by decide) (fun hc10 => ?_) (fun hc10 => ?_)
      · have hf := mz_t hc10 hf
        refine lv_iinc (v := (x6 + (1 : Int32))) (lv' := [(6, .int (x6 + (1 : Int32))), (0, .ref (ad 27)), (2, .int x2), (4, .int x4), (5, .int x5)]) hx hb d_NA_is_77 hl (k := 4) rfl rfl (by decide) rfl (fun ls hl => ?_)
        refine lv_goto (tgt := 44) hx hb d_NA_is_80 (by decide) ?_
        exact ih x2 x4 x5 (x6 + (1 : Int32)) q8.2 hf _ _ _ w (lv_sub hl [1, 2, 3, 4, 0] rfl)
      · have hf := mz_f hc10 hf
        refine lv_iconst (v := (0 : Int32)) hx hb d_NA_is_75 (by decide) ?_
        obtain rfl := Option.some.inj hf
        exact mz_zret E w (by decide) rfl d_NA_is_76
set_option maxRecDepth 100000 in
set_option maxHeartbeats 4000000 in
theorem c_NA_is_m {SX : State → Heap → Prop} {dC : Nat → ClassId} {dI : Nat → Nat → Nat} {ad en : Nat → Nat} {ca : Nat → ClassId} (hSK : mz_SK SX ad 80) (l : Launch) (n : Nat) (x1 : Int32) (x2 : Int32) (x3 : Int32) (t : mz_St) (res : (Int32 × mz_St)) (hf : f_NA_is_m n x1 x2 x3 t = some res) : mz_C SX mz_tC 80 mz_cl dC dI ad en ca l y_NA_is prog_9_method_4_code 7 (some (.boolean)) (r_NA_is_m) [.ref (ad 27), .int x1, .int x2, .int x3] t (some (.int res.1)) res.2 := by
  unfold f_NA_is_m at hf
  refine mz_met hSK (by decide) (Nat.le_of_ble_eq_true rfl) ?_
  intro p e s m args below meth c ls E w hl
  obtain ⟨hx, hb, hml, hown, hcx, -, -, hSX, -, -, -⟩ := id E
  have hl : lv_has ls 7 [(0, .ref (ad 27)), (1, .int x1), (2, .int x2), (3, .int x3)] := hl
  refine lv_iload_n hx hb d_NA_is_0 rfl (lv_at hl 1 rfl) ?_
  refine lv_bipush (v := (12 : Int32)) hx hb d_NA_is_1 (by decide) ?_
  refine lv_imul hx hb d_NA_is_3 ?_
  refine lv_istore (lv' := [(4, .int (x1 * (12 : Int32))), (0, .ref (ad 27)), (1, .int x1), (2, .int x2), (3, .int x3)]) hx hb d_NA_is_4 hl (by decide) rfl (fun ls hl => ?_)
  refine lv_iload_n hx hb d_NA_is_6 rfl (lv_at hl 4 rfl) ?_
  refine lv_iload_n hx hb d_NA_is_7 rfl (lv_at hl 3 rfl) ?_
  refine lv_isub hx hb d_NA_is_8 ?_
  refine lv_istore (lv' := [(5, .int (x3 - x2)), (4, .int (x1 * (12 : Int32))), (0, .ref (ad 27)), (1, .int x1), (2, .int x2), (3, .int x3)]) hx hb d_NA_is_9 hl (by decide) rfl (fun ls hl => ?_)
  refine lv_aload_n hx hb d_NA_is_11 rfl (lv_at hl 2 rfl) ?_
  refine lv_iload_n hx hb d_NA_is_12 rfl (lv_at hl 3 rfl) ?_
  obtain ⟨q1, hq2, hf⟩ := mz_bd hf
  refine mz_callV E w (k := 27) (As := [.int x1]) (rest := []) (c_NA_lengthOf_m hSK l n x1 t q1 hq2) (by decide) rfl rfl k_739 k_9 k_736 k_738 ks_18 hm_NA_lengthOf ⟨⟨rfl, rfl⟩, Nat.le_of_ble_eq_true rfl, Nat.le_of_ble_eq_true rfl⟩ rfl hl.1 rfl (Nat.le_of_ble_eq_true rfl) d_NA_is_13 ⟨Nat.zero_le _, Nat.zero_le _⟩ (st1 := [.int q1.1]) rfl (fun H locs w => ?_)
  refine lv_iload hx hb d_NA_is_16 (lv_at hl 0 rfl) ?_
  refine lv_icmp_ne (tgt := 39) hx hb d_NA_is_18 (by decide) (fun hc3 => ?_) (fun hc3 => ?_)
  · have hf := mz_f hc3 hf
    refine lv_iconst (v := (0 : Int32)) hx hb d_NA_is_39 (by decide) ?_
    obtain rfl := Option.some.inj hf
    exact mz_zret E w (by decide) rfl d_NA_is_40
  · have hf := mz_t hc3 hf
    refine lv_iload hx hb d_NA_is_21 (lv_at hl 1 rfl) ?_
    refine lv_if_lt (tgt := 39) hx hb d_NA_is_23 (by decide) (fun hc4 => ?_) (fun hc4 => ?_)
    · have hf := mz_t hc4 hf
      refine lv_iconst (v := (0 : Int32)) hx hb d_NA_is_39 (by decide) ?_
      obtain rfl := Option.some.inj hf
      exact mz_zret E w (by decide) rfl d_NA_is_40
    · have hf := mz_f hc4 hf
      refine lv_iload hx hb d_NA_is_26 (lv_at hl 1 rfl) ?_
      refine lv_iload hx hb d_NA_is_28 (lv_at hl 0 rfl) ?_
      refine lv_iadd hx hb d_NA_is_30 ?_
      refine lv_aload_n hx hb d_NA_is_31 rfl (lv_at hl 2 rfl) ?_
      refine mz_get E w 27 2 (v := .ref (ad 28)) (by decide) rfl rfl ii_6 (by decide) (Nat.le_of_ble_eq_true rfl) k_143 rfl d_NA_is_32 ?_
      refine mz_alen E w 28 (v := (192 : Int32)) (by decide) rfl (by decide) rfl d_NA_is_35 ?_
      refine lv_icmp_le (tgt := 41) hx hb d_NA_is_36 (by decide) (fun hc5 => ?_) (fun hc5 => ?_)
      · have hf := mz_t hc5 hf
        refine lv_iconst (v := (0 : Int32)) hx hb d_NA_is_41 (by decide) ?_
        refine lv_istore (lv' := [(6, .int (0 : Int32)), (5, .int (x3 - x2)), (4, .int (x1 * (12 : Int32))), (0, .ref (ad 27)), (1, .int x1), (2, .int x2), (3, .int x3)]) hx hb d_NA_is_42 hl (by decide) rfl (fun ls hl => ?_)
        exact b_NA_is_m_44 E n n x2 (x1 * (12 : Int32)) (x3 - x2) (0 : Int32) q1.2 hf _ _ _ w (lv_sub hl [3, 5, 2, 1, 0] rfl)
      · have hf := mz_f hc5 hf
        refine lv_iconst (v := (0 : Int32)) hx hb d_NA_is_39 (by decide) ?_
        obtain rfl := Option.some.inj hf
        exact mz_zret E w (by decide) rfl d_NA_is_40

/-! MacroHouse$Names.find(II)I -/
abbrev r_NA_find_c : Room := { frames := 2, cells := 0, slots := 0, locals := 47 }
def f_NA_find_c_2 (n : Nat) : Nat → Int32 → Int32 → Int32 → mz_St → Option (Int32 × mz_St)
  | 0, _, _, _, _ => none
  | k + 1, x1, x2, x3, t => if (mz_gI t 15 4) ≤ x3 then (some ((-1 : Int32), t)) else ((f_NA_is_c n x3 x1 x2 t).bind fun q2 => if q2.1 = 0 then ((f_NA_find_c_2 n k) x1 x2 (x3 + (1 : Int32)) q2.2) else (some (x3, q2.2)))
def f_NA_find_c (n : Nat) (x1 : Int32) (x2 : Int32) (t : mz_St) : Option (Int32 × mz_St) := f_NA_find_c_2 n n x1 x2 (0 : Int32) t
set_option maxRecDepth 100000 in
set_option maxHeartbeats 4000000 in
theorem b_NA_find_c_2 {SX : State → Heap → Prop} {dC : Nat → ClassId} {dI : Nat → Nat → Nat} {ad en : Nat → Nat} {ca : Nat → ClassId} {p : Program} {l : Launch} {e : Env} {s : State} {m : MethodId} {args : Array Value} {below : List Frame} {meth : Method} {c : Code} {res : (Int32 × mz_St)} (E : mz_En SX 80 mz_cl dC dI ad ca p s m meth c prog_9_method_3_code 4 "MacroHouse$Names" (some (.int))) (n : Nat) (k : Nat) : ∀ (x1 : Int32) (x2 : Int32) (x3 : Int32) (t : mz_St), f_NA_find_c_2 n k x1 x2 x3 t = some res → ∀ (H : Heap) (locs : List Loc) (ls : Array Slot), mz_Wd mz_tC 80 mz_cl dC dI ad en ca s t H locs → lv_has ls 4 [(0, .ref (ad 15)), (1, .int x1), (2, .int x2), (3, .int x3)] → W p l e (r_NA_find_c) s m args below meth c H locs 0 0 (MQ below (mz_Q SX mz_tC 80 mz_cl dC dI ad en ca (some (.int res.1)) res.2) args s 0 0 (mz_A ad 80)) (F0 m 2 ls []) := by
  obtain ⟨hx, hb, hml, hown, hcx, -, -, hSX, -, -, hSK⟩ := id E
  induction k with
  | zero => intro x1 x2 x3 t hf; exact absurd hf (by unfold f_NA_find_c_2; exact fun h => nomatch h)
  | succ k ih =>
    intro x1 x2 x3 t hf H locs ls w hl
    unfold f_NA_find_c_2 at hf
    refine lv_iload_n hx hb d_NA_find_2 rfl (lv_at hl 3 rfl) ?_
    refine lv_aload_n hx hb d_NA_find_3 rfl (lv_at hl 0 rfl) ?_
    refine mz_get E w 15 4 (v := .int (mz_gI t 15 4)) (by decide) rfl rfl ii_6 (by decide) (Nat.le_of_ble_eq_true rfl) k_145 rfl d_NA_find_4 ?_
    refine lv_icmp_ge (tgt := 28) hx hb d_NA_find_7 (by decide) (fun hc1 => ?_) (fun hc1 => ?_)
    · have hf := mz_t hc1 hf
      refine lv_iconst (v := (-1 : Int32)) hx hb d_NA_find_28 (by decide) ?_
      obtain rfl := Option.some.inj hf
      exact mz_iret E w rfl d_NA_find_29
    · have hf := mz_f hc1 hf
      refine lv_aload_n hx hb d_NA_find_10 rfl (lv_at hl 0 rfl) ?_
      refine lv_iload_n hx hb d_NA_find_11 rfl (lv_at hl 3 rfl) ?_
      refine lv_iload_n hx hb d_NA_find_12 rfl (lv_at hl 1 rfl) ?_
      refine lv_iload_n hx hb d_NA_find_13 rfl (lv_at hl 2 rfl) ?_
      obtain ⟨q2, hq3, hf⟩ := mz_bd hf
      refine mz_callV E w (k := 15) (As := [.int x3, .int x1, .int x2]) (rest := []) (c_NA_is_c hSK l n x3 x1 x2 t q2 hq3) (by decide) rfl rfl k_735 k_9 k_732 k_734 ks_17 hm_NA_is ⟨⟨rfl, rfl⟩, Nat.le_of_ble_eq_true rfl, Nat.le_of_ble_eq_true rfl⟩ rfl hl.1 rfl (Nat.le_of_ble_eq_true rfl) d_NA_find_14 ⟨Nat.zero_le _, Nat.zero_le _⟩ (st1 := [.int q2.1]) rfl (fun H locs w => ?_)
      refine lv_if_eq (tgt := 22) hx hb d_NA_find_17 (by decide) (fun hc4 => ?_) (fun hc4 => ?_)
      · have hf := mz_t hc4 hf
        refine lv_iinc (v := (x3 + (1 : Int32))) (lv' := [(3, .int (x3 + (1 : Int32))), (0, .ref (ad 15)), (1, .int x1), (2, .int x2)]) hx hb d_NA_find_22 hl (k := 3) rfl rfl (by decide) rfl (fun ls hl => ?_)
        refine lv_goto (tgt := 2) hx hb d_NA_find_25 (by decide) ?_
        exact ih x1 x2 (x3 + (1 : Int32)) q2.2 hf _ _ _ w (lv_sub hl [1, 2, 3, 0] rfl)
      · have hf := mz_f hc4 hf
        refine lv_iload_n hx hb d_NA_find_20 rfl (lv_at hl 3 rfl) ?_
        obtain rfl := Option.some.inj hf
        exact mz_iret E w rfl d_NA_find_21
set_option maxRecDepth 100000 in
set_option maxHeartbeats 4000000 in
theorem c_NA_find_c {SX : State → Heap → Prop} {dC : Nat → ClassId} {dI : Nat → Nat → Nat} {ad en : Nat → Nat} {ca : Nat → ClassId} (hSK : mz_SK SX ad 80) (l : Launch) (n : Nat) (x1 : Int32) (x2 : Int32) (t : mz_St) (res : (Int32 × mz_St)) (hf : f_NA_find_c n x1 x2 t = some res) : mz_C SX mz_tC 80 mz_cl dC dI ad en ca l y_NA_find prog_9_method_3_code 4 (some (.int)) (r_NA_find_c) [.ref (ad 15), .int x1, .int x2] t (some (.int res.1)) res.2 := by
  unfold f_NA_find_c at hf
  refine mz_met hSK (by decide) (Nat.le_of_ble_eq_true rfl) ?_
  intro p e s m args below meth c ls E w hl
  obtain ⟨hx, hb, hml, hown, hcx, -, -, hSX, -, -, -⟩ := id E
  have hl : lv_has ls 4 [(0, .ref (ad 15)), (1, .int x1), (2, .int x2)] := hl
  refine lv_iconst (v := (0 : Int32)) hx hb d_NA_find_0 (by decide) ?_
  refine lv_istore_n (lv' := [(3, .int (0 : Int32)), (0, .ref (ad 15)), (1, .int x1), (2, .int x2)]) hx hb d_NA_find_1 rfl hl (by decide) rfl (fun ls hl => ?_)
  exact b_NA_find_c_2 E n n x1 x2 (0 : Int32) t hf _ _ _ w (lv_sub hl [1, 2, 3, 0] rfl)

/-! MacroHouse$Names.find(II)I -/
abbrev r_NA_find_m : Room := { frames := 2, cells := 0, slots := 0, locals := 47 }
def f_NA_find_m_2 (n : Nat) : Nat → Int32 → Int32 → Int32 → mz_St → Option (Int32 × mz_St)
  | 0, _, _, _, _ => none
  | k + 1, x1, x2, x3, t => if (mz_gI t 27 4) ≤ x3 then (some ((-1 : Int32), t)) else ((f_NA_is_m n x3 x1 x2 t).bind fun q2 => if q2.1 = 0 then ((f_NA_find_m_2 n k) x1 x2 (x3 + (1 : Int32)) q2.2) else (some (x3, q2.2)))
def f_NA_find_m (n : Nat) (x1 : Int32) (x2 : Int32) (t : mz_St) : Option (Int32 × mz_St) := f_NA_find_m_2 n n x1 x2 (0 : Int32) t
set_option maxRecDepth 100000 in
set_option maxHeartbeats 4000000 in
theorem b_NA_find_m_2 {SX : State → Heap → Prop} {dC : Nat → ClassId} {dI : Nat → Nat → Nat} {ad en : Nat → Nat} {ca : Nat → ClassId} {p : Program} {l : Launch} {e : Env} {s : State} {m : MethodId} {args : Array Value} {below : List Frame} {meth : Method} {c : Code} {res : (Int32 × mz_St)} (E : mz_En SX 80 mz_cl dC dI ad ca p s m meth c prog_9_method_3_code 4 "MacroHouse$Names" (some (.int))) (n : Nat) (k : Nat) : ∀ (x1 : Int32) (x2 : Int32) (x3 : Int32) (t : mz_St), f_NA_find_m_2 n k x1 x2 x3 t = some res → ∀ (H : Heap) (locs : List Loc) (ls : Array Slot), mz_Wd mz_tC 80 mz_cl dC dI ad en ca s t H locs → lv_has ls 4 [(0, .ref (ad 27)), (1, .int x1), (2, .int x2), (3, .int x3)] → W p l e (r_NA_find_m) s m args below meth c H locs 0 0 (MQ below (mz_Q SX mz_tC 80 mz_cl dC dI ad en ca (some (.int res.1)) res.2) args s 0 0 (mz_A ad 80)) (F0 m 2 ls []) := by
  obtain ⟨hx, hb, hml, hown, hcx, -, -, hSX, -, -, hSK⟩ := id E
  induction k with
  | zero => intro x1 x2 x3 t hf; exact absurd hf (by unfold f_NA_find_m_2; exact fun h => nomatch h)
  | succ k ih =>
    intro x1 x2 x3 t hf H locs ls w hl
    unfold f_NA_find_m_2 at hf
    refine lv_iload_n hx hb d_NA_find_2 rfl (lv_at hl 3 rfl) ?_
    refine lv_aload_n hx hb d_NA_find_3 rfl (lv_at hl 0 rfl) ?_
    refine mz_get E w 27 4 (v := .int (mz_gI t 27 4)) (by decide) rfl rfl ii_6 (by decide) (Nat.le_of_ble_eq_true rfl) k_145 rfl d_NA_find_4 ?_
    refine lv_icmp_ge (tgt := 28) hx hb d_NA_find_7 (by decide) (fun hc1 => ?_) (fun hc1 => ?_)
    · have hf := mz_t hc1 hf
      refine lv_iconst (v := (-1 : Int32)) hx hb d_NA_find_28 (by decide) ?_
      obtain rfl := Option.some.inj hf
      exact mz_iret E w rfl d_NA_find_29
    · have hf := mz_f hc1 hf
      refine lv_aload_n hx hb d_NA_find_10 rfl (lv_at hl 0 rfl) ?_
      refine lv_iload_n hx hb d_NA_find_11 rfl (lv_at hl 3 rfl) ?_
      refine lv_iload_n hx hb d_NA_find_12 rfl (lv_at hl 1 rfl) ?_
      refine lv_iload_n hx hb d_NA_find_13 rfl (lv_at hl 2 rfl) ?_
      obtain ⟨q2, hq3, hf⟩ := mz_bd hf
      refine mz_callV E w (k := 27) (As := [.int x3, .int x1, .int x2]) (rest := []) (c_NA_is_m hSK l n x3 x1 x2 t q2 hq3) (by decide) rfl rfl k_735 k_9 k_732 k_734 ks_17 hm_NA_is ⟨⟨rfl, rfl⟩, Nat.le_of_ble_eq_true rfl, Nat.le_of_ble_eq_true rfl⟩ rfl hl.1 rfl (Nat.le_of_ble_eq_true rfl) d_NA_find_14 ⟨Nat.zero_le _, Nat.zero_le _⟩ (st1 := [.int q2.1]) rfl (fun H locs w => ?_)
      refine lv_if_eq (tgt := 22) hx hb d_NA_find_17 (by decide) (fun hc4 => ?_) (fun hc4 => ?_)
      · have hf := mz_t hc4 hf
        refine lv_iinc (v := (x3 + (1 : Int32))) (lv' := [(3, .int (x3 + (1 : Int32))), (0, .ref (ad 27)), (1, .int x1), (2, .int x2)]) hx hb d_NA_find_22 hl (k := 3) rfl rfl (by decide) rfl (fun ls hl => ?_)
        refine lv_goto (tgt := 2) hx hb d_NA_find_25 (by decide) ?_
        exact ih x1 x2 (x3 + (1 : Int32)) q2.2 hf _ _ _ w (lv_sub hl [1, 2, 3, 0] rfl)
      · have hf := mz_f hc4 hf
        refine lv_iload_n hx hb d_NA_find_20 rfl (lv_at hl 3 rfl) ?_
        obtain rfl := Option.some.inj hf
        exact mz_iret E w rfl d_NA_find_21
set_option maxRecDepth 100000 in
set_option maxHeartbeats 4000000 in
theorem c_NA_find_m {SX : State → Heap → Prop} {dC : Nat → ClassId} {dI : Nat → Nat → Nat} {ad en : Nat → Nat} {ca : Nat → ClassId} (hSK : mz_SK SX ad 80) (l : Launch) (n : Nat) (x1 : Int32) (x2 : Int32) (t : mz_St) (res : (Int32 × mz_St)) (hf : f_NA_find_m n x1 x2 t = some res) : mz_C SX mz_tC 80 mz_cl dC dI ad en ca l y_NA_find prog_9_method_3_code 4 (some (.int)) (r_NA_find_m) [.ref (ad 27), .int x1, .int x2] t (some (.int res.1)) res.2 := by
  unfold f_NA_find_m at hf
  refine mz_met hSK (by decide) (Nat.le_of_ble_eq_true rfl) ?_
  intro p e s m args below meth c ls E w hl
  obtain ⟨hx, hb, hml, hown, hcx, -, -, hSX, -, -, -⟩ := id E
  have hl : lv_has ls 4 [(0, .ref (ad 27)), (1, .int x1), (2, .int x2)] := hl
  refine lv_iconst (v := (0 : Int32)) hx hb d_NA_find_0 (by decide) ?_
  refine lv_istore_n (lv' := [(3, .int (0 : Int32)), (0, .ref (ad 27)), (1, .int x1), (2, .int x2)]) hx hb d_NA_find_1 rfl hl (by decide) rfl (fun ls hl => ?_)
  exact b_NA_find_m_2 E n n x1 x2 (0 : Int32) t hf _ _ _ w (lv_sub hl [1, 2, 3, 0] rfl)

/-! MacroHouse$Names.isFull()Z -/
abbrev r_NA_isFull_c : Room := { frames := 0, cells := 0, slots := 0, locals := 0 }
def f_NA_isFull_c (n : Nat) (t : mz_St) : Option (Int32 × mz_St) := if (mz_gI t 15 4) < (mz_gI t 15 1) then (some ((0 : Int32), t)) else (some ((1 : Int32), t))
set_option maxRecDepth 100000 in
set_option maxHeartbeats 4000000 in
theorem c_NA_isFull_c {SX : State → Heap → Prop} {dC : Nat → ClassId} {dI : Nat → Nat → Nat} {ad en : Nat → Nat} {ca : Nat → ClassId} (hSK : mz_SK SX ad 80) (l : Launch) (n : Nat) (t : mz_St) (res : (Int32 × mz_St)) (hf : f_NA_isFull_c n t = some res) : mz_C SX mz_tC 80 mz_cl dC dI ad en ca l y_NA_isFull prog_9_method_2_code 1 (some (.boolean)) (r_NA_isFull_c) [.ref (ad 15)] t (some (.int res.1)) res.2 := by
  unfold f_NA_isFull_c at hf
  refine mz_met hSK (by decide) (Nat.le_of_ble_eq_true rfl) ?_
  intro p e s m args below meth c ls E w hl
  obtain ⟨hx, hb, hml, hown, hcx, -, -, hSX, -, -, -⟩ := id E
  have hl : lv_has ls 1 [(0, .ref (ad 15))] := hl
  refine lv_aload_n hx hb d_NA_isFull_0 rfl (lv_at hl 0 rfl) ?_
  refine mz_get E w 15 4 (v := .int (mz_gI t 15 4)) (by decide) rfl rfl ii_6 (by decide) (Nat.le_of_ble_eq_true rfl) k_145 rfl d_NA_isFull_1 ?_
  refine lv_aload_n hx hb d_NA_isFull_4 rfl (lv_at hl 0 rfl) ?_
  refine mz_get E w 15 1 (v := .int (mz_gI t 15 1)) (by decide) rfl rfl ii_6 (by decide) (Nat.le_of_ble_eq_true rfl) k_142 rfl d_NA_isFull_5 ?_
  refine lv_icmp_lt (tgt := 15) hx hb d_NA_isFull_8 (by decide) (fun hc1 => ?_) (fun hc1 => ?_)
  · have hf := mz_t hc1 hf
    refine lv_iconst (v := (0 : Int32)) hx hb d_NA_isFull_15 (by decide) ?_
    obtain rfl := Option.some.inj hf
    exact mz_zret E w (by decide) rfl d_NA_isFull_16
  · have hf := mz_f hc1 hf
    refine lv_iconst (v := (1 : Int32)) hx hb d_NA_isFull_11 (by decide) ?_
    refine lv_goto (tgt := 16) hx hb d_NA_isFull_12 (by decide) ?_
    obtain rfl := Option.some.inj hf
    exact mz_zret E w (by decide) rfl d_NA_isFull_16

/-! MacroHouse$Names.isFull()Z -/
abbrev r_NA_isFull_m : Room := { frames := 0, cells := 0, slots := 0, locals := 0 }
def f_NA_isFull_m (n : Nat) (t : mz_St) : Option (Int32 × mz_St) := if (mz_gI t 27 4) < (mz_gI t 27 1) then (some ((0 : Int32), t)) else (some ((1 : Int32), t))
set_option maxRecDepth 100000 in
set_option maxHeartbeats 4000000 in
theorem c_NA_isFull_m {SX : State → Heap → Prop} {dC : Nat → ClassId} {dI : Nat → Nat → Nat} {ad en : Nat → Nat} {ca : Nat → ClassId} (hSK : mz_SK SX ad 80) (l : Launch) (n : Nat) (t : mz_St) (res : (Int32 × mz_St)) (hf : f_NA_isFull_m n t = some res) : mz_C SX mz_tC 80 mz_cl dC dI ad en ca l y_NA_isFull prog_9_method_2_code 1 (some (.boolean)) (r_NA_isFull_m) [.ref (ad 27)] t (some (.int res.1)) res.2 := by
  unfold f_NA_isFull_m at hf
  refine mz_met hSK (by decide) (Nat.le_of_ble_eq_true rfl) ?_
  intro p e s m args below meth c ls E w hl
  obtain ⟨hx, hb, hml, hown, hcx, -, -, hSX, -, -, -⟩ := id E
  have hl : lv_has ls 1 [(0, .ref (ad 27))] := hl
  refine lv_aload_n hx hb d_NA_isFull_0 rfl (lv_at hl 0 rfl) ?_
  refine mz_get E w 27 4 (v := .int (mz_gI t 27 4)) (by decide) rfl rfl ii_6 (by decide) (Nat.le_of_ble_eq_true rfl) k_145 rfl d_NA_isFull_1 ?_
  refine lv_aload_n hx hb d_NA_isFull_4 rfl (lv_at hl 0 rfl) ?_
  refine mz_get E w 27 1 (v := .int (mz_gI t 27 1)) (by decide) rfl rfl ii_6 (by decide) (Nat.le_of_ble_eq_true rfl) k_142 rfl d_NA_isFull_5 ?_
  refine lv_icmp_lt (tgt := 15) hx hb d_NA_isFull_8 (by decide) (fun hc1 => ?_) (fun hc1 => ?_)
  · have hf := mz_t hc1 hf
    refine lv_iconst (v := (0 : Int32)) hx hb d_NA_isFull_15 (by decide) ?_
    obtain rfl := Option.some.inj hf
    exact mz_zret E w (by decide) rfl d_NA_isFull_16
  · have hf := mz_f hc1 hf
    refine lv_iconst (v := (1 : Int32)) hx hb d_NA_isFull_11 (by decide) ?_
    refine lv_goto (tgt := 16) hx hb d_NA_isFull_12 (by decide) ?_
    obtain rfl := Option.some.inj hf
    exact mz_zret E w (by decide) rfl d_NA_isFull_16

/-! MacroHouse$Names.write(III)V -/
abbrev r_NA_write_c : Room := { frames := 0, cells := 0, slots := 0, locals := 0 }
def f_NA_write_c (n : Nat) (x1 : Int32) (x2 : Int32) (x3 : Int32) (t : mz_St) : Option mz_St := if ((x1 * (12 : Int32)) + x2) < 0 then (some t) else (if (768 : Int32) ≤ ((x1 * (12 : Int32)) + x2) then (some t) else (if ¬ (((x1 * (12 : Int32)) + x2) < 0 ∨ 768 ≤ ((x1 * (12 : Int32)) + x2).toNatClampNeg) then (mz_let (mz_pI t 16 ((x1 * (12 : Int32)) + x2).toNatClampNeg (vp_nar .byte x3.toInt8.toInt32)) fun t4 => some t4) else none))
set_option maxRecDepth 100000 in
set_option maxHeartbeats 4000000 in
theorem c_NA_write_c {SX : State → Heap → Prop} {dC : Nat → ClassId} {dI : Nat → Nat → Nat} {ad en : Nat → Nat} {ca : Nat → ClassId} (hSK : mz_SK SX ad 80) (l : Launch) (n : Nat) (x1 : Int32) (x2 : Int32) (x3 : Int32) (t : mz_St) (res : mz_St) (hf : f_NA_write_c n x1 x2 x3 t = some res) : mz_C SX mz_tC 80 mz_cl dC dI ad en ca l y_NA_write prog_9_method_9_code 5 none (r_NA_write_c) [.ref (ad 15), .int x1, .int x2, .int x3] t none res := by
  unfold f_NA_write_c at hf
  refine mz_met hSK (by decide) (Nat.le_of_ble_eq_true rfl) ?_
  intro p e s m args below meth c ls E w hl
  obtain ⟨hx, hb, hml, hown, hcx, -, -, hSX, -, -, -⟩ := id E
  have hl : lv_has ls 5 [(0, .ref (ad 15)), (1, .int x1), (2, .int x2), (3, .int x3)] := hl
  refine lv_iload_n hx hb d_NA_write_0 rfl (lv_at hl 1 rfl) ?_
  refine lv_bipush (v := (12 : Int32)) hx hb d_NA_write_1 (by decide) ?_
  refine lv_imul hx hb d_NA_write_3 ?_
  refine lv_iload_n hx hb d_NA_write_4 rfl (lv_at hl 2 rfl) ?_
  refine lv_iadd hx hb d_NA_write_5 ?_
  refine lv_istore (lv' := [(4, .int ((x1 * (12 : Int32)) + x2)), (0, .ref (ad 15)), (1, .int x1), (2, .int x2), (3, .int x3)]) hx hb d_NA_write_6 hl (by decide) rfl (fun ls hl => ?_)
  refine lv_iload hx hb d_NA_write_8 (lv_at hl 0 rfl) ?_
  refine lv_if_lt (tgt := 32) hx hb d_NA_write_10 (by decide) (fun hc1 => ?_) (fun hc1 => ?_)
  · have hf := mz_t hc1 hf
    obtain rfl := Option.some.inj hf
    exact mz_vret E w rfl d_NA_write_32
  · have hf := mz_f hc1 hf
    refine lv_iload hx hb d_NA_write_13 (lv_at hl 0 rfl) ?_
    refine lv_aload_n hx hb d_NA_write_15 rfl (lv_at hl 1 rfl) ?_
    refine mz_get E w 15 2 (v := .ref (ad 16)) (by decide) rfl rfl ii_6 (by decide) (Nat.le_of_ble_eq_true rfl) k_143 rfl d_NA_write_16 ?_
    refine mz_alen E w 16 (v := (768 : Int32)) (by decide) rfl (by decide) rfl d_NA_write_19 ?_
    refine lv_icmp_ge (tgt := 32) hx hb d_NA_write_20 (by decide) (fun hc2 => ?_) (fun hc2 => ?_)
    · have hf := mz_t hc2 hf
      obtain rfl := Option.some.inj hf
      exact mz_vret E w rfl d_NA_write_32
    · have hf := mz_f hc2 hf
      refine lv_aload_n hx hb d_NA_write_23 rfl (lv_at hl 1 rfl) ?_
      refine mz_get E w 15 2 (v := .ref (ad 16)) (by decide) rfl rfl ii_6 (by decide) (Nat.le_of_ble_eq_true rfl) k_143 rfl d_NA_write_24 ?_
      refine lv_iload hx hb d_NA_write_27 (lv_at hl 0 rfl) ?_
      refine lv_iload_n hx hb d_NA_write_29 rfl (lv_at hl 4 rfl) ?_
      refine lv_i2b (v := x3.toInt8.toInt32) hx hb d_NA_write_30 rfl ?_
      obtain ⟨hi3, hf⟩ := mz_gd hf
      refine mz_bast E w 16 (x := x3.toInt8.toInt32) (by decide) rfl hi3 d_NA_write_31 (fun H locs w => ?_)
      obtain ⟨t4, e_t4, hf⟩ := mz_lt hf
      rw [← e_t4] at w
      obtain rfl := Option.some.inj hf
      exact mz_vret E w rfl d_NA_write_32

/-! MacroHouse$Names.write(III)V -/
abbrev r_NA_write_m : Room := { frames := 0, cells := 0, slots := 0, locals := 0 }
def f_NA_write_m (n : Nat) (x1 : Int32) (x2 : Int32) (x3 : Int32) (t : mz_St) : Option mz_St := if ((x1 * (12 : Int32)) + x2) < 0 then (some t) else (if (192 : Int32) ≤ ((x1 * (12 : Int32)) + x2) then (some t) else (if ¬ (((x1 * (12 : Int32)) + x2) < 0 ∨ 192 ≤ ((x1 * (12 : Int32)) + x2).toNatClampNeg) then (mz_let (mz_pI t 28 ((x1 * (12 : Int32)) + x2).toNatClampNeg (vp_nar .byte x3.toInt8.toInt32)) fun t4 => some t4) else none))
set_option maxRecDepth 100000 in
set_option maxHeartbeats 4000000 in
theorem c_NA_write_m {SX : State → Heap → Prop} {dC : Nat → ClassId} {dI : Nat → Nat → Nat} {ad en : Nat → Nat} {ca : Nat → ClassId} (hSK : mz_SK SX ad 80) (l : Launch) (n : Nat) (x1 : Int32) (x2 : Int32) (x3 : Int32) (t : mz_St) (res : mz_St) (hf : f_NA_write_m n x1 x2 x3 t = some res) : mz_C SX mz_tC 80 mz_cl dC dI ad en ca l y_NA_write prog_9_method_9_code 5 none (r_NA_write_m) [.ref (ad 27), .int x1, .int x2, .int x3] t none res := by
  unfold f_NA_write_m at hf
  refine mz_met hSK (by decide) (Nat.le_of_ble_eq_true rfl) ?_
  intro p e s m args below meth c ls E w hl
  obtain ⟨hx, hb, hml, hown, hcx, -, -, hSX, -, -, -⟩ := id E
  have hl : lv_has ls 5 [(0, .ref (ad 27)), (1, .int x1), (2, .int x2), (3, .int x3)] := hl
  refine lv_iload_n hx hb d_NA_write_0 rfl (lv_at hl 1 rfl) ?_
  refine lv_bipush (v := (12 : Int32)) hx hb d_NA_write_1 (by decide) ?_
  refine lv_imul hx hb d_NA_write_3 ?_
  refine lv_iload_n hx hb d_NA_write_4 rfl (lv_at hl 2 rfl) ?_
  refine lv_iadd hx hb d_NA_write_5 ?_
  refine lv_istore (lv' := [(4, .int ((x1 * (12 : Int32)) + x2)), (0, .ref (ad 27)), (1, .int x1), (2, .int x2), (3, .int x3)]) hx hb d_NA_write_6 hl (by decide) rfl (fun ls hl => ?_)
  refine lv_iload hx hb d_NA_write_8 (lv_at hl 0 rfl) ?_
  refine lv_if_lt (tgt := 32) hx hb d_NA_write_10 (by decide) (fun hc1 => ?_) (fun hc1 => ?_)
  · have hf := mz_t hc1 hf
    obtain rfl := Option.some.inj hf
    exact mz_vret E w rfl d_NA_write_32
  · have hf := mz_f hc1 hf
    refine lv_iload hx hb d_NA_write_13 (lv_at hl 0 rfl) ?_
    refine lv_aload_n hx hb d_NA_write_15 rfl (lv_at hl 1 rfl) ?_
    refine mz_get E w 27 2 (v := .ref (ad 28)) (by decide) rfl rfl ii_6 (by decide) (Nat.le_of_ble_eq_true rfl) k_143 rfl d_NA_write_16 ?_
    refine mz_alen E w 28 (v := (192 : Int32)) (by decide) rfl (by decide) rfl d_NA_write_19 ?_
    refine lv_icmp_ge (tgt := 32) hx hb d_NA_write_20 (by decide) (fun hc2 => ?_) (fun hc2 => ?_)
    · have hf := mz_t hc2 hf
      obtain rfl := Option.some.inj hf
      exact mz_vret E w rfl d_NA_write_32
    · have hf := mz_f hc2 hf
      refine lv_aload_n hx hb d_NA_write_23 rfl (lv_at hl 1 rfl) ?_
      refine mz_get E w 27 2 (v := .ref (ad 28)) (by decide) rfl rfl ii_6 (by decide) (Nat.le_of_ble_eq_true rfl) k_143 rfl d_NA_write_24 ?_
      refine lv_iload hx hb d_NA_write_27 (lv_at hl 0 rfl) ?_
      refine lv_iload_n hx hb d_NA_write_29 rfl (lv_at hl 4 rfl) ?_
      refine lv_i2b (v := x3.toInt8.toInt32) hx hb d_NA_write_30 rfl ?_
      obtain ⟨hi3, hf⟩ := mz_gd hf
      refine mz_bast E w 28 (x := x3.toInt8.toInt32) (by decide) rfl hi3 d_NA_write_31 (fun H locs w => ?_)
      obtain ⟨t4, e_t4, hf⟩ := mz_lt hf
      rw [← e_t4] at w
      obtain rfl := Option.some.inj hf
      exact mz_vret E w rfl d_NA_write_32

/-! MacroHouse$Names.add(II)V -/
abbrev r_NA_add_c : Room := { frames := 1, cells := 0, slots := 0, locals := 24 }
def f_NA_add_c_42 (n : Nat) : Nat → Int32 → Int32 → Int32 → mz_St → Option mz_St
  | 0, _, _, _, _ => none
  | k + 1, x1, x3, x4, t => if x3 ≤ x4 then (mz_let (mz_pI t 15 4 ((mz_gI t 15 4) + (1 : Int32))) fun t8 => some t8) else ((f_SI_at n (x1 + x4) t).bind fun q9 => (f_NA_write_c n (mz_gI t 15 4) x4 q9.1 q9.2).bind fun q11 => (f_NA_add_c_42 n k) x1 x3 (x4 + (1 : Int32)) q11)
def f_NA_add_c (n : Nat) (x1 : Int32) (x2 : Int32) (t : mz_St) : Option mz_St := (f_NA_isFull_c n t).bind fun q1 => if q1.1 = 0 then (if (mz_gI q1.2 15 4) < (64 : Int32) then (if ¬ ((mz_gI q1.2 15 4) < 0 ∨ 64 ≤ (mz_gI q1.2 15 4).toNatClampNeg) then (mz_let (mz_pI q1.2 17 (mz_gI q1.2 15 4).toNatClampNeg (if (12 : Int32) < (x2 - x1) then (12 : Int32) else (x2 - x1))) fun t6 => f_NA_add_c_42 n n x1 (if (12 : Int32) < (x2 - x1) then (12 : Int32) else (x2 - x1)) (0 : Int32) t6) else none) else (some q1.2)) else (some q1.2)
set_option maxRecDepth 100000 in
set_option maxHeartbeats 4000000 in
theorem b_NA_add_c_42 {SX : State → Heap → Prop} {dC : Nat → ClassId} {dI : Nat → Nat → Nat} {ad en : Nat → Nat} {ca : Nat → ClassId} {p : Program} {l : Launch} {e : Env} {s : State} {m : MethodId} {args : Array Value} {below : List Frame} {meth : Method} {c : Code} {res : mz_St} (E : mz_En SX 80 mz_cl dC dI ad ca p s m meth c prog_9_method_5_code 5 "MacroHouse$Names" none) (n : Nat) (k : Nat) : ∀ (x1 : Int32) (x3 : Int32) (x4 : Int32) (t : mz_St), f_NA_add_c_42 n k x1 x3 x4 t = some res → ∀ (H : Heap) (locs : List Loc) (ls : Array Slot), mz_Wd mz_tC 80 mz_cl dC dI ad en ca s t H locs → lv_has ls 5 [(0, .ref (ad 15)), (1, .int x1), (3, .int x3), (4, .int x4)] → W p l e (r_NA_add_c) s m args below meth c H locs 0 0 (MQ below (mz_Q SX mz_tC 80 mz_cl dC dI ad en ca none res) args s 0 0 (mz_A ad 80)) (F0 m 42 ls []) := by
  obtain ⟨hx, hb, hml, hown, hcx, -, -, hSX, -, -, hSK⟩ := id E
  induction k with
  | zero => intro x1 x3 x4 t hf; exact absurd hf (by unfold f_NA_add_c_42; exact fun h => nomatch h)
  | succ k ih =>
    intro x1 x3 x4 t hf H locs ls w hl
    unfold f_NA_add_c_42 at hf
    refine lv_iload hx hb d_NA_add_42 (lv_at hl 3 rfl) ?_
    refine lv_iload_n hx hb d_NA_add_44 rfl (lv_at hl 2 rfl) ?_
    refine lv_icmp_ge (tgt := 75) hx hb d_NA_add_45 (by decide) (fun hc7 => ?_) (fun hc7 => ?_)
    · have hf := mz_t hc7 hf
      refine lv_aload_n hx hb d_NA_add_75 rfl (lv_at hl 0 rfl) ?_
      refine lv_dup hx hb d_NA_add_76 rfl ?_
      refine mz_get E w 15 4 (v := .int (mz_gI t 15 4)) (by decide) rfl rfl ii_6 (by decide) (Nat.le_of_ble_eq_true rfl) k_145 rfl d_NA_add_77 ?_
      refine lv_iconst (v := (1 : Int32)) hx hb d_NA_add_80 (by decide) ?_
      refine lv_iadd hx hb d_NA_add_81 ?_
      refine mz_put E w 15 4 (v := ((mz_gI t 15 4) + (1 : Int32))) (by decide) rfl rfl ii_6 tk_6 nm_6 (by decide) (Nat.le_of_ble_eq_true rfl) k_145 rfl (tk_6 4 (by decide)) rfl rfl rfl d_NA_add_82 (fun H locs w => ?_)
      obtain ⟨t8, e_t8, hf⟩ := mz_lt hf
      rw [← e_t8] at w
      obtain rfl := Option.some.inj hf
      exact mz_vret E w rfl d_NA_add_85
    · have hf := mz_f hc7 hf
      refine lv_aload_n hx hb d_NA_add_48 rfl (lv_at hl 0 rfl) ?_
      refine lv_aload_n hx hb d_NA_add_49 rfl (lv_at hl 0 rfl) ?_
      refine mz_get E w 15 4 (v := .int (mz_gI t 15 4)) (by decide) rfl rfl ii_6 (by decide) (Nat.le_of_ble_eq_true rfl) k_145 rfl d_NA_add_50 ?_
      refine lv_iload hx hb d_NA_add_53 (lv_at hl 3 rfl) ?_
      refine lv_aload_n hx hb d_NA_add_55 rfl (lv_at hl 0 rfl) ?_
      refine mz_get E w 15 0 (v := .ref (ad 1)) (by decide) rfl rfl ii_6 (by decide) (Nat.le_of_ble_eq_true rfl) k_141 rfl d_NA_add_56 ?_
      refine lv_iload_n hx hb d_NA_add_59 rfl (lv_at hl 1 rfl) ?_
      refine lv_iload hx hb d_NA_add_60 (lv_at hl 3 rfl) ?_
      refine lv_iadd hx hb d_NA_add_62 ?_
      obtain ⟨q9, hq10, hf⟩ := mz_bd hf
      refine mz_callV E w (k := 1) (As := [.int (x1 + x4)]) (rest := [.int x4, .int (mz_gI t 15 4), .ref (ad 15)]) (c_SI_at hSK l n (x1 + x4) t q9 hq10) (by decide) rfl rfl k_450 k_2 k_740 k_448 k_449 hm_SI_at ⟨⟨rfl, rfl⟩, Nat.le_of_ble_eq_true rfl, Nat.le_of_ble_eq_true rfl⟩ rfl hl.1 rfl (Nat.le_of_ble_eq_true rfl) d_NA_add_63 ⟨Nat.zero_le _, Nat.zero_le _⟩ (st1 := [.int q9.1, .int x4, .int (mz_gI t 15 4), .ref (ad 15)]) rfl (fun H locs w => ?_)
      obtain ⟨q11, hq12, hf⟩ := mz_bd hf
      refine mz_callV E w (k := 15) (As := [.int (mz_gI t 15 4), .int x4, .int q9.1]) (rest := []) (c_NA_write_c hSK l n (mz_gI t 15 4) x4 q9.1 q9.2 q11 hq12) (by decide) rfl rfl k_881 k_9 k_878 k_880 ks_31 hm_NA_write ⟨⟨rfl, rfl⟩, Nat.le_of_ble_eq_true rfl, Nat.le_of_ble_eq_true rfl⟩ rfl hl.1 rfl (Nat.le_of_ble_eq_true rfl) d_NA_add_66 ⟨Nat.zero_le _, Nat.zero_le _⟩ (st1 := []) rfl (fun H locs w => ?_)
      refine lv_iinc (v := (x4 + (1 : Int32))) (lv' := [(4, .int (x4 + (1 : Int32))), (0, .ref (ad 15)), (1, .int x1), (3, .int x3)]) hx hb d_NA_add_69 hl (k := 3) rfl rfl (by decide) rfl (fun ls hl => ?_)
      refine lv_goto (tgt := 42) hx hb d_NA_add_72 (by decide) ?_
      exact ih x1 x3 (x4 + (1 : Int32)) q11 hf _ _ _ w (lv_sub hl [1, 2, 3, 0] rfl)
set_option maxRecDepth 100000 in
set_option maxHeartbeats 4000000 in
theorem c_NA_add_c {SX : State → Heap → Prop} {dC : Nat → ClassId} {dI : Nat → Nat → Nat} {ad en : Nat → Nat} {ca : Nat → ClassId} (hSK : mz_SK SX ad 80) (l : Launch) (n : Nat) (x1 : Int32) (x2 : Int32) (t : mz_St) (res : mz_St) (hf : f_NA_add_c n x1 x2 t = some res) : mz_C SX mz_tC 80 mz_cl dC dI ad en ca l y_NA_add prog_9_method_5_code 5 none (r_NA_add_c) [.ref (ad 15), .int x1, .int x2] t none res := by
  unfold f_NA_add_c at hf
  refine mz_met hSK (by decide) (Nat.le_of_ble_eq_true rfl) ?_
  intro p e s m args below meth c ls E w hl
  obtain ⟨hx, hb, hml, hown, hcx, -, -, hSX, -, -, -⟩ := id E
  have hl : lv_has ls 5 [(0, .ref (ad 15)), (1, .int x1), (2, .int x2)] := hl
  refine lv_aload_n hx hb d_NA_add_0 rfl (lv_at hl 0 rfl) ?_
  obtain ⟨q1, hq2, hf⟩ := mz_bd hf
  refine mz_callV E w (k := 15) (As := []) (rest := []) (c_NA_isFull_c hSK l n t q1 hq2) (by decide) rfl rfl k_871 k_9 k_876 k_869 k_870 hm_NA_isFull ⟨⟨rfl, rfl⟩, Nat.le_of_ble_eq_true rfl, Nat.le_of_ble_eq_true rfl⟩ rfl hl.1 rfl (Nat.le_of_ble_eq_true rfl) d_NA_add_1 ⟨Nat.zero_le _, Nat.zero_le _⟩ (st1 := [.int q1.1]) rfl (fun H locs w => ?_)
  refine lv_if_ne (tgt := 19) hx hb d_NA_add_4 (by decide) (fun hc3 => ?_) (fun hc3 => ?_)
  · have hf := mz_f hc3 hf
    obtain rfl := Option.some.inj hf
    exact mz_vret E w rfl d_NA_add_19
  · have hf := mz_t hc3 hf
    refine lv_aload_n hx hb d_NA_add_7 rfl (lv_at hl 0 rfl) ?_
    refine mz_get E w 15 4 (v := .int (mz_gI q1.2 15 4)) (by decide) rfl rfl ii_6 (by decide) (Nat.le_of_ble_eq_true rfl) k_145 rfl d_NA_add_8 ?_
    refine lv_aload_n hx hb d_NA_add_11 rfl (lv_at hl 0 rfl) ?_
    refine mz_get E w 15 3 (v := .ref (ad 17)) (by decide) rfl rfl ii_6 (by decide) (Nat.le_of_ble_eq_true rfl) k_144 rfl d_NA_add_12 ?_
    refine mz_alen E w 17 (v := (64 : Int32)) (by decide) rfl (by decide) rfl d_NA_add_15 ?_
    refine lv_icmp_lt (tgt := 20) hx hb d_NA_add_16 (by decide) (fun hc4 => ?_) (fun hc4 => ?_)
    · have hf := mz_t hc4 hf
      refine lv_iload_n hx hb d_NA_add_20 rfl (lv_at hl 2 rfl) ?_
      refine lv_iload_n hx hb d_NA_add_21 rfl (lv_at hl 1 rfl) ?_
      refine lv_isub hx hb d_NA_add_22 ?_
      refine lv_bipush (v := (12 : Int32)) hx hb d_NA_add_23 (by decide) ?_
      refine va_mmin hx hb (hml.trans hl.1.symm) hown (hcx.at args _ k_877) (hcx.at args _ k_528) (hcx.at args _ k_10) (hcx.at args _ k_529) (Nat.le_of_ble_eq_true rfl) (Nat.le_of_ble_eq_true rfl) (Nat.zero_le _) (Nat.zero_le _) d_NA_add_25 ?_
      refine lv_istore_n (lv' := [(3, .int (if (12 : Int32) < (x2 - x1) then (12 : Int32) else (x2 - x1))), (0, .ref (ad 15)), (1, .int x1), (2, .int x2)]) hx hb d_NA_add_28 rfl hl (by decide) rfl (fun ls hl => ?_)
      refine lv_aload_n hx hb d_NA_add_29 rfl (lv_at hl 1 rfl) ?_
      refine mz_get E w 15 3 (v := .ref (ad 17)) (by decide) rfl rfl ii_6 (by decide) (Nat.le_of_ble_eq_true rfl) k_144 rfl d_NA_add_30 ?_
      refine lv_aload_n hx hb d_NA_add_33 rfl (lv_at hl 1 rfl) ?_
      refine mz_get E w 15 4 (v := .int (mz_gI q1.2 15 4)) (by decide) rfl rfl ii_6 (by decide) (Nat.le_of_ble_eq_true rfl) k_145 rfl d_NA_add_34 ?_
      refine lv_iload_n hx hb d_NA_add_37 rfl (lv_at hl 0 rfl) ?_
      obtain ⟨hi5, hf⟩ := mz_gd hf
      refine mz_iast E w 17 (x := (if (12 : Int32) < (x2 - x1) then (12 : Int32) else (x2 - x1))) (by decide) rfl hi5 d_NA_add_38 (fun H locs w => ?_)
      obtain ⟨t6, e_t6, hf⟩ := mz_lt hf
      rw [← e_t6] at w
      refine lv_iconst (v := (0 : Int32)) hx hb d_NA_add_39 (by decide) ?_
      refine lv_istore (lv' := [(4, .int (0 : Int32)), (3, .int (if (12 : Int32) < (x2 - x1) then (12 : Int32) else (x2 - x1))), (0, .ref (ad 15)), (1, .int x1), (2, .int x2)]) hx hb d_NA_add_40 hl (by decide) rfl (fun ls hl => ?_)
      exact b_NA_add_c_42 E n n x1 (if (12 : Int32) < (x2 - x1) then (12 : Int32) else (x2 - x1)) (0 : Int32) t6 hf _ _ _ w (lv_sub hl [2, 3, 1, 0] rfl)
    · have hf := mz_f hc4 hf
      obtain rfl := Option.some.inj hf
      exact mz_vret E w rfl d_NA_add_19

/-! MacroHouse$Names.add(II)V -/
abbrev r_NA_add_m : Room := { frames := 1, cells := 0, slots := 0, locals := 24 }
def f_NA_add_m_42 (n : Nat) : Nat → Int32 → Int32 → Int32 → mz_St → Option mz_St
  | 0, _, _, _, _ => none
  | k + 1, x1, x3, x4, t => if x3 ≤ x4 then (mz_let (mz_pI t 27 4 ((mz_gI t 27 4) + (1 : Int32))) fun t8 => some t8) else ((f_SI_at n (x1 + x4) t).bind fun q9 => (f_NA_write_m n (mz_gI t 27 4) x4 q9.1 q9.2).bind fun q11 => (f_NA_add_m_42 n k) x1 x3 (x4 + (1 : Int32)) q11)
def f_NA_add_m (n : Nat) (x1 : Int32) (x2 : Int32) (t : mz_St) : Option mz_St := (f_NA_isFull_m n t).bind fun q1 => if q1.1 = 0 then (if (mz_gI q1.2 27 4) < (16 : Int32) then (if ¬ ((mz_gI q1.2 27 4) < 0 ∨ 16 ≤ (mz_gI q1.2 27 4).toNatClampNeg) then (mz_let (mz_pI q1.2 29 (mz_gI q1.2 27 4).toNatClampNeg (if (12 : Int32) < (x2 - x1) then (12 : Int32) else (x2 - x1))) fun t6 => f_NA_add_m_42 n n x1 (if (12 : Int32) < (x2 - x1) then (12 : Int32) else (x2 - x1)) (0 : Int32) t6) else none) else (some q1.2)) else (some q1.2)
set_option maxRecDepth 100000 in
set_option maxHeartbeats 4000000 in
theorem b_NA_add_m_42 {SX : State → Heap → Prop} {dC : Nat → ClassId} {dI : Nat → Nat → Nat} {ad en : Nat → Nat} {ca : Nat → ClassId} {p : Program} {l : Launch} {e : Env} {s : State} {m : MethodId} {args : Array Value} {below : List Frame} {meth : Method} {c : Code} {res : mz_St} (E : mz_En SX 80 mz_cl dC dI ad ca p s m meth c prog_9_method_5_code 5 "MacroHouse$Names" none) (n : Nat) (k : Nat) : ∀ (x1 : Int32) (x3 : Int32) (x4 : Int32) (t : mz_St), f_NA_add_m_42 n k x1 x3 x4 t = some res → ∀ (H : Heap) (locs : List Loc) (ls : Array Slot), mz_Wd mz_tC 80 mz_cl dC dI ad en ca s t H locs → lv_has ls 5 [(0, .ref (ad 27)), (1, .int x1), (3, .int x3), (4, .int x4)] → W p l e (r_NA_add_m) s m args below meth c H locs 0 0 (MQ below (mz_Q SX mz_tC 80 mz_cl dC dI ad en ca none res) args s 0 0 (mz_A ad 80)) (F0 m 42 ls []) := by
  obtain ⟨hx, hb, hml, hown, hcx, -, -, hSX, -, -, hSK⟩ := id E
  induction k with
  | zero => intro x1 x3 x4 t hf; exact absurd hf (by unfold f_NA_add_m_42; exact fun h => nomatch h)
  | succ k ih =>
    intro x1 x3 x4 t hf H locs ls w hl
    unfold f_NA_add_m_42 at hf
    refine lv_iload hx hb d_NA_add_42 (lv_at hl 3 rfl) ?_
    refine lv_iload_n hx hb d_NA_add_44 rfl (lv_at hl 2 rfl) ?_
    refine lv_icmp_ge (tgt := 75) hx hb d_NA_add_45 (by decide) (fun hc7 => ?_) (fun hc7 => ?_)
    · have hf := mz_t hc7 hf
      refine lv_aload_n hx hb d_NA_add_75 rfl (lv_at hl 0 rfl) ?_
      refine lv_dup hx hb d_NA_add_76 rfl ?_
      refine mz_get E w 27 4 (v := .int (mz_gI t 27 4)) (by decide) rfl rfl ii_6 (by decide) (Nat.le_of_ble_eq_true rfl) k_145 rfl d_NA_add_77 ?_
      refine lv_iconst (v := (1 : Int32)) hx hb d_NA_add_80 (by decide) ?_
      refine lv_iadd hx hb d_NA_add_81 ?_
      refine mz_put E w 27 4 (v := ((mz_gI t 27 4) + (1 : Int32))) (by decide) rfl rfl ii_6 tk_6 nm_6 (by decide) (Nat.le_of_ble_eq_true rfl) k_145 rfl (tk_6 4 (by decide)) rfl rfl rfl d_NA_add_82 (fun H locs w => ?_)
      obtain ⟨t8, e_t8, hf⟩ := mz_lt hf
      rw [← e_t8] at w
      obtain rfl := Option.some.inj hf
      exact mz_vret E w rfl d_NA_add_85
    · have hf := mz_f hc7 hf
      refine lv_aload_n hx hb d_NA_add_48 rfl (lv_at hl 0 rfl) ?_
      refine lv_aload_n hx hb d_NA_add_49 rfl (lv_at hl 0 rfl) ?_
      refine mz_get E w 27 4 (v := .int (mz_gI t 27 4)) (by decide) rfl rfl ii_6 (by decide) (Nat.le_of_ble_eq_true rfl) k_145 rfl d_NA_add_50 ?_
      refine lv_iload hx hb d_NA_add_53 (lv_at hl 3 rfl) ?_
      refine lv_aload_n hx hb d_NA_add_55 rfl (lv_at hl 0 rfl) ?_
      refine mz_get E w 27 0 (v := .ref (ad 1)) (by decide) rfl rfl ii_6 (by decide) (Nat.le_of_ble_eq_true rfl) k_141 rfl d_NA_add_56 ?_
      refine lv_iload_n hx hb d_NA_add_59 rfl (lv_at hl 1 rfl) ?_
      refine lv_iload hx hb d_NA_add_60 (lv_at hl 3 rfl) ?_
      refine lv_iadd hx hb d_NA_add_62 ?_
      obtain ⟨q9, hq10, hf⟩ := mz_bd hf
      refine mz_callV E w (k := 1) (As := [.int (x1 + x4)]) (rest := [.int x4, .int (mz_gI t 27 4), .ref (ad 27)]) (c_SI_at hSK l n (x1 + x4) t q9 hq10) (by decide) rfl rfl k_450 k_2 k_740 k_448 k_449 hm_SI_at ⟨⟨rfl, rfl⟩, Nat.le_of_ble_eq_true rfl, Nat.le_of_ble_eq_true rfl⟩ rfl hl.1 rfl (Nat.le_of_ble_eq_true rfl) d_NA_add_63 ⟨Nat.zero_le _, Nat.zero_le _⟩ (st1 := [.int q9.1, .int x4, .int (mz_gI t 27 4), .ref (ad 27)]) rfl (fun H locs w => ?_)
      obtain ⟨q11, hq12, hf⟩ := mz_bd hf
      refine mz_callV E w (k := 27) (As := [.int (mz_gI t 27 4), .int x4, .int q9.1]) (rest := []) (c_NA_write_m hSK l n (mz_gI t 27 4) x4 q9.1 q9.2 q11 hq12) (by decide) rfl rfl k_881 k_9 k_878 k_880 ks_31 hm_NA_write ⟨⟨rfl, rfl⟩, Nat.le_of_ble_eq_true rfl, Nat.le_of_ble_eq_true rfl⟩ rfl hl.1 rfl (Nat.le_of_ble_eq_true rfl) d_NA_add_66 ⟨Nat.zero_le _, Nat.zero_le _⟩ (st1 := []) rfl (fun H locs w => ?_)
      refine lv_iinc (v := (x4 + (1 : Int32))) (lv' := [(4, .int (x4 + (1 : Int32))), (0, .ref (ad 27)), (1, .int x1), (3, .int x3)]) hx hb d_NA_add_69 hl (k := 3) rfl rfl (by decide) rfl (fun ls hl => ?_)
      refine lv_goto (tgt := 42) hx hb d_NA_add_72 (by decide) ?_
      exact ih x1 x3 (x4 + (1 : Int32)) q11 hf _ _ _ w (lv_sub hl [1, 2, 3, 0] rfl)
set_option maxRecDepth 100000 in
set_option maxHeartbeats 4000000 in
theorem c_NA_add_m {SX : State → Heap → Prop} {dC : Nat → ClassId} {dI : Nat → Nat → Nat} {ad en : Nat → Nat} {ca : Nat → ClassId} (hSK : mz_SK SX ad 80) (l : Launch) (n : Nat) (x1 : Int32) (x2 : Int32) (t : mz_St) (res : mz_St) (hf : f_NA_add_m n x1 x2 t = some res) : mz_C SX mz_tC 80 mz_cl dC dI ad en ca l y_NA_add prog_9_method_5_code 5 none (r_NA_add_m) [.ref (ad 27), .int x1, .int x2] t none res := by
  unfold f_NA_add_m at hf
  refine mz_met hSK (by decide) (Nat.le_of_ble_eq_true rfl) ?_
  intro p e s m args below meth c ls E w hl
  obtain ⟨hx, hb, hml, hown, hcx, -, -, hSX, -, -, -⟩ := id E
  have hl : lv_has ls 5 [(0, .ref (ad 27)), (1, .int x1), (2, .int x2)] := hl
  refine lv_aload_n hx hb d_NA_add_0 rfl (lv_at hl 0 rfl) ?_
  obtain ⟨q1, hq2, hf⟩ := mz_bd hf
  refine mz_callV E w (k := 27) (As := []) (rest := []) (c_NA_isFull_m hSK l n t q1 hq2) (by decide) rfl rfl k_871 k_9 k_876 k_869 k_870 hm_NA_isFull ⟨⟨rfl, rfl⟩, Nat.le_of_ble_eq_true rfl, Nat.le_of_ble_eq_true rfl⟩ rfl hl.1 rfl (Nat.le_of_ble_eq_true rfl) d_NA_add_1 ⟨Nat.zero_le _, Nat.zero_le _⟩ (st1 := [.int q1.1]) rfl (fun H locs w => ?_)
  refine lv_if_ne (tgt := 19) hx hb d_NA_add_4 (by decide) (fun hc3 => ?_) (fun hc3 => ?_)
  · have hf := mz_f hc3 hf
    obtain rfl := Option.some.inj hf
    exact mz_vret E w rfl d_NA_add_19
  · have hf := mz_t hc3 hf
    refine lv_aload_n hx hb d_NA_add_7 rfl (lv_at hl 0 rfl) ?_
    refine mz_get E w 27 4 (v := .int (mz_gI q1.2 27 4)) (by decide) rfl rfl ii_6 (by decide) (Nat.le_of_ble_eq_true rfl) k_145 rfl d_NA_add_8 ?_
    refine lv_aload_n hx hb d_NA_add_11 rfl (lv_at hl 0 rfl) ?_
    refine mz_get E w 27 3 (v := .ref (ad 29)) (by decide) rfl rfl ii_6 (by decide) (Nat.le_of_ble_eq_true rfl) k_144 rfl d_NA_add_12 ?_
    refine mz_alen E w 29 (v := (16 : Int32)) (by decide) rfl (by decide) rfl d_NA_add_15 ?_
    refine lv_icmp_lt (tgt := 20) hx hb d_NA_add_16 (by decide) (fun hc4 => ?_) (fun hc4 => ?_)
    · have hf := mz_t hc4 hf
      refine lv_iload_n hx hb d_NA_add_20 rfl (lv_at hl 2 rfl) ?_
      refine lv_iload_n hx hb d_NA_add_21 rfl (lv_at hl 1 rfl) ?_
      refine lv_isub hx hb d_NA_add_22 ?_
      refine lv_bipush (v := (12 : Int32)) hx hb d_NA_add_23 (by decide) ?_
      refine va_mmin hx hb (hml.trans hl.1.symm) hown (hcx.at args _ k_877) (hcx.at args _ k_528) (hcx.at args _ k_10) (hcx.at args _ k_529) (Nat.le_of_ble_eq_true rfl) (Nat.le_of_ble_eq_true rfl) (Nat.zero_le _) (Nat.zero_le _) d_NA_add_25 ?_
      refine lv_istore_n (lv' := [(3, .int (if (12 : Int32) < (x2 - x1) then (12 : Int32) else (x2 - x1))), (0, .ref (ad 27)), (1, .int x1), (2, .int x2)]) hx hb d_NA_add_28 rfl hl (by decide) rfl (fun ls hl => ?_)
      refine lv_aload_n hx hb d_NA_add_29 rfl (lv_at hl 1 rfl) ?_
      refine mz_get E w 27 3 (v := .ref (ad 29)) (by decide) rfl rfl ii_6 (by decide) (Nat.le_of_ble_eq_true rfl) k_144 rfl d_NA_add_30 ?_
      refine lv_aload_n hx hb d_NA_add_33 rfl (lv_at hl 1 rfl) ?_
      refine mz_get E w 27 4 (v := .int (mz_gI q1.2 27 4)) (by decide) rfl rfl ii_6 (by decide) (Nat.le_of_ble_eq_true rfl) k_145 rfl d_NA_add_34 ?_
      refine lv_iload_n hx hb d_NA_add_37 rfl (lv_at hl 0 rfl) ?_
      obtain ⟨hi5, hf⟩ := mz_gd hf
      refine mz_iast E w 29 (x := (if (12 : Int32) < (x2 - x1) then (12 : Int32) else (x2 - x1))) (by decide) rfl hi5 d_NA_add_38 (fun H locs w => ?_)
      obtain ⟨t6, e_t6, hf⟩ := mz_lt hf
      rw [← e_t6] at w
      refine lv_iconst (v := (0 : Int32)) hx hb d_NA_add_39 (by decide) ?_
      refine lv_istore (lv' := [(4, .int (0 : Int32)), (3, .int (if (12 : Int32) < (x2 - x1) then (12 : Int32) else (x2 - x1))), (0, .ref (ad 27)), (1, .int x1), (2, .int x2)]) hx hb d_NA_add_40 hl (by decide) rfl (fun ls hl => ?_)
      exact b_NA_add_m_42 E n n x1 (if (12 : Int32) < (x2 - x1) then (12 : Int32) else (x2 - x1)) (0 : Int32) t6 hf _ _ _ w (lv_sub hl [2, 3, 1, 0] rfl)
    · have hf := mz_f hc4 hf
      obtain rfl := Option.some.inj hf
      exact mz_vret E w rfl d_NA_add_19

/-! MacroHouse$Names.sign(II)I -/
abbrev r_NA_sign_c : Room := { frames := 1, cells := 0, slots := 0, locals := 21 }
def f_NA_sign_c (n : Nat) (x1 : Int32) (x2 : Int32) (t : mz_St) : Option (Int32 × mz_St) := if x2 < 0 then (some ((-1 : Int32), t)) else ((f_NA_lengthOf_c n x1 t).bind fun q2 => if x2 < q2.1 then (if ((x1 * (12 : Int32)) + x2) < 0 then (some ((-1 : Int32), q2.2)) else (if (768 : Int32) ≤ ((x1 * (12 : Int32)) + x2) then (some ((-1 : Int32), q2.2)) else (if ¬ (((x1 * (12 : Int32)) + x2) < 0 ∨ 768 ≤ ((x1 * (12 : Int32)) + x2).toNatClampNeg) then (some ((mz_gI q2.2 16 ((x1 * (12 : Int32)) + x2).toNatClampNeg), q2.2)) else none))) else (some ((-1 : Int32), q2.2)))
set_option maxRecDepth 100000 in
set_option maxHeartbeats 4000000 in
theorem c_NA_sign_c {SX : State → Heap → Prop} {dC : Nat → ClassId} {dI : Nat → Nat → Nat} {ad en : Nat → Nat} {ca : Nat → ClassId} (hSK : mz_SK SX ad 80) (l : Launch) (n : Nat) (x1 : Int32) (x2 : Int32) (t : mz_St) (res : (Int32 × mz_St)) (hf : f_NA_sign_c n x1 x2 t = some res) : mz_C SX mz_tC 80 mz_cl dC dI ad en ca l y_NA_sign prog_9_method_8_code 4 (some (.int)) (r_NA_sign_c) [.ref (ad 15), .int x1, .int x2] t (some (.int res.1)) res.2 := by
  unfold f_NA_sign_c at hf
  refine mz_met hSK (by decide) (Nat.le_of_ble_eq_true rfl) ?_
  intro p e s m args below meth c ls E w hl
  obtain ⟨hx, hb, hml, hown, hcx, -, -, hSX, -, -, -⟩ := id E
  have hl : lv_has ls 4 [(0, .ref (ad 15)), (1, .int x1), (2, .int x2)] := hl
  refine lv_iload_n hx hb d_NA_sign_0 rfl (lv_at hl 2 rfl) ?_
  refine lv_if_lt (tgt := 13) hx hb d_NA_sign_1 (by decide) (fun hc1 => ?_) (fun hc1 => ?_)
  · have hf := mz_t hc1 hf
    refine lv_iconst (v := (-1 : Int32)) hx hb d_NA_sign_13 (by decide) ?_
    obtain rfl := Option.some.inj hf
    exact mz_iret E w rfl d_NA_sign_14
  · have hf := mz_f hc1 hf
    refine lv_iload_n hx hb d_NA_sign_4 rfl (lv_at hl 2 rfl) ?_
    refine lv_aload_n hx hb d_NA_sign_5 rfl (lv_at hl 0 rfl) ?_
    refine lv_iload_n hx hb d_NA_sign_6 rfl (lv_at hl 1 rfl) ?_
    obtain ⟨q2, hq3, hf⟩ := mz_bd hf
    refine mz_callV E w (k := 15) (As := [.int x1]) (rest := [.int x2]) (c_NA_lengthOf_c hSK l n x1 t q2 hq3) (by decide) rfl rfl k_739 k_9 k_736 k_738 ks_18 hm_NA_lengthOf ⟨⟨rfl, rfl⟩, Nat.le_of_ble_eq_true rfl, Nat.le_of_ble_eq_true rfl⟩ rfl hl.1 rfl (Nat.le_of_ble_eq_true rfl) d_NA_sign_7 ⟨Nat.zero_le _, Nat.zero_le _⟩ (st1 := [.int q2.1, .int x2]) rfl (fun H locs w => ?_)
    refine lv_icmp_lt (tgt := 15) hx hb d_NA_sign_10 (by decide) (fun hc4 => ?_) (fun hc4 => ?_)
    · have hf := mz_t hc4 hf
      refine lv_iload_n hx hb d_NA_sign_15 rfl (lv_at hl 1 rfl) ?_
      refine lv_bipush (v := (12 : Int32)) hx hb d_NA_sign_16 (by decide) ?_
      refine lv_imul hx hb d_NA_sign_18 ?_
      refine lv_iload_n hx hb d_NA_sign_19 rfl (lv_at hl 2 rfl) ?_
      refine lv_iadd hx hb d_NA_sign_20 ?_
      refine lv_istore_n (lv' := [(3, .int ((x1 * (12 : Int32)) + x2)), (0, .ref (ad 15)), (1, .int x1), (2, .int x2)]) hx hb d_NA_sign_21 rfl hl (by decide) rfl (fun ls hl => ?_)
      refine lv_iload_n hx hb d_NA_sign_22 rfl (lv_at hl 0 rfl) ?_
      refine lv_if_lt (tgt := 44) hx hb d_NA_sign_23 (by decide) (fun hc5 => ?_) (fun hc5 => ?_)
      · have hf := mz_t hc5 hf
        refine lv_iconst (v := (-1 : Int32)) hx hb d_NA_sign_44 (by decide) ?_
        obtain rfl := Option.some.inj hf
        exact mz_iret E w rfl d_NA_sign_45
      · have hf := mz_f hc5 hf
        refine lv_iload_n hx hb d_NA_sign_26 rfl (lv_at hl 0 rfl) ?_
        refine lv_aload_n hx hb d_NA_sign_27 rfl (lv_at hl 1 rfl) ?_
        refine mz_get E w 15 2 (v := .ref (ad 16)) (by decide) rfl rfl ii_6 (by decide) (Nat.le_of_ble_eq_true rfl) k_143 rfl d_NA_sign_28 ?_
        refine mz_alen E w 16 (v := (768 : Int32)) (by decide) rfl (by decide) rfl d_NA_sign_31 ?_
        refine lv_icmp_ge (tgt := 44) hx hb d_NA_sign_32 (by decide) (fun hc6 => ?_) (fun hc6 => ?_)
        · have hf := mz_t hc6 hf
          refine lv_iconst (v := (-1 : Int32)) hx hb d_NA_sign_44 (by decide) ?_
          obtain rfl := Option.some.inj hf
          exact mz_iret E w rfl d_NA_sign_45
        · have hf := mz_f hc6 hf
          refine lv_aload_n hx hb d_NA_sign_35 rfl (lv_at hl 1 rfl) ?_
          refine mz_get E w 15 2 (v := .ref (ad 16)) (by decide) rfl rfl ii_6 (by decide) (Nat.le_of_ble_eq_true rfl) k_143 rfl d_NA_sign_36 ?_
          refine lv_iload_n hx hb d_NA_sign_39 rfl (lv_at hl 0 rfl) ?_
          obtain ⟨hi7, hf⟩ := mz_gd hf
          refine mz_bald E w 16 (by decide) rfl hi7 d_NA_sign_40 ?_
          refine lv_goto (tgt := 45) hx hb d_NA_sign_41 (by decide) ?_
          obtain rfl := Option.some.inj hf
          exact mz_iret E w rfl d_NA_sign_45
    · have hf := mz_f hc4 hf
      refine lv_iconst (v := (-1 : Int32)) hx hb d_NA_sign_13 (by decide) ?_
      obtain rfl := Option.some.inj hf
      exact mz_iret E w rfl d_NA_sign_14

/-! MacroHouse$Names.sign(II)I -/
abbrev r_NA_sign_m : Room := { frames := 1, cells := 0, slots := 0, locals := 21 }
def f_NA_sign_m (n : Nat) (x1 : Int32) (x2 : Int32) (t : mz_St) : Option (Int32 × mz_St) := if x2 < 0 then (some ((-1 : Int32), t)) else ((f_NA_lengthOf_m n x1 t).bind fun q2 => if x2 < q2.1 then (if ((x1 * (12 : Int32)) + x2) < 0 then (some ((-1 : Int32), q2.2)) else (if (192 : Int32) ≤ ((x1 * (12 : Int32)) + x2) then (some ((-1 : Int32), q2.2)) else (if ¬ (((x1 * (12 : Int32)) + x2) < 0 ∨ 192 ≤ ((x1 * (12 : Int32)) + x2).toNatClampNeg) then (some ((mz_gI q2.2 28 ((x1 * (12 : Int32)) + x2).toNatClampNeg), q2.2)) else none))) else (some ((-1 : Int32), q2.2)))
set_option maxRecDepth 100000 in
set_option maxHeartbeats 4000000 in
theorem c_NA_sign_m {SX : State → Heap → Prop} {dC : Nat → ClassId} {dI : Nat → Nat → Nat} {ad en : Nat → Nat} {ca : Nat → ClassId} (hSK : mz_SK SX ad 80) (l : Launch) (n : Nat) (x1 : Int32) (x2 : Int32) (t : mz_St) (res : (Int32 × mz_St)) (hf : f_NA_sign_m n x1 x2 t = some res) : mz_C SX mz_tC 80 mz_cl dC dI ad en ca l y_NA_sign prog_9_method_8_code 4 (some (.int)) (r_NA_sign_m) [.ref (ad 27), .int x1, .int x2] t (some (.int res.1)) res.2 := by
  unfold f_NA_sign_m at hf
  refine mz_met hSK (by decide) (Nat.le_of_ble_eq_true rfl) ?_
  intro p e s m args below meth c ls E w hl
  obtain ⟨hx, hb, hml, hown, hcx, -, -, hSX, -, -, -⟩ := id E
  have hl : lv_has ls 4 [(0, .ref (ad 27)), (1, .int x1), (2, .int x2)] := hl
  refine lv_iload_n hx hb d_NA_sign_0 rfl (lv_at hl 2 rfl) ?_
  refine lv_if_lt (tgt := 13) hx hb d_NA_sign_1 (by decide) (fun hc1 => ?_) (fun hc1 => ?_)
  · have hf := mz_t hc1 hf
    refine lv_iconst (v := (-1 : Int32)) hx hb d_NA_sign_13 (by decide) ?_
    obtain rfl := Option.some.inj hf
    exact mz_iret E w rfl d_NA_sign_14
  · have hf := mz_f hc1 hf
    refine lv_iload_n hx hb d_NA_sign_4 rfl (lv_at hl 2 rfl) ?_
    refine lv_aload_n hx hb d_NA_sign_5 rfl (lv_at hl 0 rfl) ?_
    refine lv_iload_n hx hb d_NA_sign_6 rfl (lv_at hl 1 rfl) ?_
    obtain ⟨q2, hq3, hf⟩ := mz_bd hf
    refine mz_callV E w (k := 27) (As := [.int x1]) (rest := [.int x2]) (c_NA_lengthOf_m hSK l n x1 t q2 hq3) (by decide) rfl rfl k_739 k_9 k_736 k_738 ks_18 hm_NA_lengthOf ⟨⟨rfl, rfl⟩, Nat.le_of_ble_eq_true rfl, Nat.le_of_ble_eq_true rfl⟩ rfl hl.1 rfl (Nat.le_of_ble_eq_true rfl) d_NA_sign_7 ⟨Nat.zero_le _, Nat.zero_le _⟩ (st1 := [.int q2.1, .int x2]) rfl (fun H locs w => ?_)
    refine lv_icmp_lt (tgt := 15) hx hb d_NA_sign_10 (by decide) (fun hc4 => ?_) (fun hc4 => ?_)
    · have hf := mz_t hc4 hf
      refine lv_iload_n hx hb d_NA_sign_15 rfl (lv_at hl 1 rfl) ?_
      refine lv_bipush (v := (12 : Int32)) hx hb d_NA_sign_16 (by decide) ?_
      refine lv_imul hx hb d_NA_sign_18 ?_
      refine lv_iload_n hx hb d_NA_sign_19 rfl (lv_at hl 2 rfl) ?_
      refine lv_iadd hx hb d_NA_sign_20 ?_
      refine lv_istore_n (lv' := [(3, .int ((x1 * (12 : Int32)) + x2)), (0, .ref (ad 27)), (1, .int x1), (2, .int x2)]) hx hb d_NA_sign_21 rfl hl (by decide) rfl (fun ls hl => ?_)
      refine lv_iload_n hx hb d_NA_sign_22 rfl (lv_at hl 0 rfl) ?_
      refine lv_if_lt (tgt := 44) hx hb d_NA_sign_23 (by decide) (fun hc5 => ?_) (fun hc5 => ?_)
      · have hf := mz_t hc5 hf
        refine lv_iconst (v := (-1 : Int32)) hx hb d_NA_sign_44 (by decide) ?_
        obtain rfl := Option.some.inj hf
        exact mz_iret E w rfl d_NA_sign_45
      · have hf := mz_f hc5 hf
        refine lv_iload_n hx hb d_NA_sign_26 rfl (lv_at hl 0 rfl) ?_
        refine lv_aload_n hx hb d_NA_sign_27 rfl (lv_at hl 1 rfl) ?_
        refine mz_get E w 27 2 (v := .ref (ad 28)) (by decide) rfl rfl ii_6 (by decide) (Nat.le_of_ble_eq_true rfl) k_143 rfl d_NA_sign_28 ?_
        refine mz_alen E w 28 (v := (192 : Int32)) (by decide) rfl (by decide) rfl d_NA_sign_31 ?_
        refine lv_icmp_ge (tgt := 44) hx hb d_NA_sign_32 (by decide) (fun hc6 => ?_) (fun hc6 => ?_)
        · have hf := mz_t hc6 hf
          refine lv_iconst (v := (-1 : Int32)) hx hb d_NA_sign_44 (by decide) ?_
          obtain rfl := Option.some.inj hf
          exact mz_iret E w rfl d_NA_sign_45
        · have hf := mz_f hc6 hf
          refine lv_aload_n hx hb d_NA_sign_35 rfl (lv_at hl 1 rfl) ?_
          refine mz_get E w 27 2 (v := .ref (ad 28)) (by decide) rfl rfl ii_6 (by decide) (Nat.le_of_ble_eq_true rfl) k_143 rfl d_NA_sign_36 ?_
          refine lv_iload_n hx hb d_NA_sign_39 rfl (lv_at hl 0 rfl) ?_
          obtain ⟨hi7, hf⟩ := mz_gd hf
          refine mz_bald E w 28 (by decide) rfl hi7 d_NA_sign_40 ?_
          refine lv_goto (tgt := 45) hx hb d_NA_sign_41 (by decide) ?_
          obtain rfl := Option.some.inj hf
          exact mz_iret E w rfl d_NA_sign_45
    · have hf := mz_f hc4 hf
      refine lv_iconst (v := (-1 : Int32)) hx hb d_NA_sign_13 (by decide) ?_
      obtain rfl := Option.some.inj hf
      exact mz_iret E w rfl d_NA_sign_14

/-! MacroHouse$Names.remove(I)V -/
abbrev r_NA_remove_c : Room := { frames := 2, cells := 0, slots := 0, locals := 44 }
def f_NA_remove_c_79 (n : Nat) (t : mz_St) : Option mz_St := mz_let (mz_pI t 15 4 (if (0 : Int32) < ((mz_gI t 15 4) - (1 : Int32)) then ((mz_gI t 15 4) - (1 : Int32)) else (0 : Int32))) fun t2 => some t2
def f_NA_remove_c_43 (n : Nat) (K2 : Int32 → mz_St → Option mz_St) : Nat → Int32 → Int32 → mz_St → Option mz_St
  | 0, _, _, _ => none
  | k + 1, x2, x3, t => if ¬ (x2 < 0 ∨ 64 ≤ x2.toNatClampNeg) then (if (mz_gI t 17 x2.toNatClampNeg) ≤ x3 then (K2 (x2 + (1 : Int32)) t) else ((f_NA_sign_c n (x2 + (1 : Int32)) x3 t).bind fun q10 => (f_NA_write_c n x2 x3 q10.1 q10.2).bind fun q12 => (f_NA_remove_c_43 n K2 k) x2 (x3 + (1 : Int32)) q12)) else none
def f_NA_remove_c_2 (n : Nat) : Nat → Int32 → mz_St → Option mz_St
  | 0, _, _ => none
  | k + 1, x2, t => if (mz_gI t 15 4) ≤ (x2 + (1 : Int32)) then (f_NA_remove_c_79 n  t) else (if x2 < 0 then (f_NA_remove_c_79 n  t) else (if (64 : Int32) ≤ (x2 + (1 : Int32)) then (f_NA_remove_c_79 n  t) else (if ¬ ((x2 + (1 : Int32)) < 0 ∨ 64 ≤ (x2 + (1 : Int32)).toNatClampNeg) then (if ¬ (x2 < 0 ∨ 64 ≤ x2.toNatClampNeg) then (mz_let (mz_pI t 17 x2.toNatClampNeg (mz_gI t 17 (x2 + (1 : Int32)).toNatClampNeg)) fun t7 => f_NA_remove_c_43 n (f_NA_remove_c_2 n k) n x2 (0 : Int32) t7) else none) else none)))
def f_NA_remove_c (n : Nat) (x1 : Int32) (t : mz_St) : Option mz_St := f_NA_remove_c_2 n n x1 t
set_option maxRecDepth 100000 in
set_option maxHeartbeats 4000000 in
theorem b_NA_remove_c_79 {SX : State → Heap → Prop} {dC : Nat → ClassId} {dI : Nat → Nat → Nat} {ad en : Nat → Nat} {ca : Nat → ClassId} {p : Program} {l : Launch} {e : Env} {s : State} {m : MethodId} {args : Array Value} {below : List Frame} {meth : Method} {c : Code} {res : mz_St} (E : mz_En SX 80 mz_cl dC dI ad ca p s m meth c prog_9_method_6_code 4 "MacroHouse$Names" none) (n : Nat) : ∀ (t : mz_St), f_NA_remove_c_79 n t = some res → ∀ (H : Heap) (locs : List Loc) (ls : Array Slot), mz_Wd mz_tC 80 mz_cl dC dI ad en ca s t H locs → lv_has ls 4 [(0, .ref (ad 15))] → W p l e (r_NA_remove_c) s m args below meth c H locs 0 0 (MQ below (mz_Q SX mz_tC 80 mz_cl dC dI ad en ca none res) args s 0 0 (mz_A ad 80)) (F0 m 79 ls []) := by
  obtain ⟨hx, hb, hml, hown, hcx, -, -, hSX, -, -, hSK⟩ := id E
  intro t hf H locs ls w hl
  unfold f_NA_remove_c_79 at hf
  refine lv_aload_n hx hb d_NA_remove_79 rfl (lv_at hl 0 rfl) ?_
  refine lv_iconst (v := (0 : Int32)) hx hb d_NA_remove_80 (by decide) ?_
  refine lv_aload_n hx hb d_NA_remove_81 rfl (lv_at hl 0 rfl) ?_
  refine mz_get E w 15 4 (v := .int (mz_gI t 15 4)) (by decide) rfl rfl ii_6 (by decide) (Nat.le_of_ble_eq_true rfl) k_145 rfl d_NA_remove_82 ?_
  refine lv_iconst (v := (1 : Int32)) hx hb d_NA_remove_85 (by decide) ?_
  refine lv_isub hx hb d_NA_remove_86 ?_
  refine va_mmax hx hb (hml.trans hl.1.symm) hown (hcx.at args _ k_138) (hcx.at args _ k_139) (hcx.at args _ k_10) (hcx.at args _ k_140) (Nat.le_of_ble_eq_true rfl) (Nat.le_of_ble_eq_true rfl) (Nat.zero_le _) (Nat.zero_le _) d_NA_remove_87 ?_
  refine mz_put E w 15 4 (v := (if (0 : Int32) < ((mz_gI t 15 4) - (1 : Int32)) then ((mz_gI t 15 4) - (1 : Int32)) else (0 : Int32))) (by decide) rfl rfl ii_6 tk_6 nm_6 (by decide) (Nat.le_of_ble_eq_true rfl) k_145 rfl (tk_6 4 (by decide)) rfl rfl rfl d_NA_remove_90 (fun H locs w => ?_)
  obtain ⟨t2, e_t2, hf⟩ := mz_lt hf
  rw [← e_t2] at w
  obtain rfl := Option.some.inj hf
  exact mz_vret E w rfl d_NA_remove_93
set_option maxRecDepth 100000 in
set_option maxHeartbeats 4000000 in
theorem b_NA_remove_c_43 {SX : State → Heap → Prop} {dC : Nat → ClassId} {dI : Nat → Nat → Nat} {ad en : Nat → Nat} {ca : Nat → ClassId} {p : Program} {l : Launch} {e : Env} {s : State} {m : MethodId} {args : Array Value} {below : List Frame} {meth : Method} {c : Code} {res : mz_St} (E : mz_En SX 80 mz_cl dC dI ad ca p s m meth c prog_9_method_6_code 4 "MacroHouse$Names" none) (n : Nat) (K2 : Int32 → mz_St → Option mz_St) (hK2 : ∀ (x2 : Int32) (t : mz_St), K2 x2 t = some res → ∀ (H : Heap) (locs : List Loc) (ls : Array Slot), mz_Wd mz_tC 80 mz_cl dC dI ad en ca s t H locs → lv_has ls 4 [(0, .ref (ad 15)), (2, .int x2)] → W p l e (r_NA_remove_c) s m args below meth c H locs 0 0 (MQ below (mz_Q SX mz_tC 80 mz_cl dC dI ad en ca none res) args s 0 0 (mz_A ad 80)) (F0 m 2 ls [])) (k : Nat) : ∀ (x2 : Int32) (x3 : Int32) (t : mz_St), f_NA_remove_c_43 n K2 k x2 x3 t = some res → ∀ (H : Heap) (locs : List Loc) (ls : Array Slot), mz_Wd mz_tC 80 mz_cl dC dI ad en ca s t H locs → lv_has ls 4 [(0, .ref (ad 15)), (2, .int x2), (3, .int x3)] → W p l e (r_NA_remove_c) s m args below meth c H locs 0 0 (MQ below (mz_Q SX mz_tC 80 mz_cl dC dI ad en ca none res) args s 0 0 (mz_A ad 80)) (F0 m 43 ls []) := by
  obtain ⟨hx, hb, hml, hown, hcx, -, -, hSX, -, -, hSK⟩ := id E
  induction k with
  | zero => intro x2 x3 t hf; exact absurd hf (by unfold f_NA_remove_c_43; exact fun h => nomatch h)
  | succ k ih =>
    intro x2 x3 t hf H locs ls w hl
    unfold f_NA_remove_c_43 at hf
    refine lv_iload_n hx hb d_NA_remove_43 rfl (lv_at hl 2 rfl) ?_
    refine lv_aload_n hx hb d_NA_remove_44 rfl (lv_at hl 0 rfl) ?_
    refine mz_get E w 15 3 (v := .ref (ad 17)) (by decide) rfl rfl ii_6 (by decide) (Nat.le_of_ble_eq_true rfl) k_144 rfl d_NA_remove_45 ?_
    refine lv_iload_n hx hb d_NA_remove_48 rfl (lv_at hl 1 rfl) ?_
    obtain ⟨hi8, hf⟩ := mz_gd hf
    refine mz_iald E w 17 (by decide) rfl hi8 d_NA_remove_49 ?_
    refine lv_icmp_ge (tgt := 73) hx hb d_NA_remove_50 (by decide) (fun hc9 => ?_) (fun hc9 => ?_)
    · have hf := mz_t hc9 hf
      refine lv_iinc (v := (x2 + (1 : Int32))) (lv' := [(2, .int (x2 + (1 : Int32))), (0, .ref (ad 15)), (3, .int x3)]) hx hb d_NA_remove_73 hl (k := 1) rfl rfl (by decide) rfl (fun ls hl => ?_)
      refine lv_goto (tgt := 2) hx hb d_NA_remove_76 (by decide) ?_
      exact hK2 (x2 + (1 : Int32)) t hf _ _ _ w (lv_sub hl [1, 0] rfl)
    · have hf := mz_f hc9 hf
      refine lv_aload_n hx hb d_NA_remove_53 rfl (lv_at hl 0 rfl) ?_
      refine lv_iload_n hx hb d_NA_remove_54 rfl (lv_at hl 1 rfl) ?_
      refine lv_iload_n hx hb d_NA_remove_55 rfl (lv_at hl 2 rfl) ?_
      refine lv_aload_n hx hb d_NA_remove_56 rfl (lv_at hl 0 rfl) ?_
      refine lv_iload_n hx hb d_NA_remove_57 rfl (lv_at hl 1 rfl) ?_
      refine lv_iconst (v := (1 : Int32)) hx hb d_NA_remove_58 (by decide) ?_
      refine lv_iadd hx hb d_NA_remove_59 ?_
      refine lv_iload_n hx hb d_NA_remove_60 rfl (lv_at hl 2 rfl) ?_
      obtain ⟨q10, hq11, hf⟩ := mz_bd hf
      refine mz_callV E w (k := 15) (As := [.int (x2 + (1 : Int32)), .int x3]) (rest := [.int x3, .int x2, .ref (ad 15)]) (c_NA_sign_c hSK l n (x2 + (1 : Int32)) x3 t q10 hq11) (by decide) rfl rfl k_897 k_9 k_894 k_895 k_896 hm_NA_sign ⟨⟨rfl, rfl⟩, Nat.le_of_ble_eq_true rfl, Nat.le_of_ble_eq_true rfl⟩ rfl hl.1 rfl (Nat.le_of_ble_eq_true rfl) d_NA_remove_61 ⟨Nat.zero_le _, Nat.zero_le _⟩ (st1 := [.int q10.1, .int x3, .int x2, .ref (ad 15)]) rfl (fun H locs w => ?_)
      obtain ⟨q12, hq13, hf⟩ := mz_bd hf
      refine mz_callV E w (k := 15) (As := [.int x2, .int x3, .int q10.1]) (rest := []) (c_NA_write_c hSK l n x2 x3 q10.1 q10.2 q12 hq13) (by decide) rfl rfl k_881 k_9 k_878 k_880 ks_31 hm_NA_write ⟨⟨rfl, rfl⟩, Nat.le_of_ble_eq_true rfl, Nat.le_of_ble_eq_true rfl⟩ rfl hl.1 rfl (Nat.le_of_ble_eq_true rfl) d_NA_remove_64 ⟨Nat.zero_le _, Nat.zero_le _⟩ (st1 := []) rfl (fun H locs w => ?_)
      refine lv_iinc (v := (x3 + (1 : Int32))) (lv' := [(3, .int (x3 + (1 : Int32))), (0, .ref (ad 15)), (2, .int x2)]) hx hb d_NA_remove_67 hl (k := 2) rfl rfl (by decide) rfl (fun ls hl => ?_)
      refine lv_goto (tgt := 43) hx hb d_NA_remove_70 (by decide) ?_
      exact ih x2 (x3 + (1 : Int32)) q12 hf _ _ _ w (lv_sub hl [1, 2, 0] rfl)
set_option maxRecDepth 100000 in
set_option maxHeartbeats 4000000 in
theorem b_NA_remove_c_2 {SX : State → Heap → Prop} {dC : Nat → ClassId} {dI : Nat → Nat → Nat} {ad en : Nat → Nat} {ca : Nat → ClassId} {p : Program} {l : Launch} {e : Env} {s : State} {m : MethodId} {args : Array Value} {below : List Frame} {meth : Method} {c : Code} {res : mz_St} (E : mz_En SX 80 mz_cl dC dI ad ca p s m meth c prog_9_method_6_code 4 "MacroHouse$Names" none) (n : Nat) (k : Nat) : ∀ (x2 : Int32) (t : mz_St), f_NA_remove_c_2 n k x2 t = some res → ∀ (H : Heap) (locs : List Loc) (ls : Array Slot), mz_Wd mz_tC 80 mz_cl dC dI ad en ca s t H locs → lv_has ls 4 [(0, .ref (ad 15)), (2, .int x2)] → W p l e (r_NA_remove_c) s m args below meth c H locs 0 0 (MQ below (mz_Q SX mz_tC 80 mz_cl dC dI ad en ca none res) args s 0 0 (mz_A ad 80)) (F0 m 2 ls []) := by
  obtain ⟨hx, hb, hml, hown, hcx, -, -, hSX, -, -, hSK⟩ := id E
  induction k with
  | zero => intro x2 t hf; exact absurd hf (by unfold f_NA_remove_c_2; exact fun h => nomatch h)
  | succ k ih =>
    intro x2 t hf H locs ls w hl
    unfold f_NA_remove_c_2 at hf
    refine lv_iload_n hx hb d_NA_remove_2 rfl (lv_at hl 1 rfl) ?_
    refine lv_iconst (v := (1 : Int32)) hx hb d_NA_remove_3 (by decide) ?_
    refine lv_iadd hx hb d_NA_remove_4 ?_
    refine lv_aload_n hx hb d_NA_remove_5 rfl (lv_at hl 0 rfl) ?_
    refine mz_get E w 15 4 (v := .int (mz_gI t 15 4)) (by decide) rfl rfl ii_6 (by decide) (Nat.le_of_ble_eq_true rfl) k_145 rfl d_NA_remove_6 ?_
    refine lv_icmp_ge (tgt := 79) hx hb d_NA_remove_9 (by decide) (fun hc1 => ?_) (fun hc1 => ?_)
    · have hf := mz_t hc1 hf
      exact b_NA_remove_c_79 E n  t hf _ _ _ w (lv_sub hl [0] rfl)
    · have hf := mz_f hc1 hf
      refine lv_iload_n hx hb d_NA_remove_12 rfl (lv_at hl 1 rfl) ?_
      refine lv_if_lt (tgt := 79) hx hb d_NA_remove_13 (by decide) (fun hc3 => ?_) (fun hc3 => ?_)
      · have hf := mz_t hc3 hf
        exact b_NA_remove_c_79 E n  t hf _ _ _ w (lv_sub hl [0] rfl)
      · have hf := mz_f hc3 hf
        refine lv_iload_n hx hb d_NA_remove_16 rfl (lv_at hl 1 rfl) ?_
        refine lv_iconst (v := (1 : Int32)) hx hb d_NA_remove_17 (by decide) ?_
        refine lv_iadd hx hb d_NA_remove_18 ?_
        refine lv_aload_n hx hb d_NA_remove_19 rfl (lv_at hl 0 rfl) ?_
        refine mz_get E w 15 3 (v := .ref (ad 17)) (by decide) rfl rfl ii_6 (by decide) (Nat.le_of_ble_eq_true rfl) k_144 rfl d_NA_remove_20 ?_
        refine mz_alen E w 17 (v := (64 : Int32)) (by decide) rfl (by decide) rfl d_NA_remove_23 ?_
        refine lv_icmp_ge (tgt := 79) hx hb d_NA_remove_24 (by decide) (fun hc4 => ?_) (fun hc4 => ?_)
        · have hf := mz_t hc4 hf
          exact b_NA_remove_c_79 E n  t hf _ _ _ w (lv_sub hl [0] rfl)
        · have hf := mz_f hc4 hf
          refine lv_aload_n hx hb d_NA_remove_27 rfl (lv_at hl 0 rfl) ?_
          refine mz_get E w 15 3 (v := .ref (ad 17)) (by decide) rfl rfl ii_6 (by decide) (Nat.le_of_ble_eq_true rfl) k_144 rfl d_NA_remove_28 ?_
          refine lv_iload_n hx hb d_NA_remove_31 rfl (lv_at hl 1 rfl) ?_
          refine lv_aload_n hx hb d_NA_remove_32 rfl (lv_at hl 0 rfl) ?_
          refine mz_get E w 15 3 (v := .ref (ad 17)) (by decide) rfl rfl ii_6 (by decide) (Nat.le_of_ble_eq_true rfl) k_144 rfl d_NA_remove_33 ?_
          refine lv_iload_n hx hb d_NA_remove_36 rfl (lv_at hl 1 rfl) ?_
          refine lv_iconst (v := (1 : Int32)) hx hb d_NA_remove_37 (by decide) ?_
          refine lv_iadd hx hb d_NA_remove_38 ?_
          obtain ⟨hi5, hf⟩ := mz_gd hf
          refine mz_iald E w 17 (by decide) rfl hi5 d_NA_remove_39 ?_
          obtain ⟨hi6, hf⟩ := mz_gd hf
          refine mz_iast E w 17 (x := (mz_gI t 17 (x2 + (1 : Int32)).toNatClampNeg)) (by decide) rfl hi6 d_NA_remove_40 (fun H locs w => ?_)
          obtain ⟨t7, e_t7, hf⟩ := mz_lt hf
          rw [← e_t7] at w
          refine lv_iconst (v := (0 : Int32)) hx hb d_NA_remove_41 (by decide) ?_
          refine lv_istore_n (lv' := [(3, .int (0 : Int32)), (0, .ref (ad 15)), (2, .int x2)]) hx hb d_NA_remove_42 rfl hl (by decide) rfl (fun ls hl => ?_)
          exact b_NA_remove_c_43 E n (f_NA_remove_c_2 n k) ih n x2 (0 : Int32) t7 hf _ _ _ w (lv_sub hl [1, 2, 0] rfl)
set_option maxRecDepth 100000 in
set_option maxHeartbeats 4000000 in
theorem c_NA_remove_c {SX : State → Heap → Prop} {dC : Nat → ClassId} {dI : Nat → Nat → Nat} {ad en : Nat → Nat} {ca : Nat → ClassId} (hSK : mz_SK SX ad 80) (l : Launch) (n : Nat) (x1 : Int32) (t : mz_St) (res : mz_St) (hf : f_NA_remove_c n x1 t = some res) : mz_C SX mz_tC 80 mz_cl dC dI ad en ca l y_NA_remove prog_9_method_6_code 4 none (r_NA_remove_c) [.ref (ad 15), .int x1] t none res := by
  unfold f_NA_remove_c at hf
  refine mz_met hSK (by decide) (Nat.le_of_ble_eq_true rfl) ?_
  intro p e s m args below meth c ls E w hl
  obtain ⟨hx, hb, hml, hown, hcx, -, -, hSX, -, -, -⟩ := id E
  have hl : lv_has ls 4 [(0, .ref (ad 15)), (1, .int x1)] := hl
  refine lv_iload_n hx hb d_NA_remove_0 rfl (lv_at hl 1 rfl) ?_
  refine lv_istore_n (lv' := [(2, .int x1), (0, .ref (ad 15)), (1, .int x1)]) hx hb d_NA_remove_1 rfl hl (by decide) rfl (fun ls hl => ?_)
  exact b_NA_remove_c_2 E n n x1 t hf _ _ _ w (lv_sub hl [1, 0] rfl)

/-! MacroHouse$Names.remove(I)V -/
abbrev r_NA_remove_m : Room := { frames := 2, cells := 0, slots := 0, locals := 44 }
def f_NA_remove_m_79 (n : Nat) (t : mz_St) : Option mz_St := mz_let (mz_pI t 27 4 (if (0 : Int32) < ((mz_gI t 27 4) - (1 : Int32)) then ((mz_gI t 27 4) - (1 : Int32)) else (0 : Int32))) fun t2 => some t2
def f_NA_remove_m_43 (n : Nat) (K2 : Int32 → mz_St → Option mz_St) : Nat → Int32 → Int32 → mz_St → Option mz_St
  | 0, _, _, _ => none
  | k + 1, x2, x3, t => if ¬ (x2 < 0 ∨ 16 ≤ x2.toNatClampNeg) then (if (mz_gI t 29 x2.toNatClampNeg) ≤ x3 then (K2 (x2 + (1 : Int32)) t) else ((f_NA_sign_m n (x2 + (1 : Int32)) x3 t).bind fun q10 => (f_NA_write_m n x2 x3 q10.1 q10.2).bind fun q12 => (f_NA_remove_m_43 n K2 k) x2 (x3 + (1 : Int32)) q12)) else none
def f_NA_remove_m_2 (n : Nat) : Nat → Int32 → mz_St → Option mz_St
  | 0, _, _ => none
  | k + 1, x2, t => if (mz_gI t 27 4) ≤ (x2 + (1 : Int32)) then (f_NA_remove_m_79 n  t) else (if x2 < 0 then (f_NA_remove_m_79 n  t) else (if (16 : Int32) ≤ (x2 + (1 : Int32)) then (f_NA_remove_m_79 n  t) else (if ¬ ((x2 + (1 : Int32)) < 0 ∨ 16 ≤ (x2 + (1 : Int32)).toNatClampNeg) then (if ¬ (x2 < 0 ∨ 16 ≤ x2.toNatClampNeg) then (mz_let (mz_pI t 29 x2.toNatClampNeg (mz_gI t 29 (x2 + (1 : Int32)).toNatClampNeg)) fun t7 => f_NA_remove_m_43 n (f_NA_remove_m_2 n k) n x2 (0 : Int32) t7) else none) else none)))
def f_NA_remove_m (n : Nat) (x1 : Int32) (t : mz_St) : Option mz_St := f_NA_remove_m_2 n n x1 t
set_option maxRecDepth 100000 in
set_option maxHeartbeats 4000000 in
theorem b_NA_remove_m_79 {SX : State → Heap → Prop} {dC : Nat → ClassId} {dI : Nat → Nat → Nat} {ad en : Nat → Nat} {ca : Nat → ClassId} {p : Program} {l : Launch} {e : Env} {s : State} {m : MethodId} {args : Array Value} {below : List Frame} {meth : Method} {c : Code} {res : mz_St} (E : mz_En SX 80 mz_cl dC dI ad ca p s m meth c prog_9_method_6_code 4 "MacroHouse$Names" none) (n : Nat) : ∀ (t : mz_St), f_NA_remove_m_79 n t = some res → ∀ (H : Heap) (locs : List Loc) (ls : Array Slot), mz_Wd mz_tC 80 mz_cl dC dI ad en ca s t H locs → lv_has ls 4 [(0, .ref (ad 27))] → W p l e (r_NA_remove_m) s m args below meth c H locs 0 0 (MQ below (mz_Q SX mz_tC 80 mz_cl dC dI ad en ca none res) args s 0 0 (mz_A ad 80)) (F0 m 79 ls []) := by
  obtain ⟨hx, hb, hml, hown, hcx, -, -, hSX, -, -, hSK⟩ := id E
  intro t hf H locs ls w hl
  unfold f_NA_remove_m_79 at hf
  refine lv_aload_n hx hb d_NA_remove_79 rfl (lv_at hl 0 rfl) ?_
  refine lv_iconst (v := (0 : Int32)) hx hb d_NA_remove_80 (by decide) ?_
  refine lv_aload_n hx hb d_NA_remove_81 rfl (lv_at hl 0 rfl) ?_
  refine mz_get E w 27 4 (v := .int (mz_gI t 27 4)) (by decide) rfl rfl ii_6 (by decide) (Nat.le_of_ble_eq_true rfl) k_145 rfl d_NA_remove_82 ?_
  refine lv_iconst (v := (1 : Int32)) hx hb d_NA_remove_85 (by decide) ?_
  refine lv_isub hx hb d_NA_remove_86 ?_
  refine va_mmax hx hb (hml.trans hl.1.symm) hown (hcx.at args _ k_138) (hcx.at args _ k_139) (hcx.at args _ k_10) (hcx.at args _ k_140) (Nat.le_of_ble_eq_true rfl) (Nat.le_of_ble_eq_true rfl) (Nat.zero_le _) (Nat.zero_le _) d_NA_remove_87 ?_
  refine mz_put E w 27 4 (v := (if (0 : Int32) < ((mz_gI t 27 4) - (1 : Int32)) then ((mz_gI t 27 4) - (1 : Int32)) else (0 : Int32))) (by decide) rfl rfl ii_6 tk_6 nm_6 (by decide) (Nat.le_of_ble_eq_true rfl) k_145 rfl (tk_6 4 (by decide)) rfl rfl rfl d_NA_remove_90 (fun H locs w => ?_)
  obtain ⟨t2, e_t2, hf⟩ := mz_lt hf
  rw [← e_t2] at w
  obtain rfl := Option.some.inj hf
  exact mz_vret E w rfl d_NA_remove_93
set_option maxRecDepth 100000 in
set_option maxHeartbeats 4000000 in
theorem b_NA_remove_m_43 {SX : State → Heap → Prop} {dC : Nat → ClassId} {dI : Nat → Nat → Nat} {ad en : Nat → Nat} {ca : Nat → ClassId} {p : Program} {l : Launch} {e : Env} {s : State} {m : MethodId} {args : Array Value} {below : List Frame} {meth : Method} {c : Code} {res : mz_St} (E : mz_En SX 80 mz_cl dC dI ad ca p s m meth c prog_9_method_6_code 4 "MacroHouse$Names" none) (n : Nat) (K2 : Int32 → mz_St → Option mz_St) (hK2 : ∀ (x2 : Int32) (t : mz_St), K2 x2 t = some res → ∀ (H : Heap) (locs : List Loc) (ls : Array Slot), mz_Wd mz_tC 80 mz_cl dC dI ad en ca s t H locs → lv_has ls 4 [(0, .ref (ad 27)), (2, .int x2)] → W p l e (r_NA_remove_m) s m args below meth c H locs 0 0 (MQ below (mz_Q SX mz_tC 80 mz_cl dC dI ad en ca none res) args s 0 0 (mz_A ad 80)) (F0 m 2 ls [])) (k : Nat) : ∀ (x2 : Int32) (x3 : Int32) (t : mz_St), f_NA_remove_m_43 n K2 k x2 x3 t = some res → ∀ (H : Heap) (locs : List Loc) (ls : Array Slot), mz_Wd mz_tC 80 mz_cl dC dI ad en ca s t H locs → lv_has ls 4 [(0, .ref (ad 27)), (2, .int x2), (3, .int x3)] → W p l e (r_NA_remove_m) s m args below meth c H locs 0 0 (MQ below (mz_Q SX mz_tC 80 mz_cl dC dI ad en ca none res) args s 0 0 (mz_A ad 80)) (F0 m 43 ls []) := by
  obtain ⟨hx, hb, hml, hown, hcx, -, -, hSX, -, -, hSK⟩ := id E
  induction k with
  | zero => intro x2 x3 t hf; exact absurd hf (by unfold f_NA_remove_m_43; exact fun h => nomatch h)
  | succ k ih =>
    intro x2 x3 t hf H locs ls w hl
    unfold f_NA_remove_m_43 at hf
    refine lv_iload_n hx hb d_NA_remove_43 rfl (lv_at hl 2 rfl) ?_
    refine lv_aload_n hx hb d_NA_remove_44 rfl (lv_at hl 0 rfl) ?_
    refine mz_get E w 27 3 (v := .ref (ad 29)) (by decide) rfl rfl ii_6 (by decide) (Nat.le_of_ble_eq_true rfl) k_144 rfl d_NA_remove_45 ?_
    refine lv_iload_n hx hb d_NA_remove_48 rfl (lv_at hl 1 rfl) ?_
    obtain ⟨hi8, hf⟩ := mz_gd hf
    refine mz_iald E w 29 (by decide) rfl hi8 d_NA_remove_49 ?_
    refine lv_icmp_ge (tgt := 73) hx hb d_NA_remove_50 (by decide) (fun hc9 => ?_) (fun hc9 => ?_)
    · have hf := mz_t hc9 hf
      refine lv_iinc (v := (x2 + (1 : Int32))) (lv' := [(2, .int (x2 + (1 : Int32))), (0, .ref (ad 27)), (3, .int x3)]) hx hb d_NA_remove_73 hl (k := 1) rfl rfl (by decide) rfl (fun ls hl => ?_)
      refine lv_goto (tgt := 2) hx hb d_NA_remove_76 (by decide) ?_
      exact hK2 (x2 + (1 : Int32)) t hf _ _ _ w (lv_sub hl [1, 0] rfl)
    · have hf := mz_f hc9 hf
      refine lv_aload_n hx hb d_NA_remove_53 rfl (lv_at hl 0 rfl) ?_
      refine lv_iload_n hx hb d_NA_remove_54 rfl (lv_at hl 1 rfl) ?_
      refine lv_iload_n hx hb d_NA_remove_55 rfl (lv_at hl 2 rfl) ?_
      refine lv_aload_n hx hb d_NA_remove_56 rfl (lv_at hl 0 rfl) ?_
      refine lv_iload_n hx hb d_NA_remove_57 rfl (lv_at hl 1 rfl) ?_
      refine lv_iconst (v := (1 : Int32)) hx hb d_NA_remove_58 (by decide) ?_
      refine lv_iadd hx hb d_NA_remove_59 ?_
      refine lv_iload_n hx hb d_NA_remove_60 rfl (lv_at hl 2 rfl) ?_
      obtain ⟨q10, hq11, hf⟩ := mz_bd hf
      refine mz_callV E w (k := 27) (As := [.int (x2 + (1 : Int32)), .int x3]) (rest := [.int x3, .int x2, .ref (ad 27)]) (c_NA_sign_m hSK l n (x2 + (1 : Int32)) x3 t q10 hq11) (by decide) rfl rfl k_897 k_9 k_894 k_895 k_896 hm_NA_sign ⟨⟨rfl, rfl⟩, Nat.le_of_ble_eq_true rfl, Nat.le_of_ble_eq_true rfl⟩ rfl hl.1 rfl (Nat.le_of_ble_eq_true rfl) d_NA_remove_61 ⟨Nat.zero_le _, Nat.zero_le _⟩ (st1 := [.int q10.1, .int x3, .int x2, .ref (ad 27)]) rfl (fun H locs w => ?_)
      obtain ⟨q12, hq13, hf⟩ := mz_bd hf
      refine mz_callV E w (k := 27) (As := [.int x2, .int x3, .int q10.1]) (rest := []) (c_NA_write_m hSK l n x2 x3 q10.1 q10.2 q12 hq13) (by decide) rfl rfl k_881 k_9 k_878 k_880 ks_31 hm_NA_write ⟨⟨rfl, rfl⟩, Nat.le_of_ble_eq_true rfl, Nat.le_of_ble_eq_true rfl⟩ rfl hl.1 rfl (Nat.le_of_ble_eq_true rfl) d_NA_remove_64 ⟨Nat.zero_le _, Nat.zero_le _⟩ (st1 := []) rfl (fun H locs w => ?_)
      refine lv_iinc (v := (x3 + (1 : Int32))) (lv' := [(3, .int (x3 + (1 : Int32))), (0, .ref (ad 27)), (2, .int x2)]) hx hb d_NA_remove_67 hl (k := 2) rfl rfl (by decide) rfl (fun ls hl => ?_)
      refine lv_goto (tgt := 43) hx hb d_NA_remove_70 (by decide) ?_
      exact ih x2 (x3 + (1 : Int32)) q12 hf _ _ _ w (lv_sub hl [1, 2, 0] rfl)
set_option maxRecDepth 100000 in
set_option maxHeartbeats 4000000 in
theorem b_NA_remove_m_2 {SX : State → Heap → Prop} {dC : Nat → ClassId} {dI : Nat → Nat → Nat} {ad en : Nat → Nat} {ca : Nat → ClassId} {p : Program} {l : Launch} {e : Env} {s : State} {m : MethodId} {args : Array Value} {below : List Frame} {meth : Method} {c : Code} {res : mz_St} (E : mz_En SX 80 mz_cl dC dI ad ca p s m meth c prog_9_method_6_code 4 "MacroHouse$Names" none) (n : Nat) (k : Nat) : ∀ (x2 : Int32) (t : mz_St), f_NA_remove_m_2 n k x2 t = some res → ∀ (H : Heap) (locs : List Loc) (ls : Array Slot), mz_Wd mz_tC 80 mz_cl dC dI ad en ca s t H locs → lv_has ls 4 [(0, .ref (ad 27)), (2, .int x2)] → W p l e (r_NA_remove_m) s m args below meth c H locs 0 0 (MQ below (mz_Q SX mz_tC 80 mz_cl dC dI ad en ca none res) args s 0 0 (mz_A ad 80)) (F0 m 2 ls []) := by
  obtain ⟨hx, hb, hml, hown, hcx, -, -, hSX, -, -, hSK⟩ := id E
  induction k with
  | zero => intro x2 t hf; exact absurd hf (by unfold f_NA_remove_m_2; exact fun h => nomatch h)
  | succ k ih =>
    intro x2 t hf H locs ls w hl
    unfold f_NA_remove_m_2 at hf
    refine lv_iload_n hx hb d_NA_remove_2 rfl (lv_at hl 1 rfl) ?_
    refine lv_iconst (v := (1 : Int32)) hx hb d_NA_remove_3 (by decide) ?_
    refine lv_iadd hx hb d_NA_remove_4 ?_
    refine lv_aload_n hx hb d_NA_remove_5 rfl (lv_at hl 0 rfl) ?_
    refine mz_get E w 27 4 (v := .int (mz_gI t 27 4)) (by decide) rfl rfl ii_6 (by decide) (Nat.le_of_ble_eq_true rfl) k_145 rfl d_NA_remove_6 ?_
    refine lv_icmp_ge (tgt := 79) hx hb d_NA_remove_9 (by decide) (fun hc1 => ?_) (fun hc1 => ?_)
    · have hf := mz_t hc1 hf
      exact b_NA_remove_m_79 E n  t hf _ _ _ w (lv_sub hl [0] rfl)
    · have hf := mz_f hc1 hf
      refine lv_iload_n hx hb d_NA_remove_12 rfl (lv_at hl 1 rfl) ?_
      refine lv_if_lt (tgt := 79) hx hb d_NA_remove_13 (by decide) (fun hc3 => ?_) (fun hc3 => ?_)
      · have hf := mz_t hc3 hf
        exact b_NA_remove_m_79 E n  t hf _ _ _ w (lv_sub hl [0] rfl)
      · have hf := mz_f hc3 hf
        refine lv_iload_n hx hb d_NA_remove_16 rfl (lv_at hl 1 rfl) ?_
        refine lv_iconst (v := (1 : Int32)) hx hb d_NA_remove_17 (by decide) ?_
        refine lv_iadd hx hb d_NA_remove_18 ?_
        refine lv_aload_n hx hb d_NA_remove_19 rfl (lv_at hl 0 rfl) ?_
        refine mz_get E w 27 3 (v := .ref (ad 29)) (by decide) rfl rfl ii_6 (by decide) (Nat.le_of_ble_eq_true rfl) k_144 rfl d_NA_remove_20 ?_
        refine mz_alen E w 29 (v := (16 : Int32)) (by decide) rfl (by decide) rfl d_NA_remove_23 ?_
        refine lv_icmp_ge (tgt := 79) hx hb d_NA_remove_24 (by decide) (fun hc4 => ?_) (fun hc4 => ?_)
        · have hf := mz_t hc4 hf
          exact b_NA_remove_m_79 E n  t hf _ _ _ w (lv_sub hl [0] rfl)
        · have hf := mz_f hc4 hf
          refine lv_aload_n hx hb d_NA_remove_27 rfl (lv_at hl 0 rfl) ?_
          refine mz_get E w 27 3 (v := .ref (ad 29)) (by decide) rfl rfl ii_6 (by decide) (Nat.le_of_ble_eq_true rfl) k_144 rfl d_NA_remove_28 ?_
          refine lv_iload_n hx hb d_NA_remove_31 rfl (lv_at hl 1 rfl) ?_
          refine lv_aload_n hx hb d_NA_remove_32 rfl (lv_at hl 0 rfl) ?_
          refine mz_get E w 27 3 (v := .ref (ad 29)) (by decide) rfl rfl ii_6 (by decide) (Nat.le_of_ble_eq_true rfl) k_144 rfl d_NA_remove_33 ?_
          refine lv_iload_n hx hb d_NA_remove_36 rfl (lv_at hl 1 rfl) ?_
          refine lv_iconst (v := (1 : Int32)) hx hb d_NA_remove_37 (by decide) ?_
          refine lv_iadd hx hb d_NA_remove_38 ?_
          obtain ⟨hi5, hf⟩ := mz_gd hf
          refine mz_iald E w 29 (by decide) rfl hi5 d_NA_remove_39 ?_
          obtain ⟨hi6, hf⟩ := mz_gd hf
          refine mz_iast E w 29 (x := (mz_gI t 29 (x2 + (1 : Int32)).toNatClampNeg)) (by decide) rfl hi6 d_NA_remove_40 (fun H locs w => ?_)
          obtain ⟨t7, e_t7, hf⟩ := mz_lt hf
          rw [← e_t7] at w
          refine lv_iconst (v := (0 : Int32)) hx hb d_NA_remove_41 (by decide) ?_
          refine lv_istore_n (lv' := [(3, .int (0 : Int32)), (0, .ref (ad 27)), (2, .int x2)]) hx hb d_NA_remove_42 rfl hl (by decide) rfl (fun ls hl => ?_)
          exact b_NA_remove_m_43 E n (f_NA_remove_m_2 n k) ih n x2 (0 : Int32) t7 hf _ _ _ w (lv_sub hl [1, 2, 0] rfl)
set_option maxRecDepth 100000 in
set_option maxHeartbeats 4000000 in
theorem c_NA_remove_m {SX : State → Heap → Prop} {dC : Nat → ClassId} {dI : Nat → Nat → Nat} {ad en : Nat → Nat} {ca : Nat → ClassId} (hSK : mz_SK SX ad 80) (l : Launch) (n : Nat) (x1 : Int32) (t : mz_St) (res : mz_St) (hf : f_NA_remove_m n x1 t = some res) : mz_C SX mz_tC 80 mz_cl dC dI ad en ca l y_NA_remove prog_9_method_6_code 4 none (r_NA_remove_m) [.ref (ad 27), .int x1] t none res := by
  unfold f_NA_remove_m at hf
  refine mz_met hSK (by decide) (Nat.le_of_ble_eq_true rfl) ?_
  intro p e s m args below meth c ls E w hl
  obtain ⟨hx, hb, hml, hown, hcx, -, -, hSX, -, -, -⟩ := id E
  have hl : lv_has ls 4 [(0, .ref (ad 27)), (1, .int x1)] := hl
  refine lv_iload_n hx hb d_NA_remove_0 rfl (lv_at hl 1 rfl) ?_
  refine lv_istore_n (lv' := [(2, .int x1), (0, .ref (ad 27)), (1, .int x1)]) hx hb d_NA_remove_1 rfl hl (by decide) rfl (fun ls hl => ?_)
  exact b_NA_remove_m_2 E n n x1 t hf _ _ _ w (lv_sub hl [1, 0] rfl)
