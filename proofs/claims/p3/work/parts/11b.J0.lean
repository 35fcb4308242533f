/-! java/lang/String.coder()B -/
abbrev r_JS_coder : Room := { frames := 0, cells := 0, slots := 0, locals := 0 }
def f_JS_coder (n : Nat) (x0 : Nat) (t : mz_St) : Option (Int32 × mz_St) := if (1 : Int32) = 0 then (some ((1 : Int32), t)) else (if x0 < 15 then (some ((0 : Int32), t)) else none)
set_option maxRecDepth 100000 in
set_option maxHeartbeats 4000000 in
theorem c_JS_coder {dC : Nat → ClassId} {dI : Nat → Nat → Nat} {ad en adK adV : Nat → Nat} {tA tS : Nat} {oF : Option Nat} {ca : Nat → ClassId} (hSK : mz_SK (mz_SC ad en adK adV tA tS oF) ad 80) (l : Launch) (n : Nat) (x0 : Nat) (t : mz_St) (res : (Int32 × mz_St)) (hf : f_JS_coder n x0 t = some res) : mz_C (mz_SC ad en adK adV tA tS oF) mz_tC 80 mz_cl dC dI ad en ca l y_JS_coder prog_22_method_152_code 1 (some (.byte)) (r_JS_coder) [.ref (adK x0)] t (some (.int res.1)) res.2 := by
  unfold f_JS_coder at hf
  refine mz_met hSK (by decide) (Nat.le_of_ble_eq_true rfl) ?_
  intro p e s m args below meth c ls E w hl
  obtain ⟨hx, hb, hml, hown, hcx, -, -, hSX, -, -, -⟩ := id E
  have hl : lv_has ls 1 [(0, .ref (adK x0))] := hl
  refine mz_gsC E w k_587 d_JS_coder_0 ?_
  refine lv_if_eq (tgt := 13) hx hb d_JS_coder_3 (by decide) (fun hc1 => ?_) (fun hc1 => ?_)
  · have hf := mz_t hc1 hf
    refine lv_iconst (v := (1 : Int32)) hx hb d_JS_coder_13 (by decide) ?_
    obtain rfl := Option.some.inj hf
    exact mz_nret E w (by decide) rfl d_JS_coder_14
  · have hf := mz_f hc1 hf
    refine lv_aload_n hx hb d_JS_coder_6 rfl (lv_at hl 0 rfl) ?_
    obtain ⟨hg2, hf⟩ := mz_gd hf
    refine mz_gsc E w hg2 k_1700 d_JS_coder_7 ?_
    refine lv_goto (tgt := 14) hx hb d_JS_coder_10 (by decide) ?_
    obtain rfl := Option.some.inj hf
    exact mz_nret E w (by decide) rfl d_JS_coder_14

/-! java/lang/String.length()I -/
abbrev r_JS_length : Room := { frames := 1, cells := 0, slots := 0, locals := 20 }
def f_JS_length (n : Nat) (x0 : Nat) (t : mz_St) : Option (Int32 × mz_St) := if x0 < 15 then (if x0 < 15 then (if x0 < 15 then ((f_JS_coder n x0 t).bind fun q3 => some (((Int32.ofNat (mz_len.getD x0 0)) >>> (q3.1 &&& 31)), q3.2)) else none) else none) else none
set_option maxRecDepth 100000 in
set_option maxHeartbeats 4000000 in
theorem c_JS_length {dC : Nat → ClassId} {dI : Nat → Nat → Nat} {ad en adK adV : Nat → Nat} {tA tS : Nat} {oF : Option Nat} {ca : Nat → ClassId} (hSK : mz_SK (mz_SC ad en adK adV tA tS oF) ad 80) (l : Launch) (n : Nat) (x0 : Nat) (t : mz_St) (res : (Int32 × mz_St)) (hf : f_JS_length n x0 t = some res) : mz_C (mz_SC ad en adK adV tA tS oF) mz_tC 80 mz_cl dC dI ad en ca l y_JS_length prog_22_method_54_code 1 (some (.int)) (r_JS_length) [.ref (adK x0)] t (some (.int res.1)) res.2 := by
  unfold f_JS_length at hf
  refine mz_met hSK (by decide) (Nat.le_of_ble_eq_true rfl) ?_
  intro p e s m args below meth c ls E w hl
  obtain ⟨hx, hb, hml, hown, hcx, -, -, hSX, -, -, -⟩ := id E
  have hl : lv_has ls 1 [(0, .ref (adK x0))] := hl
  refine lv_aload_n hx hb d_JS_length_0 rfl (lv_at hl 0 rfl) ?_
  obtain ⟨hg1, hf⟩ := mz_gd hf
  refine mz_gsv E w hg1 k_1699 d_JS_length_1 ?_
  obtain ⟨hg2, hf⟩ := mz_gd hf
  refine mz_lnK E w hg2 d_JS_length_4 ?_
  refine lv_aload_n hx hb d_JS_length_5 rfl (lv_at hl 0 rfl) ?_
  obtain ⟨hg5, hf⟩ := mz_gd hf
  obtain ⟨q3, hq4, hf⟩ := mz_bd hf
  refine mz_callG E w (As := []) (rest := [.int (Int32.ofNat (mz_len.getD x0 0))]) (c_JS_coder hSK l n x0 t q3 hq4) (mz_rcK E w hg5) k_586 k_21 k_583 k_584 k_585 hm_JS_coder ⟨⟨rfl, rfl⟩, Nat.le_of_ble_eq_true rfl, Nat.le_of_ble_eq_true rfl⟩ rfl hl.1 rfl (Nat.le_of_ble_eq_true rfl) d_JS_length_6 ⟨Nat.zero_le _, Nat.zero_le _⟩ (st1 := [.int q3.1, .int (Int32.ofNat (mz_len.getD x0 0))]) rfl (fun H locs w => ?_)
  refine lv_ishr hx hb d_JS_length_9 ?_
  obtain rfl := Option.some.inj hf
  exact mz_iret E w rfl d_JS_length_10

/-! java/lang/String.isLatin1()Z -/
abbrev r_JS_isLatin1 : Room := { frames := 0, cells := 0, slots := 0, locals := 0 }
def f_JS_isLatin1 (n : Nat) (x0 : Nat) (t : mz_St) : Option (Int32 × mz_St) := if (1 : Int32) = 0 then (some ((0 : Int32), t)) else (if x0 < 15 then (if (0 : Int32) = 0 then (some ((1 : Int32), t)) else (some ((0 : Int32), t))) else none)
set_option maxRecDepth 100000 in
set_option maxHeartbeats 4000000 in
theorem c_JS_isLatin1 {dC : Nat → ClassId} {dI : Nat → Nat → Nat} {ad en adK adV : Nat → Nat} {tA tS : Nat} {oF : Option Nat} {ca : Nat → ClassId} (hSK : mz_SK (mz_SC ad en adK adV tA tS oF) ad 80) (l : Launch) (n : Nat) (x0 : Nat) (t : mz_St) (res : (Int32 × mz_St)) (hf : f_JS_isLatin1 n x0 t = some res) : mz_C (mz_SC ad en adK adV tA tS oF) mz_tC 80 mz_cl dC dI ad en ca l y_JS_isLatin1 prog_22_method_154_code 1 (some (.boolean)) (r_JS_isLatin1) [.ref (adK x0)] t (some (.int res.1)) res.2 := by
  unfold f_JS_isLatin1 at hf
  refine mz_met hSK (by decide) (Nat.le_of_ble_eq_true rfl) ?_
  intro p e s m args below meth c ls E w hl
  obtain ⟨hx, hb, hml, hown, hcx, -, -, hSX, -, -, -⟩ := id E
  have hl : lv_has ls 1 [(0, .ref (adK x0))] := hl
  refine mz_gsC E w k_587 d_JS_isLatin1_0 ?_
  refine lv_if_eq (tgt := 17) hx hb d_JS_isLatin1_3 (by decide) (fun hc1 => ?_) (fun hc1 => ?_)
  · have hf := mz_t hc1 hf
    refine lv_iconst (v := (0 : Int32)) hx hb d_JS_isLatin1_17 (by decide) ?_
    obtain rfl := Option.some.inj hf
    exact mz_zret E w (by decide) rfl d_JS_isLatin1_18
  · have hf := mz_f hc1 hf
    refine lv_aload_n hx hb d_JS_isLatin1_6 rfl (lv_at hl 0 rfl) ?_
    obtain ⟨hg2, hf⟩ := mz_gd hf
    refine mz_gsc E w hg2 k_1700 d_JS_isLatin1_7 ?_
    refine lv_if_ne (tgt := 17) hx hb d_JS_isLatin1_10 (by decide) (fun hc3 => ?_) (fun hc3 => ?_)
    · have hf := mz_f hc3 hf
      refine lv_iconst (v := (0 : Int32)) hx hb d_JS_isLatin1_17 (by decide) ?_
      obtain rfl := Option.some.inj hf
      exact mz_zret E w (by decide) rfl d_JS_isLatin1_18
    · have hf := mz_t hc3 hf
      refine lv_iconst (v := (1 : Int32)) hx hb d_JS_isLatin1_13 (by decide) ?_
      refine lv_goto (tgt := 18) hx hb d_JS_isLatin1_14 (by decide) ?_
      obtain rfl := Option.some.inj hf
      exact mz_zret E w (by decide) rfl d_JS_isLatin1_18

/-! jdk/internal/util/Preconditions.checkIndex(IILjava/util/function/BiFunction;)I -/
abbrev r_JP_checkIndex : Room := { frames := 0, cells := 0, slots := 0, locals := 0 }
def f_JP_checkIndex_9 (n : Nat) (x0 : Int32) (x1 : Int32) (t : mz_St) : Option (Int32 × mz_St) := none
def f_JP_checkIndex (n : Nat) (x0 : Int32) (x1 : Int32) (t : mz_St) : Option (Int32 × mz_St) := if x0 < 0 then (f_JP_checkIndex_9 n x0 x1 t) else (if x0 < x1 then (some (x0, t)) else (f_JP_checkIndex_9 n x0 x1 t))
set_option maxRecDepth 100000 in
set_option maxHeartbeats 4000000 in
theorem b_JP_checkIndex_9 {dC : Nat → ClassId} {dI : Nat → Nat → Nat} {ad en adK adV : Nat → Nat} {tA tS : Nat} {oF : Option Nat} {ca : Nat → ClassId} {p : Program} {l : Launch} {e : Env} {s : State} {m : MethodId} {args : Array Value} {below : List Frame} {meth : Method} {c : Code} {res : (Int32 × mz_St)} (E : mz_En (mz_SC ad en adK adV tA tS oF) 80 mz_cl dC dI ad ca p s m meth c prog_27_method_11_code 3 "jdk/internal/util/Preconditions" (some (.int))) (n : Nat) : ∀ (x0 : Int32) (x1 : Int32) (t : mz_St), f_JP_checkIndex_9 n x0 x1 t = some res → ∀ (H : Heap) (locs : List Loc) (ls : Array Slot), mz_Wd mz_tC 80 mz_cl dC dI ad en ca s t H locs → lv_has ls 3 [(0, .int x0), (1, .int x1), (2, va_rf oF)] → W p l e (r_JP_checkIndex) s m args below meth c H locs 0 0 (MQ below (mz_Q (mz_SC ad en adK adV tA tS oF) mz_tC 80 mz_cl dC dI ad en ca (some (.int res.1)) res.2) args s 0 0 (mz_A ad 80)) (F0 m 9 ls []) := by
  obtain ⟨hx, hb, hml, hown, hcx, -, -, hSX, -, -, hSK⟩ := id E
  intro x0 x1 t hf H locs ls w hl
  unfold f_JP_checkIndex_9 at hf
  exact nomatch hf
set_option maxRecDepth 100000 in
set_option maxHeartbeats 4000000 in
theorem c_JP_checkIndex {dC : Nat → ClassId} {dI : Nat → Nat → Nat} {ad en adK adV : Nat → Nat} {tA tS : Nat} {oF : Option Nat} {ca : Nat → ClassId} (hSK : mz_SK (mz_SC ad en adK adV tA tS oF) ad 80) (l : Launch) (n : Nat) (x0 : Int32) (x1 : Int32) (t : mz_St) (res : (Int32 × mz_St)) (hf : f_JP_checkIndex n x0 x1 t = some res) : mz_C (mz_SC ad en adK adV tA tS oF) mz_tC 80 mz_cl dC dI ad en ca l y_JP_checkIndex prog_27_method_11_code 3 (some (.int)) (r_JP_checkIndex) [.int x0, .int x1, va_rf oF] t (some (.int res.1)) res.2 := by
  cases oF with
  | none =>
    unfold f_JP_checkIndex at hf
    refine mz_met hSK (by decide) (Nat.le_of_ble_eq_true rfl) ?_
    intro p e s m args below meth c ls E w hl
    obtain ⟨hx, hb, hml, hown, hcx, -, -, hSX, -, -, -⟩ := id E
    have hl : lv_has ls 3 [(0, .int x0), (1, .int x1), (2, va_rf none)] := hl
    refine lv_iload_n hx hb d_JP_checkIndex_0 rfl (lv_at hl 0 rfl) ?_
    refine lv_if_lt (tgt := 9) hx hb d_JP_checkIndex_1 (by decide) (fun hc1 => ?_) (fun hc1 => ?_)
    · have hf := mz_t hc1 hf
      exact b_JP_checkIndex_9 E n x0 x1 t hf _ _ _ w (lv_sub hl [0, 1, 2] rfl)
    · have hf := mz_f hc1 hf
      refine lv_iload_n hx hb d_JP_checkIndex_4 rfl (lv_at hl 0 rfl) ?_
      refine lv_iload_n hx hb d_JP_checkIndex_5 rfl (lv_at hl 1 rfl) ?_
      refine lv_icmp_lt (tgt := 16) hx hb d_JP_checkIndex_6 (by decide) (fun hc2 => ?_) (fun hc2 => ?_)
      · have hf := mz_t hc2 hf
        refine lv_iload_n hx hb d_JP_checkIndex_16 rfl (lv_at hl 0 rfl) ?_
        obtain rfl := Option.some.inj hf
        exact mz_iret E w rfl d_JP_checkIndex_17
      · have hf := mz_f hc2 hf
        exact b_JP_checkIndex_9 E n x0 x1 t hf _ _ _ w (lv_sub hl [0, 1, 2] rfl)
  | some a9 =>
    unfold f_JP_checkIndex at hf
    refine mz_met hSK (by decide) (Nat.le_of_ble_eq_true rfl) ?_
    intro p e s m args below meth c ls E w hl
    obtain ⟨hx, hb, hml, hown, hcx, -, -, hSX, -, -, -⟩ := id E
    have hl : lv_has ls 3 [(0, .int x0), (1, .int x1), (2, va_rf (some a9))] := hl
    refine lv_iload_n hx hb d_JP_checkIndex_0 rfl (lv_at hl 0 rfl) ?_
    refine lv_if_lt (tgt := 9) hx hb d_JP_checkIndex_1 (by decide) (fun hc1 => ?_) (fun hc1 => ?_)
    · have hf := mz_t hc1 hf
      exact b_JP_checkIndex_9 E n x0 x1 t hf _ _ _ w (lv_sub hl [0, 1, 2] rfl)
    · have hf := mz_f hc1 hf
      refine lv_iload_n hx hb d_JP_checkIndex_4 rfl (lv_at hl 0 rfl) ?_
      refine lv_iload_n hx hb d_JP_checkIndex_5 rfl (lv_at hl 1 rfl) ?_
      refine lv_icmp_lt (tgt := 16) hx hb d_JP_checkIndex_6 (by decide) (fun hc2 => ?_) (fun hc2 => ?_)
      · have hf := mz_t hc2 hf
        refine lv_iload_n hx hb d_JP_checkIndex_16 rfl (lv_at hl 0 rfl) ?_
        obtain rfl := Option.some.inj hf
        exact mz_iret E w rfl d_JP_checkIndex_17
      · have hf := mz_f hc2 hf
        exact b_JP_checkIndex_9 E n x0 x1 t hf _ _ _ w (lv_sub hl [0, 1, 2] rfl)

/-! java/lang/String.checkIndex(II)V -/
abbrev r_JS_checkIndex : Room := { frames := 1, cells := 0, slots := 0, locals := 22 }
def f_JS_checkIndex (n : Nat) (x0 : Int32) (x1 : Int32) (t : mz_St) : Option mz_St := (f_JP_checkIndex n x0 x1 t).bind fun q1 => some q1.2
set_option maxRecDepth 100000 in
set_option maxHeartbeats 4000000 in
theorem c_JS_checkIndex {dC : Nat → ClassId} {dI : Nat → Nat → Nat} {ad en adK adV : Nat → Nat} {tA tS : Nat} {oF : Option Nat} {ca : Nat → ClassId} (hSK : mz_SK (mz_SC ad en adK adV tA tS oF) ad 80) (l : Launch) (n : Nat) (x0 : Int32) (x1 : Int32) (t : mz_St) (res : mz_St) (hf : f_JS_checkIndex n x0 x1 t = some res) : mz_C (mz_SC ad en adK adV tA tS oF) mz_tC 80 mz_cl dC dI ad en ca l y_JS_checkIndex prog_22_method_155_code 2 none (r_JS_checkIndex) [.int x0, .int x1] t none res := by
  unfold f_JS_checkIndex at hf
  refine mz_met hSK (by decide) (Nat.le_of_ble_eq_true rfl) ?_
  intro p e s m args below meth c ls E w hl
  obtain ⟨hx, hb, hml, hown, hcx, -, -, hSX, -, -, -⟩ := id E
  have hl : lv_has ls 2 [(0, .int x0), (1, .int x1)] := hl
  refine lv_iload_n hx hb d_JS_checkIndex_0 rfl (lv_at hl 0 rfl) ?_
  refine lv_iload_n hx hb d_JS_checkIndex_1 rfl (lv_at hl 1 rfl) ?_
  refine mz_gsF E w k_603 d_JS_checkIndex_2 ?_
  obtain ⟨q1, hq2, hf⟩ := mz_bd hf
  refine mz_callS E w (As := [.int x0, .int x1, va_rf oF]) (rest := []) (c_JP_checkIndex hSK l n x0 x1 t q1 hq2) k_607 k_23 k_605 k_606 hm_JP_checkIndex ⟨⟨rfl, rfl⟩, Nat.le_of_ble_eq_true rfl, Nat.le_of_ble_eq_true rfl⟩ rfl hl.1 rfl (Nat.le_of_ble_eq_true rfl) d_JS_checkIndex_5 ⟨Nat.zero_le _, Nat.zero_le _⟩ (st1 := [.int q1.1]) rfl (fun H locs w => ?_)
  refine lv_pop hx hb d_JS_checkIndex_8 rfl ?_
  obtain rfl := Option.some.inj hf
  exact mz_vret E w rfl d_JS_checkIndex_9

/-! java/lang/StringLatin1.charAt([BI)C -/
abbrev r_JL_charAt : Room := { frames := 2, cells := 0, slots := 0, locals := 43 }
def f_JL_charAt (n : Nat) (x0 : Nat) (x1 : Int32) (t : mz_St) : Option (Int32 × mz_St) := if x0 < 15 then ((f_JS_checkIndex n x1 (Int32.ofNat (mz_len.getD x0 0)) t).bind fun q2 => if x0 < 15 then (if ¬ (x1 < 0 ∨ mz_len.getD x0 0 ≤ x1.toNatClampNeg) then (some (((((mz_byt.getD x0 []).getD x1.toNatClampNeg 0) &&& (255 : Int32)).toUInt32 % 65536).toInt32, q2)) else none) else none) else none
set_option maxRecDepth 100000 in
set_option maxHeartbeats 4000000 in
theorem c_JL_charAt {dC : Nat → ClassId} {dI : Nat → Nat → Nat} {ad en adK adV : Nat → Nat} {tA tS : Nat} {oF : Option Nat} {ca : Nat → ClassId} (hSK : mz_SK (mz_SC ad en adK adV tA tS oF) ad 80) (l : Launch) (n : Nat) (x0 : Nat) (x1 : Int32) (t : mz_St) (res : (Int32 × mz_St)) (hf : f_JL_charAt n x0 x1 t = some res) : mz_C (mz_SC ad en adK adV tA tS oF) mz_tC 80 mz_cl dC dI ad en ca l y_JL_charAt prog_23_method_2_code 2 (some (.char)) (r_JL_charAt) [.ref (adV x0), .int x1] t (some (.int res.1)) res.2 := by
  unfold f_JL_charAt at hf
  refine mz_met hSK (by decide) (Nat.le_of_ble_eq_true rfl) ?_
  intro p e s m args below meth c ls E w hl
  obtain ⟨hx, hb, hml, hown, hcx, -, -, hSX, -, -, -⟩ := id E
  have hl : lv_has ls 2 [(0, .ref (adV x0)), (1, .int x1)] := hl
  refine lv_iload_n hx hb d_JL_charAt_0 rfl (lv_at hl 1 rfl) ?_
  refine lv_aload_n hx hb d_JL_charAt_1 rfl (lv_at hl 0 rfl) ?_
  obtain ⟨hg1, hf⟩ := mz_gd hf
  refine mz_lnK E w hg1 d_JL_charAt_2 ?_
  obtain ⟨q2, hq3, hf⟩ := mz_bd hf
  refine mz_callS E w (As := [.int x1, .int (Int32.ofNat (mz_len.getD x0 0))]) (rest := []) (c_JS_checkIndex hSK l n x1 (Int32.ofNat (mz_len.getD x0 0)) t q2 hq3) k_602 k_21 k_600 k_601 hm_JS_checkIndex ⟨⟨rfl, rfl⟩, Nat.le_of_ble_eq_true rfl, Nat.le_of_ble_eq_true rfl⟩ rfl hl.1 rfl (Nat.le_of_ble_eq_true rfl) d_JL_charAt_3 ⟨Nat.zero_le _, Nat.zero_le _⟩ (st1 := []) rfl (fun H locs w => ?_)
  refine lv_aload_n hx hb d_JL_charAt_6 rfl (lv_at hl 0 rfl) ?_
  refine lv_iload_n hx hb d_JL_charAt_7 rfl (lv_at hl 1 rfl) ?_
  obtain ⟨hg5, hf⟩ := mz_gd hf
  obtain ⟨hi4, hf⟩ := mz_gd hf
  refine mz_ldK E w hg5 hi4 d_JL_charAt_8 ?_
  refine lv_sipush (v := (255 : Int32)) hx hb d_JL_charAt_9 (by decide) ?_
  refine lv_iand hx hb d_JL_charAt_12 ?_
  refine lv_i2c (v := ((((mz_byt.getD x0 []).getD x1.toNatClampNeg 0) &&& (255 : Int32)).toUInt32 % 65536).toInt32) hx hb d_JL_charAt_13 rfl ?_
  obtain rfl := Option.some.inj hf
  exact mz_nret E w (pk_nc _) rfl d_JL_charAt_14

/-! java/lang/String.charAt(I)C -/
abbrev r_JS_charAt : Room := { frames := 3, cells := 0, slots := 0, locals := 64 }
def f_JS_charAt (n : Nat) (x0 : Nat) (x1 : Int32) (t : mz_St) : Option (Int32 × mz_St) := if x0 < 15 then ((f_JS_isLatin1 n x0 t).bind fun q1 => if q1.1 = 0 then none else (if x0 < 15 then ((f_JL_charAt n x0 x1 q1.2).bind fun q6 => if q6.1 = (q6.1.toUInt32 % 65536).toInt32 then (some (q6.1, q6.2)) else none) else none)) else none
set_option maxRecDepth 100000 in
set_option maxHeartbeats 4000000 in
theorem c_JS_charAt {dC : Nat → ClassId} {dI : Nat → Nat → Nat} {ad en adK adV : Nat → Nat} {tA tS : Nat} {oF : Option Nat} {ca : Nat → ClassId} (hSK : mz_SK (mz_SC ad en adK adV tA tS oF) ad 80) (l : Launch) (n : Nat) (x0 : Nat) (x1 : Int32) (t : mz_St) (res : (Int32 × mz_St)) (hf : f_JS_charAt n x0 x1 t = some res) : mz_C (mz_SC ad en adK adV tA tS oF) mz_tC 80 mz_cl dC dI ad en ca l y_JS_charAt prog_22_method_56_code 2 (some (.char)) (r_JS_charAt) [.ref (adK x0), .int x1] t (some (.int res.1)) res.2 := by
  unfold f_JS_charAt at hf
  refine mz_met hSK (by decide) (Nat.le_of_ble_eq_true rfl) ?_
  intro p e s m args below meth c ls E w hl
  obtain ⟨hx, hb, hml, hown, hcx, -, -, hSX, -, -, -⟩ := id E
  have hl : lv_has ls 2 [(0, .ref (adK x0)), (1, .int x1)] := hl
  refine lv_aload_n hx hb d_JS_charAt_0 rfl (lv_at hl 0 rfl) ?_
  obtain ⟨hg3, hf⟩ := mz_gd hf
  obtain ⟨q1, hq2, hf⟩ := mz_bd hf
  refine mz_callG E w (As := []) (rest := []) (c_JS_isLatin1 hSK l n x0 t q1 hq2) (mz_rcK E w hg3) k_596 k_21 k_593 k_594 k_595 hm_JS_isLatin1 ⟨⟨rfl, rfl⟩, Nat.le_of_ble_eq_true rfl, Nat.le_of_ble_eq_true rfl⟩ rfl hl.1 rfl (Nat.le_of_ble_eq_true rfl) d_JS_charAt_1 ⟨Nat.zero_le _, Nat.zero_le _⟩ (st1 := [.int q1.1]) rfl (fun H locs w => ?_)
  refine lv_if_eq (tgt := 16) hx hb d_JS_charAt_4 (by decide) (fun hc4 => ?_) (fun hc4 => ?_)
  · have hf := mz_t hc4 hf
    exact nomatch hf
  · have hf := mz_f hc4 hf
    refine lv_aload_n hx hb d_JS_charAt_7 rfl (lv_at hl 0 rfl) ?_
    obtain ⟨hg5, hf⟩ := mz_gd hf
    refine mz_gsv E w hg5 k_1699 d_JS_charAt_8 ?_
    refine lv_iload_n hx hb d_JS_charAt_11 rfl (lv_at hl 1 rfl) ?_
    obtain ⟨q6, hq7, hf⟩ := mz_bd hf
    refine mz_callS E w (As := [.ref (adV x0), .int x1]) (rest := []) (c_JL_charAt hSK l n x0 x1 q1.2 q6 hq7) k_599 k_22 k_597 k_598 hm_JL_charAt ⟨⟨rfl, rfl⟩, Nat.le_of_ble_eq_true rfl, Nat.le_of_ble_eq_true rfl⟩ rfl hl.1 rfl (Nat.le_of_ble_eq_true rfl) d_JS_charAt_12 ⟨Nat.zero_le _, Nat.zero_le _⟩ (st1 := [.int q6.1]) rfl (fun H locs w => ?_)
    obtain ⟨hz8, hf⟩ := mz_gd hf
    obtain rfl := Option.some.inj hf
    exact mz_nret E w (mz_nc hz8) rfl d_JS_charAt_15

/-! java/lang/Enum.ordinal()I -/
abbrev r_JE_ordinal : Room := { frames := 0, cells := 0, slots := 0, locals := 0 }
def f_JE_ordinal (n : Nat) (x0 : Int32) (t : mz_St) : Option (Int32 × mz_St) := if x0.toNatClampNeg < 16 then (some ((mz_or.getD x0.toNatClampNeg 0), t)) else none
set_option maxRecDepth 100000 in
set_option maxHeartbeats 4000000 in
theorem c_JE_ordinal {dC : Nat → ClassId} {dI : Nat → Nat → Nat} {ad en adK adV : Nat → Nat} {tA tS : Nat} {oF : Option Nat} {ca : Nat → ClassId} (hSK : mz_SK (mz_SC ad en adK adV tA tS oF) ad 80) (l : Launch) (n : Nat) (x0 : Int32) (t : mz_St) (res : (Int32 × mz_St)) (hf : f_JE_ordinal n x0 t = some res) : mz_C (mz_SC ad en adK adV tA tS oF) mz_tC 80 mz_cl dC dI ad en ca l y_JE_ordinal prog_16_method_2_code 1 (some (.int)) (r_JE_ordinal) [.ref (en x0.toNatClampNeg)] t (some (.int res.1)) res.2 := by
  unfold f_JE_ordinal at hf
  refine mz_met hSK (by decide) (Nat.le_of_ble_eq_true rfl) ?_
  intro p e s m args below meth c ls E w hl
  obtain ⟨hx, hb, hml, hown, hcx, -, -, hSX, -, -, -⟩ := id E
  have hl : lv_has ls 1 [(0, .ref (en x0.toNatClampNeg))] := hl
  refine lv_aload_n hx hb d_JE_ordinal_0 rfl (lv_at hl 0 rfl) ?_
  obtain ⟨hg1, hf⟩ := mz_gd hf
  refine mz_geo E w hg1 k_1701 d_JE_ordinal_1 ?_
  obtain rfl := Option.some.inj hf
  exact mz_iret E w rfl d_JE_ordinal_4
