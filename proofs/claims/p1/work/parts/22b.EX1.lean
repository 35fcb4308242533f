/-! MacroHouse$Expander.keepUpToEndr()Z -/
abbrev r_EX_keepUpToEndr : Room := { frames := 6, cells := 0, slots := 0, locals := 133 }
def f_EX_keepUpToEndr_100 (n : Nat) (K21 : Int32 → Nat → Int32 → Int32 → mz_St → Option (Int32 × mz_St)) (x1 : Int32) (x2 : Nat) (x3 : Int32) (x4 : Int32) (t : mz_St) : Option (Int32 × mz_St) := if mz_fr x2 then (if x3 = 0 then (some ((1 : Int32), t)) else (K21 x1 x2 x3 (x4 + (1 : Int32)) t)) else none
def f_EX_keepUpToEndr_83 (n : Nat) (K21 : Int32 → Nat → Int32 → Int32 → mz_St → Option (Int32 × mz_St)) (x1 : Int32) (x2 : Nat) (x3 : Int32) (x4 : Int32) (t : mz_St) : Option (Int32 × mz_St) := if mz_fr x2 then (f_EX_keepUpToEndr_100 n K21 x1 x2 (x3 + (1 : Int32)) x4 t) else none
def f_EX_keepUpToEndr_21 (n : Nat) : Nat → Int32 → Nat → Int32 → Int32 → mz_St → Option (Int32 × mz_St)
  | 0, _, _, _, _, _ => none
  | k + 1, x1, x2, x3, x4, t => if mz_fr x2 then (if (mz_gI t x2 2) ≤ x4 then (mz_let (mz_pI t 5 11 x1) fun t5 => (f_EX_fail n (5 : Int32) t5).bind fun q6 => if q6.1 = 0 ∨ q6.1 = 1 then (some (q6.1, q6.2)) else none) else ((f_EX_look n x2 t).bind fun q9 => if q9.1 = 0 then (some ((0 : Int32), q9.2)) else ((f_SI_startOf n x4 q9.2).bind fun q12 => (f_SI_stopOf n x4 q12.2).bind fun q14 => (f_DI_of n q12.1 q14.1 q14.2).bind fun q16 => if q16.1.toNatClampNeg < 16 ∧ (11 : Int32).toNatClampNeg < 16 then (if q16.1.toNatClampNeg = (11 : Int32).toNatClampNeg then (f_EX_keepUpToEndr_83 n (f_EX_keepUpToEndr_21 n k) x1 x2 x3 x4 q16.2) else (if q16.1.toNatClampNeg < 16 ∧ (12 : Int32).toNatClampNeg < 16 then (if q16.1.toNatClampNeg = (12 : Int32).toNatClampNeg then (f_EX_keepUpToEndr_83 n (f_EX_keepUpToEndr_21 n k) x1 x2 x3 x4 q16.2) else (if q16.1.toNatClampNeg < 16 ∧ (13 : Int32).toNatClampNeg < 16 then (if q16.1.toNatClampNeg = (13 : Int32).toNatClampNeg then (f_EX_keepUpToEndr_100 n (f_EX_keepUpToEndr_21 n k) x1 x2 (x3 + (-1 : Int32)) x4 q16.2) else (f_EX_keepUpToEndr_100 n (f_EX_keepUpToEndr_21 n k) x1 x2 x3 x4 q16.2)) else none)) else none)) else none))) else none
def f_EX_keepUpToEndr (n : Nat) (t : mz_St) : Option (Int32 × mz_St) := (f_SK_top n t).bind fun q1 => if mz_fr q1.1 then (f_EX_keepUpToEndr_21 n n (mz_gI t 5 11) q1.1 (1 : Int32) (mz_gI q1.2 q1.1 3) q1.2) else none
set_option maxRecDepth 100000 in
set_option maxHeartbeats 4000000 in
theorem b_EX_keepUpToEndr_100 {dC : Nat → ClassId} {dI : Nat → Nat → Nat} {ad en adK adV : Nat → Nat} {tA tS : Nat} {oF : Option Nat} {ca : Nat → ClassId} {p : Program} {l : Launch} {e : Env} {s : State} {m : MethodId} {args : Array Value} {below : List Frame} {meth : Method} {c : Code} {res : (Int32 × mz_St)} (E : mz_En (mz_SC ad en adK adV tA tS oF) 80 mz_cl dC dI ad ca p s m meth c prog_6_method_22_code 6 "MacroHouse$Expander" (some (.boolean))) (n : Nat) (K21 : Int32 → Nat → Int32 → Int32 → mz_St → Option (Int32 × mz_St)) (hK21 : ∀ (x1 : Int32) (x2 : Nat) (x3 : Int32) (x4 : Int32) (t : mz_St), K21 x1 x2 x3 x4 t = some res → ∀ (H : Heap) (locs : List Loc) (ls : Array Slot), mz_Wd mz_tC 80 mz_cl dC dI ad en ca s t H locs → lv_has ls 6 [(0, .ref (ad 5)), (1, .int x1), (2, .ref (ad x2)), (3, .int x3), (4, .int x4)] → W p l e (r_EX_keepUpToEndr) s m args below meth c H locs 0 0 (MQ below (mz_Q (mz_SC ad en adK adV tA tS oF) mz_tC 80 mz_cl dC dI ad en ca (some (.int res.1)) res.2) args s 0 0 (mz_A ad 80)) (F0 m 21 ls [])) : ∀ (x1 : Int32) (x2 : Nat) (x3 : Int32) (x4 : Int32) (t : mz_St), f_EX_keepUpToEndr_100 n K21 x1 x2 x3 x4 t = some res → ∀ (H : Heap) (locs : List Loc) (ls : Array Slot), mz_Wd mz_tC 80 mz_cl dC dI ad en ca s t H locs → lv_has ls 6 [(0, .ref (ad 5)), (1, .int x1), (2, .ref (ad x2)), (3, .int x3), (4, .int x4)] → W p l e (r_EX_keepUpToEndr) s m args below meth c H locs 0 0 (MQ below (mz_Q (mz_SC ad en adK adV tA tS oF) mz_tC 80 mz_cl dC dI ad en ca (some (.int res.1)) res.2) args s 0 0 (mz_A ad 80)) (F0 m 100 ls []) := by
  obtain ⟨hx, hb, hml, hown, hcx, -, -, hSX, -, -, hSK⟩ := id E
  intro x1 x2 x3 x4 t hf H locs ls w hl
  unfold f_EX_keepUpToEndr_100 at hf
  obtain ⟨h_x2, hf⟩ := mz_gd hf
  refine lv_iload_n hx hb d_EX_keepUpToEndr_100 rfl (lv_at hl 3 rfl) ?_
  refine lv_if_ne (tgt := 106) hx hb d_EX_keepUpToEndr_101 (by decide) (fun hc20 => ?_) (fun hc20 => ?_)
  · have hf := mz_f hc20 hf
    refine lv_iinc (v := (x4 + (1 : Int32))) (lv' := [(4, .int (x4 + (1 : Int32))), (0, .ref (ad 5)), (1, .int x1), (2, .ref (ad x2)), (3, .int x3)]) hx hb d_EX_keepUpToEndr_106 hl (k := 4) rfl rfl (by decide) rfl (fun ls hl => ?_)
    refine lv_goto (tgt := 21) hx hb d_EX_keepUpToEndr_109 (by decide) ?_
    exact hK21 x1 x2 x3 (x4 + (1 : Int32)) t hf _ _ _ w (lv_sub hl [1, 2, 3, 4, 0] rfl)
  · have hf := mz_t hc20 hf
    refine lv_iconst (v := (1 : Int32)) hx hb d_EX_keepUpToEndr_104 (by decide) ?_
    obtain rfl := Option.some.inj hf
    exact mz_zret E w (by decide) rfl d_EX_keepUpToEndr_105
set_option maxRecDepth 100000 in
set_option maxHeartbeats 4000000 in
theorem b_EX_keepUpToEndr_83 {dC : Nat → ClassId} {dI : Nat → Nat → Nat} {ad en adK adV : Nat → Nat} {tA tS : Nat} {oF : Option Nat} {ca : Nat → ClassId} {p : Program} {l : Launch} {e : Env} {s : State} {m : MethodId} {args : Array Value} {below : List Frame} {meth : Method} {c : Code} {res : (Int32 × mz_St)} (E : mz_En (mz_SC ad en adK adV tA tS oF) 80 mz_cl dC dI ad ca p s m meth c prog_6_method_22_code 6 "MacroHouse$Expander" (some (.boolean))) (n : Nat) (K21 : Int32 → Nat → Int32 → Int32 → mz_St → Option (Int32 × mz_St)) (hK21 : ∀ (x1 : Int32) (x2 : Nat) (x3 : Int32) (x4 : Int32) (t : mz_St), K21 x1 x2 x3 x4 t = some res → ∀ (H : Heap) (locs : List Loc) (ls : Array Slot), mz_Wd mz_tC 80 mz_cl dC dI ad en ca s t H locs → lv_has ls 6 [(0, .ref (ad 5)), (1, .int x1), (2, .ref (ad x2)), (3, .int x3), (4, .int x4)] → W p l e (r_EX_keepUpToEndr) s m args below meth c H locs 0 0 (MQ below (mz_Q (mz_SC ad en adK adV tA tS oF) mz_tC 80 mz_cl dC dI ad en ca (some (.int res.1)) res.2) args s 0 0 (mz_A ad 80)) (F0 m 21 ls [])) : ∀ (x1 : Int32) (x2 : Nat) (x3 : Int32) (x4 : Int32) (t : mz_St), f_EX_keepUpToEndr_83 n K21 x1 x2 x3 x4 t = some res → ∀ (H : Heap) (locs : List Loc) (ls : Array Slot), mz_Wd mz_tC 80 mz_cl dC dI ad en ca s t H locs → lv_has ls 6 [(0, .ref (ad 5)), (1, .int x1), (2, .ref (ad x2)), (3, .int x3), (4, .int x4)] → W p l e (r_EX_keepUpToEndr) s m args below meth c H locs 0 0 (MQ below (mz_Q (mz_SC ad en adK adV tA tS oF) mz_tC 80 mz_cl dC dI ad en ca (some (.int res.1)) res.2) args s 0 0 (mz_A ad 80)) (F0 m 83 ls []) := by
  obtain ⟨hx, hb, hml, hown, hcx, -, -, hSX, -, -, hSK⟩ := id E
  intro x1 x2 x3 x4 t hf H locs ls w hl
  unfold f_EX_keepUpToEndr_83 at hf
  obtain ⟨h_x2, hf⟩ := mz_gd hf
  refine lv_iinc (v := (x3 + (1 : Int32))) (lv' := [(3, .int (x3 + (1 : Int32))), (0, .ref (ad 5)), (1, .int x1), (2, .ref (ad x2)), (4, .int x4)]) hx hb d_EX_keepUpToEndr_83 hl (k := 3) rfl rfl (by decide) rfl (fun ls hl => ?_)
  refine lv_goto (tgt := 100) hx hb d_EX_keepUpToEndr_86 (by decide) ?_
  exact b_EX_keepUpToEndr_100 E n K21 hK21 x1 x2 (x3 + (1 : Int32)) x4 t hf _ _ _ w (lv_sub hl [1, 2, 3, 0, 4] rfl)
set_option maxRecDepth 100000 in
set_option maxHeartbeats 4000000 in
theorem b_EX_keepUpToEndr_21 {dC : Nat → ClassId} {dI : Nat → Nat → Nat} {ad en adK adV : Nat → Nat} {tA tS : Nat} {oF : Option Nat} {ca : Nat → ClassId} {p : Program} {l : Launch} {e : Env} {s : State} {m : MethodId} {args : Array Value} {below : List Frame} {meth : Method} {c : Code} {res : (Int32 × mz_St)} (E : mz_En (mz_SC ad en adK adV tA tS oF) 80 mz_cl dC dI ad ca p s m meth c prog_6_method_22_code 6 "MacroHouse$Expander" (some (.boolean))) (n : Nat) (k : Nat) : ∀ (x1 : Int32) (x2 : Nat) (x3 : Int32) (x4 : Int32) (t : mz_St), f_EX_keepUpToEndr_21 n k x1 x2 x3 x4 t = some res → ∀ (H : Heap) (locs : List Loc) (ls : Array Slot), mz_Wd mz_tC 80 mz_cl dC dI ad en ca s t H locs → lv_has ls 6 [(0, .ref (ad 5)), (1, .int x1), (2, .ref (ad x2)), (3, .int x3), (4, .int x4)] → W p l e (r_EX_keepUpToEndr) s m args below meth c H locs 0 0 (MQ below (mz_Q (mz_SC ad en adK adV tA tS oF) mz_tC 80 mz_cl dC dI ad en ca (some (.int res.1)) res.2) args s 0 0 (mz_A ad 80)) (F0 m 21 ls []) := by
  obtain ⟨hx, hb, hml, hown, hcx, -, -, hSX, -, -, hSK⟩ := id E
  induction k with
  | zero => intro x1 x2 x3 x4 t hf; exact absurd hf (by unfold f_EX_keepUpToEndr_21; exact fun h => nomatch h)
  | succ k ih =>
    intro x1 x2 x3 x4 t hf H locs ls w hl
    unfold f_EX_keepUpToEndr_21 at hf
    obtain ⟨h_x2, hf⟩ := mz_gd hf
    refine lv_iload hx hb d_EX_keepUpToEndr_21 (lv_at hl 4 rfl) ?_
    refine lv_aload_n hx hb d_EX_keepUpToEndr_23 rfl (lv_at hl 2 rfl) ?_
    refine mz_get E w x2 2 (v := .int (mz_gI t x2 2)) (mz_fN h_x2) (mz_tC_f h_x2) rfl ii_10 (by decide) (Nat.le_of_ble_eq_true rfl) k_276 rfl d_EX_keepUpToEndr_24 ?_
    refine lv_icmp_ge (tgt := 112) hx hb d_EX_keepUpToEndr_27 (by decide) (fun hc4 => ?_) (fun hc4 => ?_)
    · have hf := mz_t hc4 hf
      refine lv_aload_n hx hb d_EX_keepUpToEndr_112 rfl (lv_at hl 0 rfl) ?_
      refine lv_iload_n hx hb d_EX_keepUpToEndr_113 rfl (lv_at hl 1 rfl) ?_
      refine mz_put E w 5 11 (v := x1) (by decide) rfl rfl ii_2 tk_2 nm_2 (by decide) (Nat.le_of_ble_eq_true rfl) k_389 rfl (tk_2 11 (by decide)) rfl rfl rfl d_EX_keepUpToEndr_114 (fun H locs w => ?_)
      obtain ⟨t5, e_t5, hf⟩ := mz_lt hf
      rw [← e_t5] at w
      refine lv_aload_n hx hb d_EX_keepUpToEndr_117 rfl (lv_at hl 0 rfl) ?_
      refine lv_iconst (v := (5 : Int32)) hx hb d_EX_keepUpToEndr_118 (by decide) ?_
      obtain ⟨q6, hq7, hf⟩ := mz_bd hf
      refine mz_callV E w (k := 5) (As := [.int (5 : Int32)]) (rest := []) (c_EX_fail hSK l n (5 : Int32) t5 q6 hq7) (by decide) rfl rfl k_537 k_3 k_534 k_536 ks_7 hm_EX_fail ⟨⟨rfl, rfl⟩, Nat.le_of_ble_eq_true rfl, Nat.le_of_ble_eq_true rfl⟩ rfl hl.1 rfl (Nat.le_of_ble_eq_true rfl) d_EX_keepUpToEndr_119 ⟨Nat.zero_le _, Nat.zero_le _⟩ (st1 := [.int q6.1]) rfl (fun H locs w => ?_)
      obtain ⟨hz8, hf⟩ := mz_gd hf
      obtain rfl := Option.some.inj hf
      exact mz_zret E w (mz_b01 hz8) rfl d_EX_keepUpToEndr_122
    · have hf := mz_f hc4 hf
      refine lv_aload_n hx hb d_EX_keepUpToEndr_30 rfl (lv_at hl 0 rfl) ?_
      refine lv_aload_n hx hb d_EX_keepUpToEndr_31 rfl (lv_at hl 2 rfl) ?_
      obtain ⟨q9, hq10, hf⟩ := mz_bd hf
      refine mz_callV E w (k := 5) (As := [.ref (ad x2)]) (rest := []) (c_EX_look hSK l n x2 t q9 hq10) (by decide) rfl rfl k_533 k_3 k_530 k_532 ks_6 hm_EX_look ⟨⟨rfl, rfl⟩, Nat.le_of_ble_eq_true rfl, Nat.le_of_ble_eq_true rfl⟩ rfl hl.1 rfl (Nat.le_of_ble_eq_true rfl) d_EX_keepUpToEndr_32 ⟨Nat.zero_le _, Nat.zero_le _⟩ (st1 := [.int q9.1]) rfl (fun H locs w => ?_)
      refine lv_if_ne (tgt := 40) hx hb d_EX_keepUpToEndr_35 (by decide) (fun hc11 => ?_) (fun hc11 => ?_)
      · have hf := mz_f hc11 hf
        refine lv_aload_n hx hb d_EX_keepUpToEndr_40 rfl (lv_at hl 0 rfl) ?_
        refine mz_get E w 5 0 (v := .ref (ad 1)) (by decide) rfl rfl ii_2 (by decide) (Nat.le_of_ble_eq_true rfl) k_370 rfl d_EX_keepUpToEndr_41 ?_
        refine lv_aload_n hx hb d_EX_keepUpToEndr_44 rfl (lv_at hl 0 rfl) ?_
        refine mz_get E w 5 0 (v := .ref (ad 1)) (by decide) rfl rfl ii_2 (by decide) (Nat.le_of_ble_eq_true rfl) k_370 rfl d_EX_keepUpToEndr_45 ?_
        refine lv_iload hx hb d_EX_keepUpToEndr_48 (lv_at hl 4 rfl) ?_
        obtain ⟨q12, hq13, hf⟩ := mz_bd hf
        refine mz_callV E w (k := 1) (As := [.int x4]) (rest := [.ref (ad 1)]) (c_SI_startOf hSK l n x4 q9.2 q12 hq13) (by decide) rfl rfl k_553 k_2 k_550 k_551 k_552 hm_SI_startOf ⟨⟨rfl, rfl⟩, Nat.le_of_ble_eq_true rfl, Nat.le_of_ble_eq_true rfl⟩ rfl hl.1 rfl (Nat.le_of_ble_eq_true rfl) d_EX_keepUpToEndr_50 ⟨Nat.zero_le _, Nat.zero_le _⟩ (st1 := [.int q12.1, .ref (ad 1)]) rfl (fun H locs w => ?_)
        refine lv_aload_n hx hb d_EX_keepUpToEndr_53 rfl (lv_at hl 0 rfl) ?_
        refine mz_get E w 5 0 (v := .ref (ad 1)) (by decide) rfl rfl ii_2 (by decide) (Nat.le_of_ble_eq_true rfl) k_370 rfl d_EX_keepUpToEndr_54 ?_
        refine lv_iload hx hb d_EX_keepUpToEndr_57 (lv_at hl 4 rfl) ?_
        obtain ⟨q14, hq15, hf⟩ := mz_bd hf
        refine mz_callV E w (k := 1) (As := [.int x4]) (rest := [.int q12.1, .ref (ad 1)]) (c_SI_stopOf hSK l n x4 q12.2 q14 hq15) (by decide) rfl rfl k_557 k_2 k_554 k_555 k_556 hm_SI_stopOf ⟨⟨rfl, rfl⟩, Nat.le_of_ble_eq_true rfl, Nat.le_of_ble_eq_true rfl⟩ rfl hl.1 rfl (Nat.le_of_ble_eq_true rfl) d_EX_keepUpToEndr_59 ⟨Nat.zero_le _, Nat.zero_le _⟩ (st1 := [.int q14.1, .int q12.1, .ref (ad 1)]) rfl (fun H locs w => ?_)
        obtain ⟨q16, hq17, hf⟩ := mz_bd hf
        refine mz_callS E w (As := [.ref (ad 1), .int q12.1, .int q14.1]) (rest := []) (c_DI_of hSK l n q12.1 q14.1 q14.2 q16 hq17) k_560 k_7 k_558 k_559 hm_DI_of ⟨⟨rfl, rfl⟩, Nat.le_of_ble_eq_true rfl, Nat.le_of_ble_eq_true rfl⟩ rfl hl.1 rfl (Nat.le_of_ble_eq_true rfl) d_EX_keepUpToEndr_62 ⟨Nat.zero_le _, Nat.zero_le _⟩ (st1 := [.ref (en q16.1.toNatClampNeg)]) rfl (fun H locs w => ?_)
        refine lv_astore (lv' := [(5, .ref (en q16.1.toNatClampNeg)), (0, .ref (ad 5)), (1, .int x1), (2, .ref (ad x2)), (3, .int x3), (4, .int x4)]) hx hb d_EX_keepUpToEndr_65 hl (by decide) rfl (fun ls hl => ?_)
        refine lv_aload hx hb d_EX_keepUpToEndr_67 (lv_at hl 0 rfl) ?_
        refine mz_gse E w (11 : Int32) (by decide) rfl k_982 d_EX_keepUpToEndr_69 ?_
        obtain ⟨hg19, hf⟩ := mz_gd hf
        refine mz_aeq E (tgt := 83) hg19 d_EX_keepUpToEndr_72 (by decide) (fun hc18 => ?_) (fun hc18 => ?_)
        · have hf := mz_t hc18 hf
          exact b_EX_keepUpToEndr_83 E n (f_EX_keepUpToEndr_21 n k) ih x1 x2 x3 x4 q16.2 hf _ _ _ w (lv_sub hl [1, 2, 3, 4, 5] rfl)
        · have hf := mz_f hc18 hf
          refine lv_aload hx hb d_EX_keepUpToEndr_75 (lv_at hl 0 rfl) ?_
          refine mz_gse E w (12 : Int32) (by decide) rfl k_983 d_EX_keepUpToEndr_77 ?_
          obtain ⟨hg22, hf⟩ := mz_gd hf
          refine mz_ane E (tgt := 89) hg22 d_EX_keepUpToEndr_80 (by decide) (fun hc21 => ?_) (fun hc21 => ?_)
          · have hf := mz_f hc21 hf
            refine lv_aload hx hb d_EX_keepUpToEndr_89 (lv_at hl 0 rfl) ?_
            refine mz_gse E w (13 : Int32) (by decide) rfl k_984 d_EX_keepUpToEndr_91 ?_
            obtain ⟨hg24, hf⟩ := mz_gd hf
            refine mz_ane E (tgt := 100) hg24 d_EX_keepUpToEndr_94 (by decide) (fun hc23 => ?_) (fun hc23 => ?_)
            · have hf := mz_f hc23 hf
              exact b_EX_keepUpToEndr_100 E n (f_EX_keepUpToEndr_21 n k) ih x1 x2 x3 x4 q16.2 hf _ _ _ w (lv_sub hl [1, 2, 3, 4, 5] rfl)
            · have hf := mz_t hc23 hf
              refine lv_iinc (v := (x3 + (-1 : Int32))) (lv' := [(3, .int (x3 + (-1 : Int32))), (5, .ref (en q16.1.toNatClampNeg)), (0, .ref (ad 5)), (1, .int x1), (2, .ref (ad x2)), (4, .int x4)]) hx hb d_EX_keepUpToEndr_97 hl (k := 4) rfl rfl (by decide) rfl (fun ls hl => ?_)
              exact b_EX_keepUpToEndr_100 E n (f_EX_keepUpToEndr_21 n k) ih x1 x2 (x3 + (-1 : Int32)) x4 q16.2 hf _ _ _ w (lv_sub hl [2, 3, 4, 0, 5] rfl)
          · have hf := mz_t hc21 hf
            exact b_EX_keepUpToEndr_83 E n (f_EX_keepUpToEndr_21 n k) ih x1 x2 x3 x4 q16.2 hf _ _ _ w (lv_sub hl [1, 2, 3, 4, 5] rfl)
      · have hf := mz_t hc11 hf
        refine lv_iconst (v := (0 : Int32)) hx hb d_EX_keepUpToEndr_38 (by decide) ?_
        obtain rfl := Option.some.inj hf
        exact mz_zret E w (by decide) rfl d_EX_keepUpToEndr_39
set_option maxRecDepth 100000 in
set_option maxHeartbeats 4000000 in
theorem c_EX_keepUpToEndr {dC : Nat → ClassId} {dI : Nat → Nat → Nat} {ad en adK adV : Nat → Nat} {tA tS : Nat} {oF : Option Nat} {ca : Nat → ClassId} (hSK : mz_SK (mz_SC ad en adK adV tA tS oF) ad 80) (l : Launch) (n : Nat) (t : mz_St) (res : (Int32 × mz_St)) (hf : f_EX_keepUpToEndr n t = some res) : mz_C (mz_SC ad en adK adV tA tS oF) mz_tC 80 mz_cl dC dI ad en ca l y_EX_keepUpToEndr prog_6_method_22_code 6 (some (.boolean)) (r_EX_keepUpToEndr) [.ref (ad 5)] t (some (.int res.1)) res.2 := by
  unfold f_EX_keepUpToEndr at hf
  refine mz_met hSK (by decide) (Nat.le_of_ble_eq_true rfl) ?_
  intro p e s m args below meth c ls E w hl
  obtain ⟨hx, hb, hml, hown, hcx, -, -, hSX, -, -, -⟩ := id E
  have hl : lv_has ls 6 [(0, .ref (ad 5))] := hl
  refine lv_aload_n hx hb d_EX_keepUpToEndr_0 rfl (lv_at hl 0 rfl) ?_
  refine mz_get E w 5 11 (v := .int (mz_gI t 5 11)) (by decide) rfl rfl ii_2 (by decide) (Nat.le_of_ble_eq_true rfl) k_389 rfl d_EX_keepUpToEndr_1 ?_
  refine lv_istore_n (lv' := [(1, .int (mz_gI t 5 11)), (0, .ref (ad 5))]) hx hb d_EX_keepUpToEndr_4 rfl hl (by decide) rfl (fun ls hl => ?_)
  refine lv_aload_n hx hb d_EX_keepUpToEndr_5 rfl (lv_at hl 1 rfl) ?_
  refine mz_get E w 5 5 (v := .ref (ad 30)) (by decide) rfl rfl ii_2 (by decide) (Nat.le_of_ble_eq_true rfl) k_377 rfl d_EX_keepUpToEndr_6 ?_
  obtain ⟨q1, hq2, hf⟩ := mz_bd hf
  refine mz_callV E w (k := 30) (As := []) (rest := []) (c_SK_top hSK l n t q1 hq2) (by decide) rfl rfl k_484 k_13 k_481 k_482 k_483 hm_SK_top ⟨⟨rfl, rfl⟩, Nat.le_of_ble_eq_true rfl, Nat.le_of_ble_eq_true rfl⟩ rfl hl.1 rfl (Nat.le_of_ble_eq_true rfl) d_EX_keepUpToEndr_9 ⟨Nat.zero_le _, Nat.zero_le _⟩ (st1 := [.ref (ad q1.1)]) rfl (fun H locs w => ?_)
  obtain ⟨hr3, hf⟩ := mz_gd hf
  refine lv_astore_n (lv' := [(2, .ref (ad q1.1)), (1, .int (mz_gI t 5 11)), (0, .ref (ad 5))]) hx hb d_EX_keepUpToEndr_12 rfl hl (by decide) rfl (fun ls hl => ?_)
  refine lv_iconst (v := (1 : Int32)) hx hb d_EX_keepUpToEndr_13 (by decide) ?_
  refine lv_istore_n (lv' := [(3, .int (1 : Int32)), (2, .ref (ad q1.1)), (1, .int (mz_gI t 5 11)), (0, .ref (ad 5))]) hx hb d_EX_keepUpToEndr_14 rfl hl (by decide) rfl (fun ls hl => ?_)
  refine lv_aload_n hx hb d_EX_keepUpToEndr_15 rfl (lv_at hl 1 rfl) ?_
  refine mz_get E w q1.1 3 (v := .int (mz_gI q1.2 q1.1 3)) (mz_fN hr3) (mz_tC_f hr3) rfl ii_10 (by decide) (Nat.le_of_ble_eq_true rfl) k_279 rfl d_EX_keepUpToEndr_16 ?_
  refine lv_istore (lv' := [(4, .int (mz_gI q1.2 q1.1 3)), (3, .int (1 : Int32)), (2, .ref (ad q1.1)), (1, .int (mz_gI t 5 11)), (0, .ref (ad 5))]) hx hb d_EX_keepUpToEndr_19 hl (by decide) rfl (fun ls hl => ?_)
  exact b_EX_keepUpToEndr_21 E n n (mz_gI t 5 11) q1.1 (1 : Int32) (mz_gI q1.2 q1.1 3) q1.2 hf _ _ _ w (lv_sub hl [4, 3, 2, 1, 0] rfl)

/-! MacroHouse$Expander.openRepeated(LMacroHouse$Directive;II)V -/
abbrev r_EX_openRepeated : Room := { frames := 2, cells := 0, slots := 0, locals := 42 }
def f_EX_openRepeated (n : Nat) (x1 : Int32) (x2 : Int32) (x3 : Int32) (t : mz_St) : Option mz_St := mz_let (mz_pI t 5 11 x2) fun t1 => if x3 = 0 then (some t1) else ((f_SK_spare n t1).bind fun q3 => if mz_fr q3.1 then ((f_FR_begin n q3.1 x1 (x2 + (1 : Int32)) (mz_gI t 5 11) x3 (mz_gI q3.2 7 5) q3.2).bind fun q6 => (f_SK_open n x2 q6).bind fun q8 => if q8.1 = 0 then ((f_EX_fail n (6 : Int32) q8.2).bind fun q11 => some q11.2) else (some q8.2)) else none)
set_option maxRecDepth 100000 in
set_option maxHeartbeats 4000000 in
theorem c_EX_openRepeated {SX : State → Heap → Prop} {dC : Nat → ClassId} {dI : Nat → Nat → Nat} {ad en : Nat → Nat} {ca : Nat → ClassId} (hSK : mz_SK SX ad 80) (l : Launch) (n : Nat) (x1 : Int32) (x2 : Int32) (x3 : Int32) (t : mz_St) (res : mz_St) (hf : f_EX_openRepeated n x1 x2 x3 t = some res) : mz_C SX mz_tC 80 mz_cl dC dI ad en ca l y_EX_openRepeated prog_6_method_25_code 5 none (r_EX_openRepeated) [.ref (ad 5), .ref (en x1.toNatClampNeg), .int x2, .int x3] t none res := by
  unfold f_EX_openRepeated at hf
  refine mz_met hSK (by decide) (Nat.le_of_ble_eq_true rfl) ?_
  intro p e s m args below meth c ls E w hl
  obtain ⟨hx, hb, hml, hown, hcx, -, -, hSX, -, -, -⟩ := id E
  have hl : lv_has ls 5 [(0, .ref (ad 5)), (1, .ref (en x1.toNatClampNeg)), (2, .int x2), (3, .int x3)] := hl
  refine lv_aload_n hx hb d_EX_openRepeated_0 rfl (lv_at hl 0 rfl) ?_
  refine mz_get E w 5 11 (v := .int (mz_gI t 5 11)) (by decide) rfl rfl ii_2 (by decide) (Nat.le_of_ble_eq_true rfl) k_389 rfl d_EX_openRepeated_1 ?_
  refine lv_istore (lv' := [(4, .int (mz_gI t 5 11)), (0, .ref (ad 5)), (1, .ref (en x1.toNatClampNeg)), (2, .int x2), (3, .int x3)]) hx hb d_EX_openRepeated_4 hl (by decide) rfl (fun ls hl => ?_)
  refine lv_aload_n hx hb d_EX_openRepeated_6 rfl (lv_at hl 1 rfl) ?_
  refine lv_iload_n hx hb d_EX_openRepeated_7 rfl (lv_at hl 3 rfl) ?_
  refine mz_put E w 5 11 (v := x2) (by decide) rfl rfl ii_2 tk_2 nm_2 (by decide) (Nat.le_of_ble_eq_true rfl) k_389 rfl (tk_2 11 (by decide)) rfl rfl rfl d_EX_openRepeated_8 (fun H locs w => ?_)
  obtain ⟨t1, e_t1, hf⟩ := mz_lt hf
  rw [← e_t1] at w
  refine lv_iload_n hx hb d_EX_openRepeated_11 rfl (lv_at hl 4 rfl) ?_
  refine lv_if_ne (tgt := 16) hx hb d_EX_openRepeated_12 (by decide) (fun hc2 => ?_) (fun hc2 => ?_)
  · have hf := mz_f hc2 hf
    refine lv_aload_n hx hb d_EX_openRepeated_16 rfl (lv_at hl 1 rfl) ?_
    refine mz_get E w 5 5 (v := .ref (ad 30)) (by decide) rfl rfl ii_2 (by decide) (Nat.le_of_ble_eq_true rfl) k_377 rfl d_EX_openRepeated_17 ?_
    obtain ⟨q3, hq4, hf⟩ := mz_bd hf
    refine mz_callV E w (k := 30) (As := []) (rest := []) (c_SK_spare hSK l n t1 q3 hq4) (by decide) rfl rfl k_753 k_13 k_767 k_751 k_752 hm_SK_spare ⟨⟨rfl, rfl⟩, Nat.le_of_ble_eq_true rfl, Nat.le_of_ble_eq_true rfl⟩ rfl hl.1 rfl (Nat.le_of_ble_eq_true rfl) d_EX_openRepeated_20 ⟨Nat.zero_le _, Nat.zero_le _⟩ (st1 := [.ref (ad q3.1)]) rfl (fun H locs w => ?_)
    obtain ⟨hr5, hf⟩ := mz_gd hf
    refine lv_aload_n hx hb d_EX_openRepeated_23 rfl (lv_at hl 2 rfl) ?_
    refine lv_iload_n hx hb d_EX_openRepeated_24 rfl (lv_at hl 3 rfl) ?_
    refine lv_iconst (v := (1 : Int32)) hx hb d_EX_openRepeated_25 (by decide) ?_
    refine lv_iadd hx hb d_EX_openRepeated_26 ?_
    refine lv_iload hx hb d_EX_openRepeated_27 (lv_at hl 0 rfl) ?_
    refine lv_iload_n hx hb d_EX_openRepeated_29 rfl (lv_at hl 4 rfl) ?_
    refine lv_aload_n hx hb d_EX_openRepeated_30 rfl (lv_at hl 1 rfl) ?_
    refine mz_get E w 5 2 (v := .ref (ad 7)) (by decide) rfl rfl ii_2 (by decide) (Nat.le_of_ble_eq_true rfl) k_372 rfl d_EX_openRepeated_31 ?_
    refine mz_get E w 7 5 (v := .int (mz_gI q3.2 7 5)) (by decide) rfl rfl ii_4 (by decide) (Nat.le_of_ble_eq_true rfl) k_79 rfl d_EX_openRepeated_34 ?_
    obtain ⟨q6, hq7, hf⟩ := mz_bd hf
    refine mz_callV E w (k := q3.1) (As := [.ref (en x1.toNatClampNeg), .int (x2 + (1 : Int32)), .int (mz_gI t 5 11), .int x3, .int (mz_gI q3.2 7 5)]) (rest := []) (c_FR_begin hSK l n q3.1 x1 (x2 + (1 : Int32)) (mz_gI t 5 11) x3 (mz_gI q3.2 7 5) q3.2 q6 hq7) (mz_fN hr5) (mz_tC_f hr5) rfl k_475 k_14 k_777 k_473 k_474 hm_FR_begin ⟨⟨rfl, rfl⟩, Nat.le_of_ble_eq_true rfl, Nat.le_of_ble_eq_true rfl⟩ rfl hl.1 rfl (Nat.le_of_ble_eq_true rfl) d_EX_openRepeated_37 ⟨Nat.zero_le _, Nat.zero_le _⟩ (st1 := []) rfl (fun H locs w => ?_)
    refine lv_aload_n hx hb d_EX_openRepeated_40 rfl (lv_at hl 1 rfl) ?_
    refine mz_get E w 5 5 (v := .ref (ad 30)) (by decide) rfl rfl ii_2 (by decide) (Nat.le_of_ble_eq_true rfl) k_377 rfl d_EX_openRepeated_41 ?_
    refine lv_iload_n hx hb d_EX_openRepeated_44 rfl (lv_at hl 3 rfl) ?_
    obtain ⟨q8, hq9, hf⟩ := mz_bd hf
    refine mz_callV E w (k := 30) (As := [.int x2]) (rest := []) (c_SK_open hSK l n x2 q6 q8 hq9) (by decide) rfl rfl k_781 k_13 k_778 k_779 k_780 hm_SK_open ⟨⟨rfl, rfl⟩, Nat.le_of_ble_eq_true rfl, Nat.le_of_ble_eq_true rfl⟩ rfl hl.1 rfl (Nat.le_of_ble_eq_true rfl) d_EX_openRepeated_45 ⟨Nat.zero_le _, Nat.zero_le _⟩ (st1 := [.int q8.1]) rfl (fun H locs w => ?_)
    refine lv_if_ne (tgt := 58) hx hb d_EX_openRepeated_48 (by decide) (fun hc10 => ?_) (fun hc10 => ?_)
    · have hf := mz_f hc10 hf
      obtain rfl := Option.some.inj hf
      exact mz_vret E w rfl d_EX_openRepeated_58
    · have hf := mz_t hc10 hf
      refine lv_aload_n hx hb d_EX_openRepeated_51 rfl (lv_at hl 1 rfl) ?_
      refine lv_bipush (v := (6 : Int32)) hx hb d_EX_openRepeated_52 (by decide) ?_
      obtain ⟨q11, hq12, hf⟩ := mz_bd hf
      refine mz_callV E w (k := 5) (As := [.int (6 : Int32)]) (rest := []) (c_EX_fail hSK l n (6 : Int32) q8.2 q11 hq12) (by decide) rfl rfl k_537 k_3 k_534 k_536 ks_7 hm_EX_fail ⟨⟨rfl, rfl⟩, Nat.le_of_ble_eq_true rfl, Nat.le_of_ble_eq_true rfl⟩ rfl hl.1 rfl (Nat.le_of_ble_eq_true rfl) d_EX_openRepeated_54 ⟨Nat.zero_le _, Nat.zero_le _⟩ (st1 := [.int q11.1]) rfl (fun H locs w => ?_)
      refine lv_pop hx hb d_EX_openRepeated_57 rfl ?_
      obtain rfl := Option.some.inj hf
      exact mz_vret E w rfl d_EX_openRepeated_58
  · have hf := mz_t hc2 hf
    obtain rfl := Option.some.inj hf
    exact mz_vret E w rfl d_EX_openRepeated_15

/-! MacroHouse$Expander.openRept()V -/
abbrev r_EX_openRept : Room := { frames := 74, cells := 0, slots := 0, locals := 2312 }
def f_EX_openRept_32 (n : Nat) (t : mz_St) : Option mz_St := (f_EX_fail n (4 : Int32) t).bind fun q7 => some q7.2
def f_EX_openRept (n : Nat) (t : mz_St) : Option mz_St := (f_RE_readValue n (f_RE_factor n 12) (0 : Int32) t).bind fun q1 => (f_EX_isValueGood n q1.2).bind fun q3 => if q3.1 = 0 then (some q3.2) else (if q1.1 < 0 then (f_EX_openRept_32 n  q3.2) else (if q1.1 ≤ (100 : Int32) then ((f_EX_keepUpToEndr n q3.2).bind fun q10 => if q10.1 = 0 then (some q10.2) else ((f_EX_openRepeated n (11 : Int32) (mz_gI t 5 11) q1.1 q10.2).bind fun q13 => some q13)) else (f_EX_openRept_32 n  q3.2)))
set_option maxRecDepth 100000 in
set_option maxHeartbeats 4000000 in
theorem b_EX_openRept_32 {dC : Nat → ClassId} {dI : Nat → Nat → Nat} {ad en adK adV : Nat → Nat} {tA tS : Nat} {oF : Option Nat} {ca : Nat → ClassId} {p : Program} {l : Launch} {e : Env} {s : State} {m : MethodId} {args : Array Value} {below : List Frame} {meth : Method} {c : Code} {res : mz_St} (E : mz_En (mz_SC ad en adK adV tA tS oF) 80 mz_cl dC dI ad ca p s m meth c prog_6_method_23_code 3 "MacroHouse$Expander" none) (n : Nat) : ∀ (t : mz_St), f_EX_openRept_32 n t = some res → ∀ (H : Heap) (locs : List Loc) (ls : Array Slot), mz_Wd mz_tC 80 mz_cl dC dI ad en ca s t H locs → lv_has ls 3 [(0, .ref (ad 5))] → W p l e (r_EX_openRept) s m args below meth c H locs 0 0 (MQ below (mz_Q (mz_SC ad en adK adV tA tS oF) mz_tC 80 mz_cl dC dI ad en ca none res) args s 0 0 (mz_A ad 80)) (F0 m 32 ls []) := by
  obtain ⟨hx, hb, hml, hown, hcx, -, -, hSX, -, -, hSK⟩ := id E
  intro t hf H locs ls w hl
  unfold f_EX_openRept_32 at hf
  refine lv_aload_n hx hb d_EX_openRept_32 rfl (lv_at hl 0 rfl) ?_
  refine lv_iconst (v := (4 : Int32)) hx hb d_EX_openRept_33 (by decide) ?_
  obtain ⟨q7, hq8, hf⟩ := mz_bd hf
  refine mz_callV E w (k := 5) (As := [.int (4 : Int32)]) (rest := []) (c_EX_fail hSK l n (4 : Int32) t q7 hq8) (by decide) rfl rfl k_537 k_3 k_534 k_536 ks_7 hm_EX_fail ⟨⟨rfl, rfl⟩, Nat.le_of_ble_eq_true rfl, Nat.le_of_ble_eq_true rfl⟩ rfl hl.1 rfl (Nat.le_of_ble_eq_true rfl) d_EX_openRept_34 ⟨Nat.zero_le _, Nat.zero_le _⟩ (st1 := [.int q7.1]) rfl (fun H locs w => ?_)
  refine lv_pop hx hb d_EX_openRept_37 rfl ?_
  refine lv_goto (tgt := 57) hx hb d_EX_openRept_38 (by decide) ?_
  obtain rfl := Option.some.inj hf
  exact mz_vret E w rfl d_EX_openRept_57
set_option maxRecDepth 100000 in
set_option maxHeartbeats 4000000 in
theorem c_EX_openRept {dC : Nat → ClassId} {dI : Nat → Nat → Nat} {ad en adK adV : Nat → Nat} {tA tS : Nat} {oF : Option Nat} {ca : Nat → ClassId} (hSK : mz_SK (mz_SC ad en adK adV tA tS oF) ad 80) (l : Launch) (n : Nat) (t : mz_St) (res : mz_St) (hf : f_EX_openRept n t = some res) : mz_C (mz_SC ad en adK adV tA tS oF) mz_tC 80 mz_cl dC dI ad en ca l y_EX_openRept prog_6_method_23_code 3 none (r_EX_openRept) [.ref (ad 5)] t none res := by
  unfold f_EX_openRept at hf
  refine mz_met hSK (by decide) (Nat.le_of_ble_eq_true rfl) ?_
  intro p e s m args below meth c ls E w hl
  obtain ⟨hx, hb, hml, hown, hcx, -, -, hSX, -, -, -⟩ := id E
  have hl : lv_has ls 3 [(0, .ref (ad 5))] := hl
  refine lv_aload_n hx hb d_EX_openRept_0 rfl (lv_at hl 0 rfl) ?_
  refine mz_get E w 5 11 (v := .int (mz_gI t 5 11)) (by decide) rfl rfl ii_2 (by decide) (Nat.le_of_ble_eq_true rfl) k_389 rfl d_EX_openRept_1 ?_
  refine lv_istore_n (lv' := [(1, .int (mz_gI t 5 11)), (0, .ref (ad 5))]) hx hb d_EX_openRept_4 rfl hl (by decide) rfl (fun ls hl => ?_)
  refine lv_aload_n hx hb d_EX_openRept_5 rfl (lv_at hl 1 rfl) ?_
  refine mz_get E w 5 1 (v := .ref (ad 6)) (by decide) rfl rfl ii_2 (by decide) (Nat.le_of_ble_eq_true rfl) k_371 rfl d_EX_openRept_6 ?_
  refine lv_iconst (v := (0 : Int32)) hx hb d_EX_openRept_9 (by decide) ?_
  obtain ⟨q1, hq2, hf⟩ := mz_bd hf
  refine mz_callV E w (k := 6) (As := [.int (0 : Int32)]) (rest := []) (c_RE_readValue hSK l n (f_RE_factor n 12) (c_RE_factor hSK l n 12) (0 : Int32) t q1 hq2) (by decide) rfl rfl k_804 k_11 k_801 k_802 k_803 hm_RE_readValue ⟨⟨rfl, rfl⟩, Nat.le_of_ble_eq_true rfl, Nat.le_of_ble_eq_true rfl⟩ rfl hl.1 rfl (Nat.le_of_ble_eq_true rfl) d_EX_openRept_10 ⟨Nat.zero_le _, Nat.zero_le _⟩ (st1 := [.int q1.1]) rfl (fun H locs w => ?_)
  refine lv_istore_n (lv' := [(2, .int q1.1), (1, .int (mz_gI t 5 11)), (0, .ref (ad 5))]) hx hb d_EX_openRept_13 rfl hl (by decide) rfl (fun ls hl => ?_)
  refine lv_aload_n hx hb d_EX_openRept_14 rfl (lv_at hl 2 rfl) ?_
  obtain ⟨q3, hq4, hf⟩ := mz_bd hf
  refine mz_callV E w (k := 5) (As := []) (rest := []) (c_EX_isValueGood hSK l n q1.2 q3 hq4) (by decide) rfl rfl k_858 k_3 k_855 k_857 ks_30 hm_EX_isValueGood ⟨⟨rfl, rfl⟩, Nat.le_of_ble_eq_true rfl, Nat.le_of_ble_eq_true rfl⟩ rfl hl.1 rfl (Nat.le_of_ble_eq_true rfl) d_EX_openRept_15 ⟨Nat.zero_le _, Nat.zero_le _⟩ (st1 := [.int q3.1]) rfl (fun H locs w => ?_)
  refine lv_if_ne (tgt := 22) hx hb d_EX_openRept_18 (by decide) (fun hc5 => ?_) (fun hc5 => ?_)
  · have hf := mz_f hc5 hf
    refine lv_iload_n hx hb d_EX_openRept_22 rfl (lv_at hl 0 rfl) ?_
    refine lv_if_lt (tgt := 32) hx hb d_EX_openRept_23 (by decide) (fun hc6 => ?_) (fun hc6 => ?_)
    · have hf := mz_t hc6 hf
      exact b_EX_openRept_32 E n  q3.2 hf _ _ _ w (lv_sub hl [2] rfl)
    · have hf := mz_f hc6 hf
      refine lv_iload_n hx hb d_EX_openRept_26 rfl (lv_at hl 0 rfl) ?_
      refine lv_bipush (v := (100 : Int32)) hx hb d_EX_openRept_27 (by decide) ?_
      refine lv_icmp_le (tgt := 41) hx hb d_EX_openRept_29 (by decide) (fun hc9 => ?_) (fun hc9 => ?_)
      · have hf := mz_t hc9 hf
        refine lv_aload_n hx hb d_EX_openRept_41 rfl (lv_at hl 2 rfl) ?_
        obtain ⟨q10, hq11, hf⟩ := mz_bd hf
        refine mz_callV E w (k := 5) (As := []) (rest := []) (c_EX_keepUpToEndr hSK l n q3.2 q10 hq11) (by decide) rfl rfl k_981 k_3 k_978 k_980 ks_41 hm_EX_keepUpToEndr ⟨⟨rfl, rfl⟩, Nat.le_of_ble_eq_true rfl, Nat.le_of_ble_eq_true rfl⟩ rfl hl.1 rfl (Nat.le_of_ble_eq_true rfl) d_EX_openRept_42 ⟨Nat.zero_le _, Nat.zero_le _⟩ (st1 := [.int q10.1]) rfl (fun H locs w => ?_)
        refine lv_if_eq (tgt := 57) hx hb d_EX_openRept_45 (by decide) (fun hc12 => ?_) (fun hc12 => ?_)
        · have hf := mz_t hc12 hf
          obtain rfl := Option.some.inj hf
          exact mz_vret E w rfl d_EX_openRept_57
        · have hf := mz_f hc12 hf
          refine lv_aload_n hx hb d_EX_openRept_48 rfl (lv_at hl 2 rfl) ?_
          refine mz_gse E w (11 : Int32) (by decide) rfl k_982 d_EX_openRept_49 ?_
          refine lv_iload_n hx hb d_EX_openRept_52 rfl (lv_at hl 1 rfl) ?_
          refine lv_iload_n hx hb d_EX_openRept_53 rfl (lv_at hl 0 rfl) ?_
          obtain ⟨q13, hq14, hf⟩ := mz_bd hf
          refine mz_callV E w (k := 5) (As := [.ref (en (11 : Int32).toNatClampNeg), .int (mz_gI t 5 11), .int q1.1]) (rest := []) (c_EX_openRepeated hSK l n (11 : Int32) (mz_gI t 5 11) q1.1 q10.2 q13 hq14) (by decide) rfl rfl k_989 k_3 k_986 k_988 ks_42 hm_EX_openRepeated ⟨⟨rfl, rfl⟩, Nat.le_of_ble_eq_true rfl, Nat.le_of_ble_eq_true rfl⟩ rfl hl.1 rfl (Nat.le_of_ble_eq_true rfl) d_EX_openRept_54 ⟨Nat.zero_le _, Nat.zero_le _⟩ (st1 := []) rfl (fun H locs w => ?_)
          obtain rfl := Option.some.inj hf
          exact mz_vret E w rfl d_EX_openRept_57
      · have hf := mz_f hc9 hf
        exact b_EX_openRept_32 E n  q3.2 hf _ _ _ w (lv_sub hl [2] rfl)
  · have hf := mz_t hc5 hf
    obtain rfl := Option.some.inj hf
    exact mz_vret E w rfl d_EX_openRept_21

/-! MacroHouse$Expander.openEach()V -/
abbrev r_EX_openEach : Room := { frames := 7, cells := 0, slots := 0, locals := 158 }
def f_EX_openEach_27 (n : Nat) (t : mz_St) : Option mz_St := (f_EX_fail n (1 : Int32) t).bind fun q4 => some q4.2
def f_EX_openEach (n : Nat) (t : mz_St) : Option mz_St := (f_RE_takeWord n t).bind fun q1 => if q1.1 = 0 then (f_EX_openEach_27 n  q1.2) else ((f_RE_take n (44 : Int32) q1.2).bind fun q6 => if q6.1 = 0 then (f_EX_openEach_27 n  q6.2) else ((f_SK_readTexts n (mz_gI q6.2 6 2) (mz_gI q6.2 5 13) q6.2).bind fun q9 => if q9.1 = (-1 : Int32) then ((f_EX_fail n (1 : Int32) q9.2).bind fun q22 => some q22.2) else ((f_SK_spare n q9.2).bind fun q12 => if mz_fr q12.1 then (mz_let (mz_pI q12.2 q12.1 9 (mz_gI q12.2 6 4)) fun t15 => mz_let (mz_pI t15 q12.1 10 (mz_gI t15 6 5)) fun t16 => (f_EX_keepUpToEndr n t16).bind fun q17 => if q17.1 = 0 then (some q17.2) else ((f_EX_openRepeated n (12 : Int32) (mz_gI t 5 11) q9.1 q17.2).bind fun q20 => some q20)) else none)))
set_option maxRecDepth 100000 in
set_option maxHeartbeats 4000000 in
theorem b_EX_openEach_27 {dC : Nat → ClassId} {dI : Nat → Nat → Nat} {ad en adK adV : Nat → Nat} {tA tS : Nat} {oF : Option Nat} {ca : Nat → ClassId} {p : Program} {l : Launch} {e : Env} {s : State} {m : MethodId} {args : Array Value} {below : List Frame} {meth : Method} {c : Code} {res : mz_St} (E : mz_En (mz_SC ad en adK adV tA tS oF) 80 mz_cl dC dI ad ca p s m meth c prog_6_method_24_code 4 "MacroHouse$Expander" none) (n : Nat) : ∀ (t : mz_St), f_EX_openEach_27 n t = some res → ∀ (H : Heap) (locs : List Loc) (ls : Array Slot), mz_Wd mz_tC 80 mz_cl dC dI ad en ca s t H locs → lv_has ls 4 [(0, .ref (ad 5))] → W p l e (r_EX_openEach) s m args below meth c H locs 0 0 (MQ below (mz_Q (mz_SC ad en adK adV tA tS oF) mz_tC 80 mz_cl dC dI ad en ca none res) args s 0 0 (mz_A ad 80)) (F0 m 27 ls []) := by
  obtain ⟨hx, hb, hml, hown, hcx, -, -, hSX, -, -, hSK⟩ := id E
  intro t hf H locs ls w hl
  unfold f_EX_openEach_27 at hf
  refine lv_aload_n hx hb d_EX_openEach_27 rfl (lv_at hl 0 rfl) ?_
  refine lv_iconst (v := (1 : Int32)) hx hb d_EX_openEach_28 (by decide) ?_
  obtain ⟨q4, hq5, hf⟩ := mz_bd hf
  refine mz_callV E w (k := 5) (As := [.int (1 : Int32)]) (rest := []) (c_EX_fail hSK l n (1 : Int32) t q4 hq5) (by decide) rfl rfl k_537 k_3 k_534 k_536 ks_7 hm_EX_fail ⟨⟨rfl, rfl⟩, Nat.le_of_ble_eq_true rfl, Nat.le_of_ble_eq_true rfl⟩ rfl hl.1 rfl (Nat.le_of_ble_eq_true rfl) d_EX_openEach_29 ⟨Nat.zero_le _, Nat.zero_le _⟩ (st1 := [.int q4.1]) rfl (fun H locs w => ?_)
  refine lv_pop hx hb d_EX_openEach_32 rfl ?_
  obtain rfl := Option.some.inj hf
  exact mz_vret E w rfl d_EX_openEach_33
set_option maxRecDepth 100000 in
set_option maxHeartbeats 4000000 in
theorem c_EX_openEach {dC : Nat → ClassId} {dI : Nat → Nat → Nat} {ad en adK adV : Nat → Nat} {tA tS : Nat} {oF : Option Nat} {ca : Nat → ClassId} (hSK : mz_SK (mz_SC ad en adK adV tA tS oF) ad 80) (l : Launch) (n : Nat) (t : mz_St) (res : mz_St) (hf : f_EX_openEach n t = some res) : mz_C (mz_SC ad en adK adV tA tS oF) mz_tC 80 mz_cl dC dI ad en ca l y_EX_openEach prog_6_method_24_code 4 none (r_EX_openEach) [.ref (ad 5)] t none res := by
  unfold f_EX_openEach at hf
  refine mz_met hSK (by decide) (Nat.le_of_ble_eq_true rfl) ?_
  intro p e s m args below meth c ls E w hl
  obtain ⟨hx, hb, hml, hown, hcx, -, -, hSX, -, -, -⟩ := id E
  have hl : lv_has ls 4 [(0, .ref (ad 5))] := hl
  refine lv_aload_n hx hb d_EX_openEach_0 rfl (lv_at hl 0 rfl) ?_
  refine mz_get E w 5 11 (v := .int (mz_gI t 5 11)) (by decide) rfl rfl ii_2 (by decide) (Nat.le_of_ble_eq_true rfl) k_389 rfl d_EX_openEach_1 ?_
  refine lv_istore_n (lv' := [(1, .int (mz_gI t 5 11)), (0, .ref (ad 5))]) hx hb d_EX_openEach_4 rfl hl (by decide) rfl (fun ls hl => ?_)
  refine lv_aload_n hx hb d_EX_openEach_5 rfl (lv_at hl 1 rfl) ?_
  refine mz_get E w 5 1 (v := .ref (ad 6)) (by decide) rfl rfl ii_2 (by decide) (Nat.le_of_ble_eq_true rfl) k_371 rfl d_EX_openEach_6 ?_
  obtain ⟨q1, hq2, hf⟩ := mz_bd hf
  refine mz_callV E w (k := 6) (As := []) (rest := []) (c_RE_takeWord hSK l n t q1 hq2) (by decide) rfl rfl k_793 k_11 k_790 k_791 k_792 hm_RE_takeWord ⟨⟨rfl, rfl⟩, Nat.le_of_ble_eq_true rfl, Nat.le_of_ble_eq_true rfl⟩ rfl hl.1 rfl (Nat.le_of_ble_eq_true rfl) d_EX_openEach_9 ⟨Nat.zero_le _, Nat.zero_le _⟩ (st1 := [.int q1.1]) rfl (fun H locs w => ?_)
  refine lv_if_eq (tgt := 27) hx hb d_EX_openEach_12 (by decide) (fun hc3 => ?_) (fun hc3 => ?_)
  · have hf := mz_t hc3 hf
    exact b_EX_openEach_27 E n  q1.2 hf _ _ _ w (lv_sub hl [1] rfl)
  · have hf := mz_f hc3 hf
    refine lv_aload_n hx hb d_EX_openEach_15 rfl (lv_at hl 1 rfl) ?_
    refine mz_get E w 5 1 (v := .ref (ad 6)) (by decide) rfl rfl ii_2 (by decide) (Nat.le_of_ble_eq_true rfl) k_371 rfl d_EX_openEach_16 ?_
    refine lv_bipush (v := (44 : Int32)) hx hb d_EX_openEach_19 (by decide) ?_
    obtain ⟨q6, hq7, hf⟩ := mz_bd hf
    refine mz_callV E w (k := 6) (As := [.int (44 : Int32)]) (rest := []) (c_RE_take hSK l n (44 : Int32) q1.2 q6 hq7) (by decide) rfl rfl k_799 k_11 k_796 k_797 k_798 hm_RE_take ⟨⟨rfl, rfl⟩, Nat.le_of_ble_eq_true rfl, Nat.le_of_ble_eq_true rfl⟩ rfl hl.1 rfl (Nat.le_of_ble_eq_true rfl) d_EX_openEach_21 ⟨Nat.zero_le _, Nat.zero_le _⟩ (st1 := [.int q6.1]) rfl (fun H locs w => ?_)
    refine lv_if_ne (tgt := 34) hx hb d_EX_openEach_24 (by decide) (fun hc8 => ?_) (fun hc8 => ?_)
    · have hf := mz_f hc8 hf
      refine lv_aload_n hx hb d_EX_openEach_34 rfl (lv_at hl 1 rfl) ?_
      refine mz_get E w 5 5 (v := .ref (ad 30)) (by decide) rfl rfl ii_2 (by decide) (Nat.le_of_ble_eq_true rfl) k_377 rfl d_EX_openEach_35 ?_
      refine lv_aload_n hx hb d_EX_openEach_38 rfl (lv_at hl 1 rfl) ?_
      refine mz_get E w 5 1 (v := .ref (ad 6)) (by decide) rfl rfl ii_2 (by decide) (Nat.le_of_ble_eq_true rfl) k_371 rfl d_EX_openEach_39 ?_
      refine mz_get E w 6 2 (v := .int (mz_gI q6.2 6 2)) (by decide) rfl rfl ii_3 (by decide) (Nat.le_of_ble_eq_true rfl) k_181 rfl d_EX_openEach_42 ?_
      refine lv_aload_n hx hb d_EX_openEach_45 rfl (lv_at hl 1 rfl) ?_
      refine mz_get E w 5 13 (v := .int (mz_gI q6.2 5 13)) (by decide) rfl rfl ii_2 (by decide) (Nat.le_of_ble_eq_true rfl) k_391 rfl d_EX_openEach_46 ?_
      obtain ⟨q9, hq10, hf⟩ := mz_bd hf
      refine mz_callV E w (k := 30) (As := [.int (mz_gI q6.2 6 2), .int (mz_gI q6.2 5 13)]) (rest := []) (c_SK_readTexts hSK l n (mz_gI q6.2 6 2) (mz_gI q6.2 5 13) q6.2 q9 hq10) (by decide) rfl rfl k_997 k_13 k_994 k_995 k_996 hm_SK_readTexts ⟨⟨rfl, rfl⟩, Nat.le_of_ble_eq_true rfl, Nat.le_of_ble_eq_true rfl⟩ rfl hl.1 rfl (Nat.le_of_ble_eq_true rfl) d_EX_openEach_49 ⟨Nat.zero_le _, Nat.zero_le _⟩ (st1 := [.int q9.1]) rfl (fun H locs w => ?_)
      refine lv_istore_n (lv' := [(2, .int q9.1), (1, .int (mz_gI t 5 11)), (0, .ref (ad 5))]) hx hb d_EX_openEach_52 rfl hl (by decide) rfl (fun ls hl => ?_)
      refine lv_iload_n hx hb d_EX_openEach_53 rfl (lv_at hl 0 rfl) ?_
      refine lv_iconst (v := (-1 : Int32)) hx hb d_EX_openEach_54 (by decide) ?_
      refine lv_icmp_ne (tgt := 65) hx hb d_EX_openEach_55 (by decide) (fun hc11 => ?_) (fun hc11 => ?_)
      · have hf := mz_f hc11 hf
        refine lv_aload_n hx hb d_EX_openEach_65 rfl (lv_at hl 2 rfl) ?_
        refine mz_get E w 5 5 (v := .ref (ad 30)) (by decide) rfl rfl ii_2 (by decide) (Nat.le_of_ble_eq_true rfl) k_377 rfl d_EX_openEach_66 ?_
        obtain ⟨q12, hq13, hf⟩ := mz_bd hf
        refine mz_callV E w (k := 30) (As := []) (rest := []) (c_SK_spare hSK l n q9.2 q12 hq13) (by decide) rfl rfl k_753 k_13 k_767 k_751 k_752 hm_SK_spare ⟨⟨rfl, rfl⟩, Nat.le_of_ble_eq_true rfl, Nat.le_of_ble_eq_true rfl⟩ rfl hl.1 rfl (Nat.le_of_ble_eq_true rfl) d_EX_openEach_69 ⟨Nat.zero_le _, Nat.zero_le _⟩ (st1 := [.ref (ad q12.1)]) rfl (fun H locs w => ?_)
        obtain ⟨hr14, hf⟩ := mz_gd hf
        refine lv_astore_n (lv' := [(3, .ref (ad q12.1)), (2, .int q9.1), (1, .int (mz_gI t 5 11)), (0, .ref (ad 5))]) hx hb d_EX_openEach_72 rfl hl (by decide) rfl (fun ls hl => ?_)
        refine lv_aload_n hx hb d_EX_openEach_73 rfl (lv_at hl 0 rfl) ?_
        refine lv_aload_n hx hb d_EX_openEach_74 rfl (lv_at hl 3 rfl) ?_
        refine mz_get E w 5 1 (v := .ref (ad 6)) (by decide) rfl rfl ii_2 (by decide) (Nat.le_of_ble_eq_true rfl) k_371 rfl d_EX_openEach_75 ?_
        refine mz_get E w 6 4 (v := .int (mz_gI q12.2 6 4)) (by decide) rfl rfl ii_3 (by decide) (Nat.le_of_ble_eq_true rfl) k_186 rfl d_EX_openEach_78 ?_
        refine mz_put E w q12.1 9 (v := (mz_gI q12.2 6 4)) (mz_fN hr14) (mz_tC_f hr14) rfl ii_10 tk_10 nm_10 (by decide) (Nat.le_of_ble_eq_true rfl) k_292 rfl (tk_10 9 (by decide)) rfl rfl rfl d_EX_openEach_81 (fun H locs w => ?_)
        obtain ⟨t15, e_t15, hf⟩ := mz_lt hf
        rw [← e_t15] at w
        refine lv_aload_n hx hb d_EX_openEach_84 rfl (lv_at hl 0 rfl) ?_
        refine lv_aload_n hx hb d_EX_openEach_85 rfl (lv_at hl 3 rfl) ?_
        refine mz_get E w 5 1 (v := .ref (ad 6)) (by decide) rfl rfl ii_2 (by decide) (Nat.le_of_ble_eq_true rfl) k_371 rfl d_EX_openEach_86 ?_
        refine mz_get E w 6 5 (v := .int (mz_gI t15 6 5)) (by decide) rfl rfl ii_3 (by decide) (Nat.le_of_ble_eq_true rfl) k_189 rfl d_EX_openEach_89 ?_
        refine mz_put E w q12.1 10 (v := (mz_gI t15 6 5)) (mz_fN hr14) (mz_tC_f hr14) rfl ii_10 tk_10 nm_10 (by decide) (Nat.le_of_ble_eq_true rfl) k_294 rfl (tk_10 10 (by decide)) rfl rfl rfl d_EX_openEach_92 (fun H locs w => ?_)
        obtain ⟨t16, e_t16, hf⟩ := mz_lt hf
        rw [← e_t16] at w
        refine lv_aload_n hx hb d_EX_openEach_95 rfl (lv_at hl 3 rfl) ?_
        obtain ⟨q17, hq18, hf⟩ := mz_bd hf
        refine mz_callV E w (k := 5) (As := []) (rest := []) (c_EX_keepUpToEndr hSK l n t16 q17 hq18) (by decide) rfl rfl k_981 k_3 k_978 k_980 ks_41 hm_EX_keepUpToEndr ⟨⟨rfl, rfl⟩, Nat.le_of_ble_eq_true rfl, Nat.le_of_ble_eq_true rfl⟩ rfl hl.1 rfl (Nat.le_of_ble_eq_true rfl) d_EX_openEach_96 ⟨Nat.zero_le _, Nat.zero_le _⟩ (st1 := [.int q17.1]) rfl (fun H locs w => ?_)
        refine lv_if_eq (tgt := 111) hx hb d_EX_openEach_99 (by decide) (fun hc19 => ?_) (fun hc19 => ?_)
        · have hf := mz_t hc19 hf
          obtain rfl := Option.some.inj hf
          exact mz_vret E w rfl d_EX_openEach_111
        · have hf := mz_f hc19 hf
          refine lv_aload_n hx hb d_EX_openEach_102 rfl (lv_at hl 3 rfl) ?_
          refine mz_gse E w (12 : Int32) (by decide) rfl k_983 d_EX_openEach_103 ?_
          refine lv_iload_n hx hb d_EX_openEach_106 rfl (lv_at hl 2 rfl) ?_
          refine lv_iload_n hx hb d_EX_openEach_107 rfl (lv_at hl 1 rfl) ?_
          obtain ⟨q20, hq21, hf⟩ := mz_bd hf
          refine mz_callV E w (k := 5) (As := [.ref (en (12 : Int32).toNatClampNeg), .int (mz_gI t 5 11), .int q9.1]) (rest := []) (c_EX_openRepeated hSK l n (12 : Int32) (mz_gI t 5 11) q9.1 q17.2 q20 hq21) (by decide) rfl rfl k_989 k_3 k_986 k_988 ks_42 hm_EX_openRepeated ⟨⟨rfl, rfl⟩, Nat.le_of_ble_eq_true rfl, Nat.le_of_ble_eq_true rfl⟩ rfl hl.1 rfl (Nat.le_of_ble_eq_true rfl) d_EX_openEach_108 ⟨Nat.zero_le _, Nat.zero_le _⟩ (st1 := []) rfl (fun H locs w => ?_)
          obtain rfl := Option.some.inj hf
          exact mz_vret E w rfl d_EX_openEach_111
      · have hf := mz_t hc11 hf
        refine lv_aload_n hx hb d_EX_openEach_58 rfl (lv_at hl 2 rfl) ?_
        refine lv_iconst (v := (1 : Int32)) hx hb d_EX_openEach_59 (by decide) ?_
        obtain ⟨q22, hq23, hf⟩ := mz_bd hf
        refine mz_callV E w (k := 5) (As := [.int (1 : Int32)]) (rest := []) (c_EX_fail hSK l n (1 : Int32) q9.2 q22 hq23) (by decide) rfl rfl k_537 k_3 k_534 k_536 ks_7 hm_EX_fail ⟨⟨rfl, rfl⟩, Nat.le_of_ble_eq_true rfl, Nat.le_of_ble_eq_true rfl⟩ rfl hl.1 rfl (Nat.le_of_ble_eq_true rfl) d_EX_openEach_60 ⟨Nat.zero_le _, Nat.zero_le _⟩ (st1 := [.int q22.1]) rfl (fun H locs w => ?_)
        refine lv_pop hx hb d_EX_openEach_63 rfl ?_
        obtain rfl := Option.some.inj hf
        exact mz_vret E w rfl d_EX_openEach_64
    · have hf := mz_t hc8 hf
      exact b_EX_openEach_27 E n  q6.2 hf _ _ _ w (lv_sub hl [1] rfl)

/-! MacroHouse$Expander.leaveMacro()V -/
abbrev r_EX_leaveMacro : Room := { frames := 3, cells := 0, slots := 0, locals := 63 }
def f_EX_leaveMacro (n : Nat) (t : mz_St) : Option mz_St := (f_RE_isDone n t).bind fun q1 => if q1.1 = 0 then ((f_EX_fail n (1 : Int32) q1.2).bind fun q14 => some q14.2) else ((f_SK_macroDepth n q1.2).bind fun q4 => if q4.1 = 0 then ((f_EX_fail n (5 : Int32) q4.2).bind fun q12 => some q12.2) else ((f_SK_frameAt n q4.1 q4.2).bind fun q7 => if mz_fr q7.1 then (mz_let (mz_pI q7.2 7 5 (mz_gI q7.2 q7.1 6)) fun t10 => mz_let (mz_pI t10 30 4 (q4.1 - (1 : Int32))) fun t11 => some t11) else none))
set_option maxRecDepth 100000 in
set_option maxHeartbeats 4000000 in
theorem c_EX_leaveMacro {dC : Nat → ClassId} {dI : Nat → Nat → Nat} {ad en adK adV : Nat → Nat} {tA tS : Nat} {oF : Option Nat} {ca : Nat → ClassId} (hSK : mz_SK (mz_SC ad en adK adV tA tS oF) ad 80) (l : Launch) (n : Nat) (t : mz_St) (res : mz_St) (hf : f_EX_leaveMacro n t = some res) : mz_C (mz_SC ad en adK adV tA tS oF) mz_tC 80 mz_cl dC dI ad en ca l y_EX_leaveMacro prog_6_method_26_code 2 none (r_EX_leaveMacro) [.ref (ad 5)] t none res := by
  unfold f_EX_leaveMacro at hf
  refine mz_met hSK (by decide) (Nat.le_of_ble_eq_true rfl) ?_
  intro p e s m args below meth c ls E w hl
  obtain ⟨hx, hb, hml, hown, hcx, -, -, hSX, -, -, -⟩ := id E
  have hl : lv_has ls 2 [(0, .ref (ad 5))] := hl
  refine lv_aload_n hx hb d_EX_leaveMacro_0 rfl (lv_at hl 0 rfl) ?_
  refine mz_get E w 5 1 (v := .ref (ad 6)) (by decide) rfl rfl ii_2 (by decide) (Nat.le_of_ble_eq_true rfl) k_371 rfl d_EX_leaveMacro_1 ?_
  obtain ⟨q1, hq2, hf⟩ := mz_bd hf
  refine mz_callV E w (k := 6) (As := []) (rest := []) (c_RE_isDone hSK l n t q1 hq2) (by decide) rfl rfl k_862 k_11 k_859 k_860 k_861 hm_RE_isDone ⟨⟨rfl, rfl⟩, Nat.le_of_ble_eq_true rfl, Nat.le_of_ble_eq_true rfl⟩ rfl hl.1 rfl (Nat.le_of_ble_eq_true rfl) d_EX_leaveMacro_4 ⟨Nat.zero_le _, Nat.zero_le _⟩ (st1 := [.int q1.1]) rfl (fun H locs w => ?_)
  refine lv_if_ne (tgt := 17) hx hb d_EX_leaveMacro_7 (by decide) (fun hc3 => ?_) (fun hc3 => ?_)
  · have hf := mz_f hc3 hf
    refine lv_aload_n hx hb d_EX_leaveMacro_17 rfl (lv_at hl 0 rfl) ?_
    refine mz_get E w 5 5 (v := .ref (ad 30)) (by decide) rfl rfl ii_2 (by decide) (Nat.le_of_ble_eq_true rfl) k_377 rfl d_EX_leaveMacro_18 ?_
    obtain ⟨q4, hq5, hf⟩ := mz_bd hf
    refine mz_callV E w (k := 30) (As := []) (rest := []) (c_SK_macroDepth hSK l n q1.2 q4 hq5) (by decide) rfl rfl k_642 k_13 k_1002 k_640 k_641 hm_SK_macroDepth ⟨⟨rfl, rfl⟩, Nat.le_of_ble_eq_true rfl, Nat.le_of_ble_eq_true rfl⟩ rfl hl.1 rfl (Nat.le_of_ble_eq_true rfl) d_EX_leaveMacro_21 ⟨Nat.zero_le _, Nat.zero_le _⟩ (st1 := [.int q4.1]) rfl (fun H locs w => ?_)
    refine lv_istore_n (lv' := [(1, .int q4.1), (0, .ref (ad 5))]) hx hb d_EX_leaveMacro_24 rfl hl (by decide) rfl (fun ls hl => ?_)
    refine lv_iload_n hx hb d_EX_leaveMacro_25 rfl (lv_at hl 0 rfl) ?_
    refine lv_if_ne (tgt := 36) hx hb d_EX_leaveMacro_26 (by decide) (fun hc6 => ?_) (fun hc6 => ?_)
    · have hf := mz_f hc6 hf
      refine lv_aload_n hx hb d_EX_leaveMacro_36 rfl (lv_at hl 1 rfl) ?_
      refine mz_get E w 5 2 (v := .ref (ad 7)) (by decide) rfl rfl ii_2 (by decide) (Nat.le_of_ble_eq_true rfl) k_372 rfl d_EX_leaveMacro_37 ?_
      refine lv_aload_n hx hb d_EX_leaveMacro_40 rfl (lv_at hl 1 rfl) ?_
      refine mz_get E w 5 5 (v := .ref (ad 30)) (by decide) rfl rfl ii_2 (by decide) (Nat.le_of_ble_eq_true rfl) k_377 rfl d_EX_leaveMacro_41 ?_
      refine lv_iload_n hx hb d_EX_leaveMacro_44 rfl (lv_at hl 0 rfl) ?_
      obtain ⟨q7, hq8, hf⟩ := mz_bd hf
      refine mz_callV E w (k := 30) (As := [.int q4.1]) (rest := [.ref (ad 7)]) (c_SK_frameAt hSK l n q4.1 q4.2 q7 hq8) (by decide) rfl rfl k_488 k_13 k_1003 k_486 k_487 hm_SK_frameAt ⟨⟨rfl, rfl⟩, Nat.le_of_ble_eq_true rfl, Nat.le_of_ble_eq_true rfl⟩ rfl hl.1 rfl (Nat.le_of_ble_eq_true rfl) d_EX_leaveMacro_45 ⟨Nat.zero_le _, Nat.zero_le _⟩ (st1 := [.ref (ad q7.1), .ref (ad 7)]) rfl (fun H locs w => ?_)
      obtain ⟨hr9, hf⟩ := mz_gd hf
      refine mz_get E w q7.1 6 (v := .int (mz_gI q7.2 q7.1 6)) (mz_fN hr9) (mz_tC_f hr9) rfl ii_10 (by decide) (Nat.le_of_ble_eq_true rfl) k_286 rfl d_EX_leaveMacro_48 ?_
      refine mz_put E w 7 5 (v := (mz_gI q7.2 q7.1 6)) (by decide) rfl rfl ii_4 tk_4 nm_4 (by decide) (Nat.le_of_ble_eq_true rfl) k_79 rfl (tk_4 5 (by decide)) rfl rfl rfl d_EX_leaveMacro_51 (fun H locs w => ?_)
      obtain ⟨t10, e_t10, hf⟩ := mz_lt hf
      rw [← e_t10] at w
      refine lv_aload_n hx hb d_EX_leaveMacro_54 rfl (lv_at hl 1 rfl) ?_
      refine mz_get E w 5 5 (v := .ref (ad 30)) (by decide) rfl rfl ii_2 (by decide) (Nat.le_of_ble_eq_true rfl) k_377 rfl d_EX_leaveMacro_55 ?_
      refine lv_iload_n hx hb d_EX_leaveMacro_58 rfl (lv_at hl 0 rfl) ?_
      refine lv_iconst (v := (1 : Int32)) hx hb d_EX_leaveMacro_59 (by decide) ?_
      refine lv_isub hx hb d_EX_leaveMacro_60 ?_
      refine mz_put E w 30 4 (v := (q4.1 - (1 : Int32))) (by decide) rfl rfl ii_8 tk_8 nm_8 (by decide) (Nat.le_of_ble_eq_true rfl) k_336 rfl (tk_8 4 (by decide)) rfl rfl rfl d_EX_leaveMacro_61 (fun H locs w => ?_)
      obtain ⟨t11, e_t11, hf⟩ := mz_lt hf
      rw [← e_t11] at w
      obtain rfl := Option.some.inj hf
      exact mz_vret E w rfl d_EX_leaveMacro_64
    · have hf := mz_t hc6 hf
      refine lv_aload_n hx hb d_EX_leaveMacro_29 rfl (lv_at hl 1 rfl) ?_
      refine lv_iconst (v := (5 : Int32)) hx hb d_EX_leaveMacro_30 (by decide) ?_
      obtain ⟨q12, hq13, hf⟩ := mz_bd hf
      refine mz_callV E w (k := 5) (As := [.int (5 : Int32)]) (rest := []) (c_EX_fail hSK l n (5 : Int32) q4.2 q12 hq13) (by decide) rfl rfl k_537 k_3 k_534 k_536 ks_7 hm_EX_fail ⟨⟨rfl, rfl⟩, Nat.le_of_ble_eq_true rfl, Nat.le_of_ble_eq_true rfl⟩ rfl hl.1 rfl (Nat.le_of_ble_eq_true rfl) d_EX_leaveMacro_31 ⟨Nat.zero_le _, Nat.zero_le _⟩ (st1 := [.int q12.1]) rfl (fun H locs w => ?_)
      refine lv_pop hx hb d_EX_leaveMacro_34 rfl ?_
      obtain rfl := Option.some.inj hf
      exact mz_vret E w rfl d_EX_leaveMacro_35
  · have hf := mz_t hc3 hf
    refine lv_aload_n hx hb d_EX_leaveMacro_10 rfl (lv_at hl 0 rfl) ?_
    refine lv_iconst (v := (1 : Int32)) hx hb d_EX_leaveMacro_11 (by decide) ?_
    obtain ⟨q14, hq15, hf⟩ := mz_bd hf
    refine mz_callV E w (k := 5) (As := [.int (1 : Int32)]) (rest := []) (c_EX_fail hSK l n (1 : Int32) q1.2 q14 hq15) (by decide) rfl rfl k_537 k_3 k_534 k_536 ks_7 hm_EX_fail ⟨⟨rfl, rfl⟩, Nat.le_of_ble_eq_true rfl, Nat.le_of_ble_eq_true rfl⟩ rfl hl.1 rfl (Nat.le_of_ble_eq_true rfl) d_EX_leaveMacro_12 ⟨Nat.zero_le _, Nat.zero_le _⟩ (st1 := [.int q14.1]) rfl (fun H locs w => ?_)
    refine lv_pop hx hb d_EX_leaveMacro_15 rfl ?_
    obtain rfl := Option.some.inj hf
    exact mz_vret E w rfl d_EX_leaveMacro_16

/-! MacroHouse$Expander.come()V -/
abbrev r_EX_come : Room := { frames := 75, cells := 0, slots := 0, locals := 2335 }
def f_EX_come_143 (n : Nat) (t : mz_St) : Option mz_St := (f_EX_changeCondition n t).bind fun q26 => some q26
def f_EX_come_199 (n : Nat) (t : mz_St) : Option mz_St := (f_EX_fail n (5 : Int32) t).bind fun q48 => some q48.2
def f_EX_come (n : Nat) (t : mz_St) : Option mz_St := if (mz_gI t 5 14).toNatClampNeg < 16 then ((f_DI_behind n (mz_gI t 5 14) (mz_gI t 5 12) t).bind fun q1 => (f_RE_begin n q1.1 (mz_gI q1.2 5 13) q1.2).bind fun q4 => if (mz_gI q4 5 14).toNatClampNeg < 16 then ((f_JE_ordinal n (mz_gI q4 5 14) q4).bind fun q6 => if ¬ (q6.1 < 0 ∨ 16 ≤ q6.1.toNatClampNeg) then (if (mz_sw.getD q6.1.toNatClampNeg 0) = (1 : Int32) then ((f_EX_callOrGiveOut n q6.2).bind fun q11 => some q11) else (if (mz_sw.getD q6.1.toNatClampNeg 0) = (2 : Int32) then ((f_EX_setConstant n q6.2).bind fun q14 => some q14) else (if (mz_sw.getD q6.1.toNatClampNeg 0) = (3 : Int32) then ((f_EX_forgetConstant n q6.2).bind fun q17 => some q17) else (if (mz_sw.getD q6.1.toNatClampNeg 0) = (4 : Int32) then ((f_EX_openIf n q6.2).bind fun q20 => some q20) else (if (mz_sw.getD q6.1.toNatClampNeg 0) = (5 : Int32) then ((f_EX_openIfSame n q6.2).bind fun q23 => some q23) else (if (mz_sw.getD q6.1.toNatClampNeg 0) = (6 : Int32) then (f_EX_come_143 n  q6.2) else (if (mz_sw.getD q6.1.toNatClampNeg 0) = (7 : Int32) then (f_EX_come_143 n  q6.2) else (if (mz_sw.getD q6.1.toNatClampNeg 0) = (8 : Int32) then (f_EX_come_143 n  q6.2) else (if (mz_sw.getD q6.1.toNatClampNeg 0) = (9 : Int32) then ((f_MA_readHead n q6.2).bind fun q31 => (f_EX_defineMacro n q31.1 q31.2).bind fun q33 => some q33) else (if (mz_sw.getD q6.1.toNatClampNeg 0) = (10 : Int32) then ((f_EX_openRept n q6.2).bind fun q36 => some q36) else (if (mz_sw.getD q6.1.toNatClampNeg 0) = (11 : Int32) then ((f_EX_openEach n q6.2).bind fun q39 => some q39) else (if (mz_sw.getD q6.1.toNatClampNeg 0) = (12 : Int32) then ((f_EX_leaveMacro n q6.2).bind fun q42 => some q42) else (if (mz_sw.getD q6.1.toNatClampNeg 0) = (13 : Int32) then ((f_EX_fail n (7 : Int32) q6.2).bind fun q45 => some q45.2) else (if (mz_sw.getD q6.1.toNatClampNeg 0) = (14 : Int32) then (f_EX_come_199 n  q6.2) else (if (mz_sw.getD q6.1.toNatClampNeg 0) = (15 : Int32) then (f_EX_come_199 n  q6.2) else ((f_EX_fail n (1 : Int32) q6.2).bind fun q51 => some q51.2)))))))))))))))) else none) else none) else none
set_option maxRecDepth 100000 in
set_option maxHeartbeats 4000000 in
theorem b_EX_come_143 {dC : Nat → ClassId} {dI : Nat → Nat → Nat} {ad en adK adV : Nat → Nat} {tA tS : Nat} {oF : Option Nat} {ca : Nat → ClassId} {p : Program} {l : Launch} {e : Env} {s : State} {m : MethodId} {args : Array Value} {below : List Frame} {meth : Method} {c : Code} {res : mz_St} (E : mz_En (mz_SC ad en adK adV tA tS oF) 80 mz_cl dC dI ad ca p s m meth c prog_6_method_9_code 1 "MacroHouse$Expander" none) (n : Nat) : ∀ (t : mz_St), f_EX_come_143 n t = some res → ∀ (H : Heap) (locs : List Loc) (ls : Array Slot), mz_Wd mz_tC 80 mz_cl dC dI ad en ca s t H locs → lv_has ls 1 [(0, .ref (ad 5))] → W p l e (r_EX_come) s m args below meth c H locs 0 0 (MQ below (mz_Q (mz_SC ad en adK adV tA tS oF) mz_tC 80 mz_cl dC dI ad en ca none res) args s 0 0 (mz_A ad 80)) (F0 m 143 ls []) := by
  obtain ⟨hx, hb, hml, hown, hcx, -, -, hSX, -, -, hSK⟩ := id E
  intro t hf H locs ls w hl
  unfold f_EX_come_143 at hf
  refine lv_aload_n hx hb d_EX_come_143 rfl (lv_at hl 0 rfl) ?_
  obtain ⟨q26, hq27, hf⟩ := mz_bd hf
  refine mz_callV E w (k := 5) (As := []) (rest := []) (c_EX_changeCondition hSK l n t q26 hq27) (by decide) rfl rfl k_919 k_3 k_916 k_918 ks_36 hm_EX_changeCondition ⟨⟨rfl, rfl⟩, Nat.le_of_ble_eq_true rfl, Nat.le_of_ble_eq_true rfl⟩ rfl hl.1 rfl (Nat.le_of_ble_eq_true rfl) d_EX_come_144 ⟨Nat.zero_le _, Nat.zero_le _⟩ (st1 := []) rfl (fun H locs w => ?_)
  refine lv_goto (tgt := 214) hx hb d_EX_come_147 (by decide) ?_
  obtain rfl := Option.some.inj hf
  exact mz_vret E w rfl d_EX_come_214
set_option maxRecDepth 100000 in
set_option maxHeartbeats 4000000 in
theorem b_EX_come_199 {dC : Nat → ClassId} {dI : Nat → Nat → Nat} {ad en adK adV : Nat → Nat} {tA tS : Nat} {oF : Option Nat} {ca : Nat → ClassId} {p : Program} {l : Launch} {e : Env} {s : State} {m : MethodId} {args : Array Value} {below : List Frame} {meth : Method} {c : Code} {res : mz_St} (E : mz_En (mz_SC ad en adK adV tA tS oF) 80 mz_cl dC dI ad ca p s m meth c prog_6_method_9_code 1 "MacroHouse$Expander" none) (n : Nat) : ∀ (t : mz_St), f_EX_come_199 n t = some res → ∀ (H : Heap) (locs : List Loc) (ls : Array Slot), mz_Wd mz_tC 80 mz_cl dC dI ad en ca s t H locs → lv_has ls 1 [(0, .ref (ad 5))] → W p l e (r_EX_come) s m args below meth c H locs 0 0 (MQ below (mz_Q (mz_SC ad en adK adV tA tS oF) mz_tC 80 mz_cl dC dI ad en ca none res) args s 0 0 (mz_A ad 80)) (F0 m 199 ls []) := by
  obtain ⟨hx, hb, hml, hown, hcx, -, -, hSX, -, -, hSK⟩ := id E
  intro t hf H locs ls w hl
  unfold f_EX_come_199 at hf
  refine lv_aload_n hx hb d_EX_come_199 rfl (lv_at hl 0 rfl) ?_
  refine lv_iconst (v := (5 : Int32)) hx hb d_EX_come_200 (by decide) ?_
  obtain ⟨q48, hq49, hf⟩ := mz_bd hf
  refine mz_callV E w (k := 5) (As := [.int (5 : Int32)]) (rest := []) (c_EX_fail hSK l n (5 : Int32) t q48 hq49) (by decide) rfl rfl k_537 k_3 k_534 k_536 ks_7 hm_EX_fail ⟨⟨rfl, rfl⟩, Nat.le_of_ble_eq_true rfl, Nat.le_of_ble_eq_true rfl⟩ rfl hl.1 rfl (Nat.le_of_ble_eq_true rfl) d_EX_come_201 ⟨Nat.zero_le _, Nat.zero_le _⟩ (st1 := [.int q48.1]) rfl (fun H locs w => ?_)
  refine lv_pop hx hb d_EX_come_204 rfl ?_
  refine lv_goto (tgt := 214) hx hb d_EX_come_205 (by decide) ?_
  obtain rfl := Option.some.inj hf
  exact mz_vret E w rfl d_EX_come_214
set_option maxRecDepth 100000 in
set_option maxHeartbeats 4000000 in
theorem c_EX_come {dC : Nat → ClassId} {dI : Nat → Nat → Nat} {ad en adK adV : Nat → Nat} {tA tS : Nat} {oF : Option Nat} {ca : Nat → ClassId} (hSK : mz_SK (mz_SC ad en adK adV tA tS oF) ad 80) (l : Launch) (n : Nat) (t : mz_St) (res : mz_St) (hf : f_EX_come n t = some res) : mz_C (mz_SC ad en adK adV tA tS oF) mz_tC 80 mz_cl dC dI ad en ca l y_EX_come prog_6_method_9_code 1 none (r_EX_come) [.ref (ad 5)] t none res := by
  unfold f_EX_come at hf
  refine mz_met hSK (by decide) (Nat.le_of_ble_eq_true rfl) ?_
  intro p e s m args below meth c ls E w hl
  obtain ⟨hx, hb, hml, hown, hcx, -, -, hSX, -, -, -⟩ := id E
  have hl : lv_has ls 1 [(0, .ref (ad 5))] := hl
  refine lv_aload_n hx hb d_EX_come_0 rfl (lv_at hl 0 rfl) ?_
  refine mz_get E w 5 1 (v := .ref (ad 6)) (by decide) rfl rfl ii_2 (by decide) (Nat.le_of_ble_eq_true rfl) k_371 rfl d_EX_come_1 ?_
  refine lv_aload_n hx hb d_EX_come_4 rfl (lv_at hl 0 rfl) ?_
  refine mz_get E w 5 14 (v := .ref (en (mz_gI t 5 14).toNatClampNeg)) (by decide) rfl rfl ii_2 (by decide) (Nat.le_of_ble_eq_true rfl) k_392 rfl d_EX_come_5 ?_
  refine lv_aload_n hx hb d_EX_come_8 rfl (lv_at hl 0 rfl) ?_
  refine mz_get E w 5 12 (v := .int (mz_gI t 5 12)) (by decide) rfl rfl ii_2 (by decide) (Nat.le_of_ble_eq_true rfl) k_390 rfl d_EX_come_9 ?_
  obtain ⟨hg3, hf⟩ := mz_gd hf
  obtain ⟨q1, hq2, hf⟩ := mz_bd hf
  refine mz_callG E w (As := [.int (mz_gI t 5 12)]) (rest := [.ref (ad 6)]) (c_DI_behind hSK l n (mz_gI t 5 14) (mz_gI t 5 12) t q1 hq2) (mz_rcE E w hg3) k_709 k_7 k_706 k_707 k_708 hm_DI_behind ⟨⟨rfl, rfl⟩, Nat.le_of_ble_eq_true rfl, Nat.le_of_ble_eq_true rfl⟩ rfl hl.1 rfl (Nat.le_of_ble_eq_true rfl) d_EX_come_12 ⟨Nat.zero_le _, Nat.zero_le _⟩ (st1 := [.int q1.1, .ref (ad 6)]) rfl (fun H locs w => ?_)
  refine lv_aload_n hx hb d_EX_come_15 rfl (lv_at hl 0 rfl) ?_
  refine mz_get E w 5 13 (v := .int (mz_gI q1.2 5 13)) (by decide) rfl rfl ii_2 (by decide) (Nat.le_of_ble_eq_true rfl) k_391 rfl d_EX_come_16 ?_
  obtain ⟨q4, hq5, hf⟩ := mz_bd hf
  refine mz_callV E w (k := 6) (As := [.int q1.1, .int (mz_gI q1.2 5 13)]) (rest := []) (c_RE_begin hSK l n q1.1 (mz_gI q1.2 5 13) q1.2 q4 hq5) (by decide) rfl rfl k_714 k_11 k_711 k_712 k_713 hm_RE_begin ⟨⟨rfl, rfl⟩, Nat.le_of_ble_eq_true rfl, Nat.le_of_ble_eq_true rfl⟩ rfl hl.1 rfl (Nat.le_of_ble_eq_true rfl) d_EX_come_19 ⟨Nat.zero_le _, Nat.zero_le _⟩ (st1 := []) rfl (fun H locs w => ?_)
  refine mz_gsS E w k_715 d_EX_come_22 ?_
  refine lv_aload_n hx hb d_EX_come_25 rfl (lv_at hl 0 rfl) ?_
  refine mz_get E w 5 14 (v := .ref (en (mz_gI q4 5 14).toNatClampNeg)) (by decide) rfl rfl ii_2 (by decide) (Nat.le_of_ble_eq_true rfl) k_392 rfl d_EX_come_26 ?_
  obtain ⟨hg8, hf⟩ := mz_gd hf
  obtain ⟨q6, hq7, hf⟩ := mz_bd hf
  refine mz_callU E w (As := []) (rest := [.ref tS]) (c_JE_ordinal hSK l n (mz_gI q4 5 14) q4 q6 hq7) (mz_rcE E w hg8) k_722 k_6 k_717 ks_ord k_721 k_720 rfl hm_JE_ordinal ⟨⟨rfl, rfl⟩, Nat.le_of_ble_eq_true rfl, Nat.le_of_ble_eq_true rfl⟩ rfl hl.1 rfl (Nat.le_of_ble_eq_true rfl) d_EX_come_29 ⟨Nat.zero_le _, Nat.zero_le _⟩ (st1 := [.int q6.1, .ref tS]) rfl (fun H locs w => ?_)
  obtain ⟨hi9, hf⟩ := mz_gd hf
  refine mz_ldS E w hi9 d_EX_come_32 ?_
  by_cases hc10 : (mz_sw.getD q6.1.toNatClampNeg 0) = (1 : Int32)
  · have hf := mz_t hc10 hf
    refine lv_tableIn (off := 75) (tgt := 108) hx hb d_EX_come_33 (by rw [hc10]; decide) (by rw [hc10]; decide) (by rw [hc10]; rfl) (by decide) ?_
    refine lv_aload_n hx hb d_EX_come_108 rfl (lv_at hl 0 rfl) ?_
    obtain ⟨q11, hq12, hf⟩ := mz_bd hf
    refine mz_callV E w (k := 5) (As := []) (rest := []) (c_EX_callOrGiveOut hSK l n q6.2 q11 hq12) (by decide) rfl rfl k_726 k_3 k_723 k_725 ks_16 hm_EX_callOrGiveOut ⟨⟨rfl, rfl⟩, Nat.le_of_ble_eq_true rfl, Nat.le_of_ble_eq_true rfl⟩ rfl hl.1 rfl (Nat.le_of_ble_eq_true rfl) d_EX_come_109 ⟨Nat.zero_le _, Nat.zero_le _⟩ (st1 := []) rfl (fun H locs w => ?_)
    refine lv_goto (tgt := 214) hx hb d_EX_come_112 (by decide) ?_
    obtain rfl := Option.some.inj hf
    exact mz_vret E w rfl d_EX_come_214
  · have hf := mz_f hc10 hf
    by_cases hc13 : (mz_sw.getD q6.1.toNatClampNeg 0) = (2 : Int32)
    · have hf := mz_t hc13 hf
      refine lv_tableIn (off := 82) (tgt := 115) hx hb d_EX_come_33 (by rw [hc13]; decide) (by rw [hc13]; decide) (by rw [hc13]; rfl) (by decide) ?_
      refine lv_aload_n hx hb d_EX_come_115 rfl (lv_at hl 0 rfl) ?_
      obtain ⟨q14, hq15, hf⟩ := mz_bd hf
      refine mz_callV E w (k := 5) (As := []) (rest := []) (c_EX_setConstant hSK l n q6.2 q14 hq15) (by decide) rfl rfl k_789 k_3 k_786 k_788 ks_20 hm_EX_setConstant ⟨⟨rfl, rfl⟩, Nat.le_of_ble_eq_true rfl, Nat.le_of_ble_eq_true rfl⟩ rfl hl.1 rfl (Nat.le_of_ble_eq_true rfl) d_EX_come_116 ⟨Nat.zero_le _, Nat.zero_le _⟩ (st1 := []) rfl (fun H locs w => ?_)
      refine lv_goto (tgt := 214) hx hb d_EX_come_119 (by decide) ?_
      obtain rfl := Option.some.inj hf
      exact mz_vret E w rfl d_EX_come_214
    · have hf := mz_f hc13 hf
      by_cases hc16 : (mz_sw.getD q6.1.toNatClampNeg 0) = (3 : Int32)
      · have hf := mz_t hc16 hf
        refine lv_tableIn (off := 89) (tgt := 122) hx hb d_EX_come_33 (by rw [hc16]; decide) (by rw [hc16]; decide) (by rw [hc16]; rfl) (by decide) ?_
        refine lv_aload_n hx hb d_EX_come_122 rfl (lv_at hl 0 rfl) ?_
        obtain ⟨q17, hq18, hf⟩ := mz_bd hf
        refine mz_callV E w (k := 5) (As := []) (rest := []) (c_EX_forgetConstant hSK l n q6.2 q17 hq18) (by decide) rfl rfl k_885 k_3 k_882 k_884 ks_32 hm_EX_forgetConstant ⟨⟨rfl, rfl⟩, Nat.le_of_ble_eq_true rfl, Nat.le_of_ble_eq_true rfl⟩ rfl hl.1 rfl (Nat.le_of_ble_eq_true rfl) d_EX_come_123 ⟨Nat.zero_le _, Nat.zero_le _⟩ (st1 := []) rfl (fun H locs w => ?_)
        refine lv_goto (tgt := 214) hx hb d_EX_come_126 (by decide) ?_
        obtain rfl := Option.some.inj hf
        exact mz_vret E w rfl d_EX_come_214
      · have hf := mz_f hc16 hf
        by_cases hc19 : (mz_sw.getD q6.1.toNatClampNeg 0) = (4 : Int32)
        · have hf := mz_t hc19 hf
          refine lv_tableIn (off := 96) (tgt := 129) hx hb d_EX_come_33 (by rw [hc19]; decide) (by rw [hc19]; decide) (by rw [hc19]; rfl) (by decide) ?_
          refine lv_aload_n hx hb d_EX_come_129 rfl (lv_at hl 0 rfl) ?_
          obtain ⟨q20, hq21, hf⟩ := mz_bd hf
          refine mz_callV E w (k := 5) (As := []) (rest := []) (c_EX_openIf hSK l n q6.2 q20 hq21) (by decide) rfl rfl k_901 k_3 k_898 k_900 ks_33 hm_EX_openIf ⟨⟨rfl, rfl⟩, Nat.le_of_ble_eq_true rfl, Nat.le_of_ble_eq_true rfl⟩ rfl hl.1 rfl (Nat.le_of_ble_eq_true rfl) d_EX_come_130 ⟨Nat.zero_le _, Nat.zero_le _⟩ (st1 := []) rfl (fun H locs w => ?_)
          refine lv_goto (tgt := 214) hx hb d_EX_come_133 (by decide) ?_
          obtain rfl := Option.some.inj hf
          exact mz_vret E w rfl d_EX_come_214
        · have hf := mz_f hc19 hf
          by_cases hc22 : (mz_sw.getD q6.1.toNatClampNeg 0) = (5 : Int32)
          · have hf := mz_t hc22 hf
            refine lv_tableIn (off := 103) (tgt := 136) hx hb d_EX_come_33 (by rw [hc22]; decide) (by rw [hc22]; decide) (by rw [hc22]; rfl) (by decide) ?_
            refine lv_aload_n hx hb d_EX_come_136 rfl (lv_at hl 0 rfl) ?_
            obtain ⟨q23, hq24, hf⟩ := mz_bd hf
            refine mz_callV E w (k := 5) (As := []) (rest := []) (c_EX_openIfSame hSK l n q6.2 q23 hq24) (by decide) rfl rfl k_913 k_3 k_910 k_912 ks_35 hm_EX_openIfSame ⟨⟨rfl, rfl⟩, Nat.le_of_ble_eq_true rfl, Nat.le_of_ble_eq_true rfl⟩ rfl hl.1 rfl (Nat.le_of_ble_eq_true rfl) d_EX_come_137 ⟨Nat.zero_le _, Nat.zero_le _⟩ (st1 := []) rfl (fun H locs w => ?_)
            refine lv_goto (tgt := 214) hx hb d_EX_come_140 (by decide) ?_
            obtain rfl := Option.some.inj hf
            exact mz_vret E w rfl d_EX_come_214
          · have hf := mz_f hc22 hf
            by_cases hc25 : (mz_sw.getD q6.1.toNatClampNeg 0) = (6 : Int32)
            · have hf := mz_t hc25 hf
              refine lv_tableIn (off := 110) (tgt := 143) hx hb d_EX_come_33 (by rw [hc25]; decide) (by rw [hc25]; decide) (by rw [hc25]; rfl) (by decide) ?_
              exact b_EX_come_143 E n  q6.2 hf _ _ _ w (lv_sub hl [0] rfl)
            · have hf := mz_f hc25 hf
              by_cases hc28 : (mz_sw.getD q6.1.toNatClampNeg 0) = (7 : Int32)
              · have hf := mz_t hc28 hf
                refine lv_tableIn (off := 110) (tgt := 143) hx hb d_EX_come_33 (by rw [hc28]; decide) (by rw [hc28]; decide) (by rw [hc28]; rfl) (by decide) ?_
                exact b_EX_come_143 E n  q6.2 hf _ _ _ w (lv_sub hl [0] rfl)
              · have hf := mz_f hc28 hf
                by_cases hc29 : (mz_sw.getD q6.1.toNatClampNeg 0) = (8 : Int32)
                · have hf := mz_t hc29 hf
                  refine lv_tableIn (off := 110) (tgt := 143) hx hb d_EX_come_33 (by rw [hc29]; decide) (by rw [hc29]; decide) (by rw [hc29]; rfl) (by decide) ?_
                  exact b_EX_come_143 E n  q6.2 hf _ _ _ w (lv_sub hl [0] rfl)
                · have hf := mz_f hc29 hf
                  by_cases hc30 : (mz_sw.getD q6.1.toNatClampNeg 0) = (9 : Int32)
                  · have hf := mz_t hc30 hf
                    refine lv_tableIn (off := 117) (tgt := 150) hx hb d_EX_come_33 (by rw [hc30]; decide) (by rw [hc30]; decide) (by rw [hc30]; rfl) (by decide) ?_
                    refine lv_aload_n hx hb d_EX_come_150 rfl (lv_at hl 0 rfl) ?_
                    refine lv_aload_n hx hb d_EX_come_151 rfl (lv_at hl 0 rfl) ?_
                    refine mz_get E w 5 4 (v := .ref (ad 18)) (by decide) rfl rfl ii_2 (by decide) (Nat.le_of_ble_eq_true rfl) k_375 rfl d_EX_come_152 ?_
                    refine lv_aload_n hx hb d_EX_come_155 rfl (lv_at hl 0 rfl) ?_
                    refine mz_get E w 5 1 (v := .ref (ad 6)) (by decide) rfl rfl ii_2 (by decide) (Nat.le_of_ble_eq_true rfl) k_371 rfl d_EX_come_156 ?_
                    obtain ⟨q31, hq32, hf⟩ := mz_bd hf
                    refine mz_callV E w (k := 18) (As := [.ref (ad 6)]) (rest := [.ref (ad 5)]) (c_MA_readHead hSK l n q6.2 q31 hq32) (by decide) rfl rfl k_941 k_12 k_938 k_939 k_940 hm_MA_readHead ⟨⟨rfl, rfl⟩, Nat.le_of_ble_eq_true rfl, Nat.le_of_ble_eq_true rfl⟩ rfl hl.1 rfl (Nat.le_of_ble_eq_true rfl) d_EX_come_159 ⟨Nat.zero_le _, Nat.zero_le _⟩ (st1 := [.int q31.1, .ref (ad 5)]) rfl (fun H locs w => ?_)
                    obtain ⟨q33, hq34, hf⟩ := mz_bd hf
                    refine mz_callV E w (k := 5) (As := [.int q31.1]) (rest := []) (c_EX_defineMacro hSK l n q31.1 q31.2 q33 hq34) (by decide) rfl rfl k_956 k_3 k_953 k_955 ks_38 hm_EX_defineMacro ⟨⟨rfl, rfl⟩, Nat.le_of_ble_eq_true rfl, Nat.le_of_ble_eq_true rfl⟩ rfl hl.1 rfl (Nat.le_of_ble_eq_true rfl) d_EX_come_162 ⟨Nat.zero_le _, Nat.zero_le _⟩ (st1 := []) rfl (fun H locs w => ?_)
                    refine lv_goto (tgt := 214) hx hb d_EX_come_165 (by decide) ?_
                    obtain rfl := Option.some.inj hf
                    exact mz_vret E w rfl d_EX_come_214
                  · have hf := mz_f hc30 hf
                    by_cases hc35 : (mz_sw.getD q6.1.toNatClampNeg 0) = (10 : Int32)
                    · have hf := mz_t hc35 hf
                      refine lv_tableIn (off := 135) (tgt := 168) hx hb d_EX_come_33 (by rw [hc35]; decide) (by rw [hc35]; decide) (by rw [hc35]; rfl) (by decide) ?_
                      refine lv_aload_n hx hb d_EX_come_168 rfl (lv_at hl 0 rfl) ?_
                      obtain ⟨q36, hq37, hf⟩ := mz_bd hf
                      refine mz_callV E w (k := 5) (As := []) (rest := []) (c_EX_openRept hSK l n q6.2 q36 hq37) (by decide) rfl rfl k_977 k_3 k_974 k_976 ks_40 hm_EX_openRept ⟨⟨rfl, rfl⟩, Nat.le_of_ble_eq_true rfl, Nat.le_of_ble_eq_true rfl⟩ rfl hl.1 rfl (Nat.le_of_ble_eq_true rfl) d_EX_come_169 ⟨Nat.zero_le _, Nat.zero_le _⟩ (st1 := []) rfl (fun H locs w => ?_)
                      refine lv_goto (tgt := 214) hx hb d_EX_come_172 (by decide) ?_
                      obtain rfl := Option.some.inj hf
                      exact mz_vret E w rfl d_EX_come_214
                    · have hf := mz_f hc35 hf
                      by_cases hc38 : (mz_sw.getD q6.1.toNatClampNeg 0) = (11 : Int32)
                      · have hf := mz_t hc38 hf
                        refine lv_tableIn (off := 142) (tgt := 175) hx hb d_EX_come_33 (by rw [hc38]; decide) (by rw [hc38]; decide) (by rw [hc38]; rfl) (by decide) ?_
                        refine lv_aload_n hx hb d_EX_come_175 rfl (lv_at hl 0 rfl) ?_
                        obtain ⟨q39, hq40, hf⟩ := mz_bd hf
                        refine mz_callV E w (k := 5) (As := []) (rest := []) (c_EX_openEach hSK l n q6.2 q39 hq40) (by decide) rfl rfl k_993 k_3 k_990 k_992 ks_43 hm_EX_openEach ⟨⟨rfl, rfl⟩, Nat.le_of_ble_eq_true rfl, Nat.le_of_ble_eq_true rfl⟩ rfl hl.1 rfl (Nat.le_of_ble_eq_true rfl) d_EX_come_176 ⟨Nat.zero_le _, Nat.zero_le _⟩ (st1 := []) rfl (fun H locs w => ?_)
                        refine lv_goto (tgt := 214) hx hb d_EX_come_179 (by decide) ?_
                        obtain rfl := Option.some.inj hf
                        exact mz_vret E w rfl d_EX_come_214
                      · have hf := mz_f hc38 hf
                        by_cases hc41 : (mz_sw.getD q6.1.toNatClampNeg 0) = (12 : Int32)
                        · have hf := mz_t hc41 hf
                          refine lv_tableIn (off := 149) (tgt := 182) hx hb d_EX_come_33 (by rw [hc41]; decide) (by rw [hc41]; decide) (by rw [hc41]; rfl) (by decide) ?_
                          refine lv_aload_n hx hb d_EX_come_182 rfl (lv_at hl 0 rfl) ?_
                          obtain ⟨q42, hq43, hf⟩ := mz_bd hf
                          refine mz_callV E w (k := 5) (As := []) (rest := []) (c_EX_leaveMacro hSK l n q6.2 q42 hq43) (by decide) rfl rfl k_1001 k_3 k_998 k_1000 ks_44 hm_EX_leaveMacro ⟨⟨rfl, rfl⟩, Nat.le_of_ble_eq_true rfl, Nat.le_of_ble_eq_true rfl⟩ rfl hl.1 rfl (Nat.le_of_ble_eq_true rfl) d_EX_come_183 ⟨Nat.zero_le _, Nat.zero_le _⟩ (st1 := []) rfl (fun H locs w => ?_)
                          refine lv_goto (tgt := 214) hx hb d_EX_come_186 (by decide) ?_
                          obtain rfl := Option.some.inj hf
                          exact mz_vret E w rfl d_EX_come_214
                        · have hf := mz_f hc41 hf
                          by_cases hc44 : (mz_sw.getD q6.1.toNatClampNeg 0) = (13 : Int32)
                          · have hf := mz_t hc44 hf
                            refine lv_tableIn (off := 156) (tgt := 189) hx hb d_EX_come_33 (by rw [hc44]; decide) (by rw [hc44]; decide) (by rw [hc44]; rfl) (by decide) ?_
                            refine lv_aload_n hx hb d_EX_come_189 rfl (lv_at hl 0 rfl) ?_
                            refine lv_bipush (v := (7 : Int32)) hx hb d_EX_come_190 (by decide) ?_
                            obtain ⟨q45, hq46, hf⟩ := mz_bd hf
                            refine mz_callV E w (k := 5) (As := [.int (7 : Int32)]) (rest := []) (c_EX_fail hSK l n (7 : Int32) q6.2 q45 hq46) (by decide) rfl rfl k_537 k_3 k_534 k_536 ks_7 hm_EX_fail ⟨⟨rfl, rfl⟩, Nat.le_of_ble_eq_true rfl, Nat.le_of_ble_eq_true rfl⟩ rfl hl.1 rfl (Nat.le_of_ble_eq_true rfl) d_EX_come_192 ⟨Nat.zero_le _, Nat.zero_le _⟩ (st1 := [.int q45.1]) rfl (fun H locs w => ?_)
                            refine lv_pop hx hb d_EX_come_195 rfl ?_
                            refine lv_goto (tgt := 214) hx hb d_EX_come_196 (by decide) ?_
                            obtain rfl := Option.some.inj hf
                            exact mz_vret E w rfl d_EX_come_214
                          · have hf := mz_f hc44 hf
                            by_cases hc47 : (mz_sw.getD q6.1.toNatClampNeg 0) = (14 : Int32)
                            · have hf := mz_t hc47 hf
                              refine lv_tableIn (off := 166) (tgt := 199) hx hb d_EX_come_33 (by rw [hc47]; decide) (by rw [hc47]; decide) (by rw [hc47]; rfl) (by decide) ?_
                              exact b_EX_come_199 E n  q6.2 hf _ _ _ w (lv_sub hl [0] rfl)
                            · have hf := mz_f hc47 hf
                              by_cases hc50 : (mz_sw.getD q6.1.toNatClampNeg 0) = (15 : Int32)
                              · have hf := mz_t hc50 hf
                                refine lv_tableIn (off := 166) (tgt := 199) hx hb d_EX_come_33 (by rw [hc50]; decide) (by rw [hc50]; decide) (by rw [hc50]; rfl) (by decide) ?_
                                exact b_EX_come_199 E n  q6.2 hf _ _ _ w (lv_sub hl [0] rfl)
                              · have hf := mz_f hc50 hf
                                refine lv_tableOut (tgt := 208) hx hb d_EX_come_33 (by have := lv_neT (a := 1) hc10 rfl; have := lv_neT (a := 2) hc13 rfl; have := lv_neT (a := 3) hc16 rfl; have := lv_neT (a := 4) hc19 rfl; have := lv_neT (a := 5) hc22 rfl; have := lv_neT (a := 6) hc25 rfl; have := lv_neT (a := 7) hc28 rfl; have := lv_neT (a := 8) hc29 rfl; have := lv_neT (a := 9) hc30 rfl; have := lv_neT (a := 10) hc35 rfl; have := lv_neT (a := 11) hc38 rfl; have := lv_neT (a := 12) hc41 rfl; have := lv_neT (a := 13) hc44 rfl; have := lv_neT (a := 14) hc47 rfl; have := lv_neT (a := 15) hc50 rfl; omega) (by decide) ?_
                                refine lv_aload_n hx hb d_EX_come_208 rfl (lv_at hl 0 rfl) ?_
                                refine lv_iconst (v := (1 : Int32)) hx hb d_EX_come_209 (by decide) ?_
                                obtain ⟨q51, hq52, hf⟩ := mz_bd hf
                                refine mz_callV E w (k := 5) (As := [.int (1 : Int32)]) (rest := []) (c_EX_fail hSK l n (1 : Int32) q6.2 q51 hq52) (by decide) rfl rfl k_537 k_3 k_534 k_536 ks_7 hm_EX_fail ⟨⟨rfl, rfl⟩, Nat.le_of_ble_eq_true rfl, Nat.le_of_ble_eq_true rfl⟩ rfl hl.1 rfl (Nat.le_of_ble_eq_true rfl) d_EX_come_210 ⟨Nat.zero_le _, Nat.zero_le _⟩ (st1 := [.int q51.1]) rfl (fun H locs w => ?_)
                                refine lv_pop hx hb d_EX_come_213 rfl ?_
                                obtain rfl := Option.some.inj hf
                                exact mz_vret E w rfl d_EX_come_214

/-! MacroHouse$Expander.pass()V -/
abbrev r_EX_pass : Room := { frames := 75, cells := 0, slots := 0, locals := 2333 }
def f_EX_pass_68 (n : Nat) (t : mz_St) : Option mz_St := (f_EX_openCondition n (0 : Int32) (0 : Int32) t).bind fun q11 => some q11
def f_EX_pass_77 (n : Nat) (t : mz_St) : Option mz_St := (f_EX_changeCondition n t).bind fun q15 => some q15
def f_EX_pass (n : Nat) (t : mz_St) : Option mz_St := if (mz_gI t 5 14).toNatClampNeg < 16 then ((f_DI_behind n (mz_gI t 5 14) (mz_gI t 5 12) t).bind fun q1 => (f_RE_begin n q1.1 (mz_gI q1.2 5 13) q1.2).bind fun q4 => if (mz_gI q4 5 14).toNatClampNeg < 16 then ((f_JE_ordinal n (mz_gI q4 5 14) q4).bind fun q6 => if ¬ (q6.1 < 0 ∨ 16 ≤ q6.1.toNatClampNeg) then (if (mz_sw.getD q6.1.toNatClampNeg 0) = (4 : Int32) then (f_EX_pass_68 n  q6.2) else (if (mz_sw.getD q6.1.toNatClampNeg 0) = (5 : Int32) then (f_EX_pass_68 n  q6.2) else (if (mz_sw.getD q6.1.toNatClampNeg 0) = (6 : Int32) then (f_EX_pass_77 n  q6.2) else (if (mz_sw.getD q6.1.toNatClampNeg 0) = (7 : Int32) then (f_EX_pass_77 n  q6.2) else (if (mz_sw.getD q6.1.toNatClampNeg 0) = (8 : Int32) then (f_EX_pass_77 n  q6.2) else (some q6.2)))))) else none) else none) else none
set_option maxRecDepth 100000 in
set_option maxHeartbeats 4000000 in
theorem b_EX_pass_68 {dC : Nat → ClassId} {dI : Nat → Nat → Nat} {ad en adK adV : Nat → Nat} {tA tS : Nat} {oF : Option Nat} {ca : Nat → ClassId} {p : Program} {l : Launch} {e : Env} {s : State} {m : MethodId} {args : Array Value} {below : List Frame} {meth : Method} {c : Code} {res : mz_St} (E : mz_En (mz_SC ad en adK adV tA tS oF) 80 mz_cl dC dI ad ca p s m meth c prog_6_method_10_code 1 "MacroHouse$Expander" none) (n : Nat) : ∀ (t : mz_St), f_EX_pass_68 n t = some res → ∀ (H : Heap) (locs : List Loc) (ls : Array Slot), mz_Wd mz_tC 80 mz_cl dC dI ad en ca s t H locs → lv_has ls 1 [(0, .ref (ad 5))] → W p l e (r_EX_pass) s m args below meth c H locs 0 0 (MQ below (mz_Q (mz_SC ad en adK adV tA tS oF) mz_tC 80 mz_cl dC dI ad en ca none res) args s 0 0 (mz_A ad 80)) (F0 m 68 ls []) := by
  obtain ⟨hx, hb, hml, hown, hcx, -, -, hSX, -, -, hSK⟩ := id E
  intro t hf H locs ls w hl
  unfold f_EX_pass_68 at hf
  refine lv_aload_n hx hb d_EX_pass_68 rfl (lv_at hl 0 rfl) ?_
  refine lv_iconst (v := (0 : Int32)) hx hb d_EX_pass_69 (by decide) ?_
  refine lv_iconst (v := (0 : Int32)) hx hb d_EX_pass_70 (by decide) ?_
  obtain ⟨q11, hq12, hf⟩ := mz_bd hf
  refine mz_callV E w (k := 5) (As := [.int (0 : Int32), .int (0 : Int32)]) (rest := []) (c_EX_openCondition hSK l n (0 : Int32) (0 : Int32) t q11 hq12) (by decide) rfl rfl k_905 k_3 k_902 k_904 ks_34 hm_EX_openCondition ⟨⟨rfl, rfl⟩, Nat.le_of_ble_eq_true rfl, Nat.le_of_ble_eq_true rfl⟩ rfl hl.1 rfl (Nat.le_of_ble_eq_true rfl) d_EX_pass_71 ⟨Nat.zero_le _, Nat.zero_le _⟩ (st1 := []) rfl (fun H locs w => ?_)
  refine lv_goto (tgt := 84) hx hb d_EX_pass_74 (by decide) ?_
  obtain rfl := Option.some.inj hf
  exact mz_vret E w rfl d_EX_pass_84
set_option maxRecDepth 100000 in
set_option maxHeartbeats 4000000 in
theorem b_EX_pass_77 {dC : Nat → ClassId} {dI : Nat → Nat → Nat} {ad en adK adV : Nat → Nat} {tA tS : Nat} {oF : Option Nat} {ca : Nat → ClassId} {p : Program} {l : Launch} {e : Env} {s : State} {m : MethodId} {args : Array Value} {below : List Frame} {meth : Method} {c : Code} {res : mz_St} (E : mz_En (mz_SC ad en adK adV tA tS oF) 80 mz_cl dC dI ad ca p s m meth c prog_6_method_10_code 1 "MacroHouse$Expander" none) (n : Nat) : ∀ (t : mz_St), f_EX_pass_77 n t = some res → ∀ (H : Heap) (locs : List Loc) (ls : Array Slot), mz_Wd mz_tC 80 mz_cl dC dI ad en ca s t H locs → lv_has ls 1 [(0, .ref (ad 5))] → W p l e (r_EX_pass) s m args below meth c H locs 0 0 (MQ below (mz_Q (mz_SC ad en adK adV tA tS oF) mz_tC 80 mz_cl dC dI ad en ca none res) args s 0 0 (mz_A ad 80)) (F0 m 77 ls []) := by
  obtain ⟨hx, hb, hml, hown, hcx, -, -, hSX, -, -, hSK⟩ := id E
  intro t hf H locs ls w hl
  unfold f_EX_pass_77 at hf
  refine lv_aload_n hx hb d_EX_pass_77 rfl (lv_at hl 0 rfl) ?_
  obtain ⟨q15, hq16, hf⟩ := mz_bd hf
  refine mz_callV E w (k := 5) (As := []) (rest := []) (c_EX_changeCondition hSK l n t q15 hq16) (by decide) rfl rfl k_919 k_3 k_916 k_918 ks_36 hm_EX_changeCondition ⟨⟨rfl, rfl⟩, Nat.le_of_ble_eq_true rfl, Nat.le_of_ble_eq_true rfl⟩ rfl hl.1 rfl (Nat.le_of_ble_eq_true rfl) d_EX_pass_78 ⟨Nat.zero_le _, Nat.zero_le _⟩ (st1 := []) rfl (fun H locs w => ?_)
  refine lv_goto (tgt := 84) hx hb d_EX_pass_81 (by decide) ?_
  obtain rfl := Option.some.inj hf
  exact mz_vret E w rfl d_EX_pass_84
set_option maxRecDepth 100000 in
set_option maxHeartbeats 4000000 in
theorem c_EX_pass {dC : Nat → ClassId} {dI : Nat → Nat → Nat} {ad en adK adV : Nat → Nat} {tA tS : Nat} {oF : Option Nat} {ca : Nat → ClassId} (hSK : mz_SK (mz_SC ad en adK adV tA tS oF) ad 80) (l : Launch) (n : Nat) (t : mz_St) (res : mz_St) (hf : f_EX_pass n t = some res) : mz_C (mz_SC ad en adK adV tA tS oF) mz_tC 80 mz_cl dC dI ad en ca l y_EX_pass prog_6_method_10_code 1 none (r_EX_pass) [.ref (ad 5)] t none res := by
  unfold f_EX_pass at hf
  refine mz_met hSK (by decide) (Nat.le_of_ble_eq_true rfl) ?_
  intro p e s m args below meth c ls E w hl
  obtain ⟨hx, hb, hml, hown, hcx, -, -, hSX, -, -, -⟩ := id E
  have hl : lv_has ls 1 [(0, .ref (ad 5))] := hl
  refine lv_aload_n hx hb d_EX_pass_0 rfl (lv_at hl 0 rfl) ?_
  refine mz_get E w 5 1 (v := .ref (ad 6)) (by decide) rfl rfl ii_2 (by decide) (Nat.le_of_ble_eq_true rfl) k_371 rfl d_EX_pass_1 ?_
  refine lv_aload_n hx hb d_EX_pass_4 rfl (lv_at hl 0 rfl) ?_
  refine mz_get E w 5 14 (v := .ref (en (mz_gI t 5 14).toNatClampNeg)) (by decide) rfl rfl ii_2 (by decide) (Nat.le_of_ble_eq_true rfl) k_392 rfl d_EX_pass_5 ?_
  refine lv_aload_n hx hb d_EX_pass_8 rfl (lv_at hl 0 rfl) ?_
  refine mz_get E w 5 12 (v := .int (mz_gI t 5 12)) (by decide) rfl rfl ii_2 (by decide) (Nat.le_of_ble_eq_true rfl) k_390 rfl d_EX_pass_9 ?_
  obtain ⟨hg3, hf⟩ := mz_gd hf
  obtain ⟨q1, hq2, hf⟩ := mz_bd hf
  refine mz_callG E w (As := [.int (mz_gI t 5 12)]) (rest := [.ref (ad 6)]) (c_DI_behind hSK l n (mz_gI t 5 14) (mz_gI t 5 12) t q1 hq2) (mz_rcE E w hg3) k_709 k_7 k_706 k_707 k_708 hm_DI_behind ⟨⟨rfl, rfl⟩, Nat.le_of_ble_eq_true rfl, Nat.le_of_ble_eq_true rfl⟩ rfl hl.1 rfl (Nat.le_of_ble_eq_true rfl) d_EX_pass_12 ⟨Nat.zero_le _, Nat.zero_le _⟩ (st1 := [.int q1.1, .ref (ad 6)]) rfl (fun H locs w => ?_)
  refine lv_aload_n hx hb d_EX_pass_15 rfl (lv_at hl 0 rfl) ?_
  refine mz_get E w 5 13 (v := .int (mz_gI q1.2 5 13)) (by decide) rfl rfl ii_2 (by decide) (Nat.le_of_ble_eq_true rfl) k_391 rfl d_EX_pass_16 ?_
  obtain ⟨q4, hq5, hf⟩ := mz_bd hf
  refine mz_callV E w (k := 6) (As := [.int q1.1, .int (mz_gI q1.2 5 13)]) (rest := []) (c_RE_begin hSK l n q1.1 (mz_gI q1.2 5 13) q1.2 q4 hq5) (by decide) rfl rfl k_714 k_11 k_711 k_712 k_713 hm_RE_begin ⟨⟨rfl, rfl⟩, Nat.le_of_ble_eq_true rfl, Nat.le_of_ble_eq_true rfl⟩ rfl hl.1 rfl (Nat.le_of_ble_eq_true rfl) d_EX_pass_19 ⟨Nat.zero_le _, Nat.zero_le _⟩ (st1 := []) rfl (fun H locs w => ?_)
  refine mz_gsS E w k_715 d_EX_pass_22 ?_
  refine lv_aload_n hx hb d_EX_pass_25 rfl (lv_at hl 0 rfl) ?_
  refine mz_get E w 5 14 (v := .ref (en (mz_gI q4 5 14).toNatClampNeg)) (by decide) rfl rfl ii_2 (by decide) (Nat.le_of_ble_eq_true rfl) k_392 rfl d_EX_pass_26 ?_
  obtain ⟨hg8, hf⟩ := mz_gd hf
  obtain ⟨q6, hq7, hf⟩ := mz_bd hf
  refine mz_callU E w (As := []) (rest := [.ref tS]) (c_JE_ordinal hSK l n (mz_gI q4 5 14) q4 q6 hq7) (mz_rcE E w hg8) k_722 k_6 k_717 ks_ord k_721 k_720 rfl hm_JE_ordinal ⟨⟨rfl, rfl⟩, Nat.le_of_ble_eq_true rfl, Nat.le_of_ble_eq_true rfl⟩ rfl hl.1 rfl (Nat.le_of_ble_eq_true rfl) d_EX_pass_29 ⟨Nat.zero_le _, Nat.zero_le _⟩ (st1 := [.int q6.1, .ref tS]) rfl (fun H locs w => ?_)
  obtain ⟨hi9, hf⟩ := mz_gd hf
  refine mz_ldS E w hi9 d_EX_pass_32 ?_
  by_cases hc10 : (mz_sw.getD q6.1.toNatClampNeg 0) = (4 : Int32)
  · have hf := mz_t hc10 hf
    refine lv_tableIn (off := 35) (tgt := 68) hx hb d_EX_pass_33 (by rw [hc10]; decide) (by rw [hc10]; decide) (by rw [hc10]; rfl) (by decide) ?_
    exact b_EX_pass_68 E n  q6.2 hf _ _ _ w (lv_sub hl [0] rfl)
  · have hf := mz_f hc10 hf
    by_cases hc13 : (mz_sw.getD q6.1.toNatClampNeg 0) = (5 : Int32)
    · have hf := mz_t hc13 hf
      refine lv_tableIn (off := 35) (tgt := 68) hx hb d_EX_pass_33 (by rw [hc13]; decide) (by rw [hc13]; decide) (by rw [hc13]; rfl) (by decide) ?_
      exact b_EX_pass_68 E n  q6.2 hf _ _ _ w (lv_sub hl [0] rfl)
    · have hf := mz_f hc13 hf
      by_cases hc14 : (mz_sw.getD q6.1.toNatClampNeg 0) = (6 : Int32)
      · have hf := mz_t hc14 hf
        refine lv_tableIn (off := 44) (tgt := 77) hx hb d_EX_pass_33 (by rw [hc14]; decide) (by rw [hc14]; decide) (by rw [hc14]; rfl) (by decide) ?_
        exact b_EX_pass_77 E n  q6.2 hf _ _ _ w (lv_sub hl [0] rfl)
      · have hf := mz_f hc14 hf
        by_cases hc17 : (mz_sw.getD q6.1.toNatClampNeg 0) = (7 : Int32)
        · have hf := mz_t hc17 hf
          refine lv_tableIn (off := 44) (tgt := 77) hx hb d_EX_pass_33 (by rw [hc17]; decide) (by rw [hc17]; decide) (by rw [hc17]; rfl) (by decide) ?_
          exact b_EX_pass_77 E n  q6.2 hf _ _ _ w (lv_sub hl [0] rfl)
        · have hf := mz_f hc17 hf
          by_cases hc18 : (mz_sw.getD q6.1.toNatClampNeg 0) = (8 : Int32)
          · have hf := mz_t hc18 hf
            refine lv_tableIn (off := 44) (tgt := 77) hx hb d_EX_pass_33 (by rw [hc18]; decide) (by rw [hc18]; decide) (by rw [hc18]; rfl) (by decide) ?_
            exact b_EX_pass_77 E n  q6.2 hf _ _ _ w (lv_sub hl [0] rfl)
          · have hf := mz_f hc18 hf
            refine lv_tableOut (tgt := 84) hx hb d_EX_pass_33 (by have := lv_neT (a := 4) hc10 rfl; have := lv_neT (a := 5) hc13 rfl; have := lv_neT (a := 6) hc14 rfl; have := lv_neT (a := 7) hc17 rfl; have := lv_neT (a := 8) hc18 rfl; omega) (by decide) ?_
            obtain rfl := Option.some.inj hf
            exact mz_vret E w rfl d_EX_pass_84

/-! MacroHouse$Expander.run()V -/
abbrev r_EX_run : Room := { frames := 76, cells := 0, slots := 0, locals := 2355 }
def f_EX_run_83 (n : Nat) (K6 : Int32 → mz_St → Option mz_St) (x1 : Int32) (t : mz_St) : Option mz_St := K6 (x1 + (1 : Int32)) t
def f_EX_run_6 (n : Nat) : Nat → Int32 → mz_St → Option mz_St
  | 0, _, _ => none
  | k + 1, x1, t => if (1000000 : Int32) ≤ x1 then (some t) else (if (mz_gI t 5 7) = 0 then ((f_SK_top n t).bind fun q5 => if mz_fr q5.1 then (if (mz_gI q5.2 q5.1 3) < (mz_gI q5.2 q5.1 2) then ((f_EX_look n q5.1 q5.2).bind fun q9 => if q9.1 = 0 then (f_EX_run_83 n (f_EX_run_6 n k) x1 q9.2) else ((f_EX_takeLine n q9.2).bind fun q12 => if q12.1 = 0 then (f_EX_run_83 n (f_EX_run_6 n k) x1 q12.2) else ((f_CO_live n q12.2).bind fun q15 => if q15.1 = 0 then ((f_EX_pass n q15.2).bind fun q18 => f_EX_run_83 n (f_EX_run_6 n k) x1 q18) else ((f_EX_come n q15.2).bind fun q20 => f_EX_run_83 n (f_EX_run_6 n k) x1 q20)))) else ((f_EX_endRange n q5.1 q5.2).bind fun q22 => if q22.1 = 0 then (some q22.2) else (f_EX_run_83 n (f_EX_run_6 n k) x1 q22.2))) else none) else (some t))
def f_EX_run (n : Nat) (t : mz_St) : Option mz_St := (f_EX_startAnew n t).bind fun q1 => f_EX_run_6 n n (0 : Int32) q1
set_option maxRecDepth 100000 in
set_option maxHeartbeats 4000000 in
theorem b_EX_run_83 {dC : Nat → ClassId} {dI : Nat → Nat → Nat} {ad en adK adV : Nat → Nat} {tA tS : Nat} {oF : Option Nat} {ca : Nat → ClassId} {p : Program} {l : Launch} {e : Env} {s : State} {m : MethodId} {args : Array Value} {below : List Frame} {meth : Method} {c : Code} {res : mz_St} (E : mz_En (mz_SC ad en adK adV tA tS oF) 80 mz_cl dC dI ad ca p s m meth c prog_6_method_2_code 3 "MacroHouse$Expander" none) (n : Nat) (K6 : Int32 → mz_St → Option mz_St) (hK6 : ∀ (x1 : Int32) (t : mz_St), K6 x1 t = some res → ∀ (H : Heap) (locs : List Loc) (ls : Array Slot), mz_Wd mz_tC 80 mz_cl dC dI ad en ca s t H locs → lv_has ls 3 [(0, .ref (ad 5)), (1, .int x1)] → W p l e (r_EX_run) s m args below meth c H locs 0 0 (MQ below (mz_Q (mz_SC ad en adK adV tA tS oF) mz_tC 80 mz_cl dC dI ad en ca none res) args s 0 0 (mz_A ad 80)) (F0 m 6 ls [])) : ∀ (x1 : Int32) (t : mz_St), f_EX_run_83 n K6 x1 t = some res → ∀ (H : Heap) (locs : List Loc) (ls : Array Slot), mz_Wd mz_tC 80 mz_cl dC dI ad en ca s t H locs → lv_has ls 3 [(0, .ref (ad 5)), (1, .int x1)] → W p l e (r_EX_run) s m args below meth c H locs 0 0 (MQ below (mz_Q (mz_SC ad en adK adV tA tS oF) mz_tC 80 mz_cl dC dI ad en ca none res) args s 0 0 (mz_A ad 80)) (F0 m 83 ls []) := by
  obtain ⟨hx, hb, hml, hown, hcx, -, -, hSX, -, -, hSK⟩ := id E
  intro x1 t hf H locs ls w hl
  unfold f_EX_run_83 at hf
  refine lv_iinc (v := (x1 + (1 : Int32))) (lv' := [(1, .int (x1 + (1 : Int32))), (0, .ref (ad 5))]) hx hb d_EX_run_83 hl (k := 1) rfl rfl (by decide) rfl (fun ls hl => ?_)
  refine lv_goto (tgt := 6) hx hb d_EX_run_86 (by decide) ?_
  exact hK6 (x1 + (1 : Int32)) t hf _ _ _ w (lv_sub hl [1, 0] rfl)
set_option maxRecDepth 100000 in
set_option maxHeartbeats 4000000 in
theorem b_EX_run_6 {dC : Nat → ClassId} {dI : Nat → Nat → Nat} {ad en adK adV : Nat → Nat} {tA tS : Nat} {oF : Option Nat} {ca : Nat → ClassId} {p : Program} {l : Launch} {e : Env} {s : State} {m : MethodId} {args : Array Value} {below : List Frame} {meth : Method} {c : Code} {res : mz_St} (E : mz_En (mz_SC ad en adK adV tA tS oF) 80 mz_cl dC dI ad ca p s m meth c prog_6_method_2_code 3 "MacroHouse$Expander" none) (n : Nat) (k : Nat) : ∀ (x1 : Int32) (t : mz_St), f_EX_run_6 n k x1 t = some res → ∀ (H : Heap) (locs : List Loc) (ls : Array Slot), mz_Wd mz_tC 80 mz_cl dC dI ad en ca s t H locs → lv_has ls 3 [(0, .ref (ad 5)), (1, .int x1)] → W p l e (r_EX_run) s m args below meth c H locs 0 0 (MQ below (mz_Q (mz_SC ad en adK adV tA tS oF) mz_tC 80 mz_cl dC dI ad en ca none res) args s 0 0 (mz_A ad 80)) (F0 m 6 ls []) := by
  obtain ⟨hx, hb, hml, hown, hcx, -, -, hSX, -, -, hSK⟩ := id E
  induction k with
  | zero => intro x1 t hf; exact absurd hf (by unfold f_EX_run_6; exact fun h => nomatch h)
  | succ k ih =>
    intro x1 t hf H locs ls w hl
    unfold f_EX_run_6 at hf
    refine lv_iload_n hx hb d_EX_run_6 rfl (lv_at hl 1 rfl) ?_
    refine lv_ldc (v := (1000000 : Int32)) hx hb hown (hcx.at args _ k_480) d_EX_run_7 ?_
    refine lv_icmp_ge (tgt := 89) hx hb d_EX_run_9 (by decide) (fun hc3 => ?_) (fun hc3 => ?_)
    · have hf := mz_t hc3 hf
      obtain rfl := Option.some.inj hf
      exact mz_vret E w rfl d_EX_run_89
    · have hf := mz_f hc3 hf
      refine lv_aload_n hx hb d_EX_run_12 rfl (lv_at hl 0 rfl) ?_
      refine mz_get E w 5 7 (v := .int (mz_gI t 5 7)) (by decide) rfl rfl ii_2 (by decide) (Nat.le_of_ble_eq_true rfl) k_381 rfl d_EX_run_13 ?_
      refine lv_if_ne (tgt := 89) hx hb d_EX_run_16 (by decide) (fun hc4 => ?_) (fun hc4 => ?_)
      · have hf := mz_f hc4 hf
        obtain rfl := Option.some.inj hf
        exact mz_vret E w rfl d_EX_run_89
      · have hf := mz_t hc4 hf
        refine lv_aload_n hx hb d_EX_run_19 rfl (lv_at hl 0 rfl) ?_
        refine mz_get E w 5 5 (v := .ref (ad 30)) (by decide) rfl rfl ii_2 (by decide) (Nat.le_of_ble_eq_true rfl) k_377 rfl d_EX_run_20 ?_
        obtain ⟨q5, hq6, hf⟩ := mz_bd hf
        refine mz_callV E w (k := 30) (As := []) (rest := []) (c_SK_top hSK l n t q5 hq6) (by decide) rfl rfl k_484 k_13 k_481 k_482 k_483 hm_SK_top ⟨⟨rfl, rfl⟩, Nat.le_of_ble_eq_true rfl, Nat.le_of_ble_eq_true rfl⟩ rfl hl.1 rfl (Nat.le_of_ble_eq_true rfl) d_EX_run_23 ⟨Nat.zero_le _, Nat.zero_le _⟩ (st1 := [.ref (ad q5.1)]) rfl (fun H locs w => ?_)
        obtain ⟨hr7, hf⟩ := mz_gd hf
        refine lv_astore_n (lv' := [(2, .ref (ad q5.1)), (0, .ref (ad 5)), (1, .int x1)]) hx hb d_EX_run_26 rfl hl (by decide) rfl (fun ls hl => ?_)
        refine lv_aload_n hx hb d_EX_run_27 rfl (lv_at hl 0 rfl) ?_
        refine mz_get E w q5.1 3 (v := .int (mz_gI q5.2 q5.1 3)) (mz_fN hr7) (mz_tC_f hr7) rfl ii_10 (by decide) (Nat.le_of_ble_eq_true rfl) k_279 rfl d_EX_run_28 ?_
        refine lv_aload_n hx hb d_EX_run_31 rfl (lv_at hl 0 rfl) ?_
        refine mz_get E w q5.1 2 (v := .int (mz_gI q5.2 q5.1 2)) (mz_fN hr7) (mz_tC_f hr7) rfl ii_10 (by decide) (Nat.le_of_ble_eq_true rfl) k_276 rfl d_EX_run_32 ?_
        refine lv_icmp_lt (tgt := 47) hx hb d_EX_run_35 (by decide) (fun hc8 => ?_) (fun hc8 => ?_)
        · have hf := mz_t hc8 hf
          refine lv_aload_n hx hb d_EX_run_47 rfl (lv_at hl 1 rfl) ?_
          refine lv_aload_n hx hb d_EX_run_48 rfl (lv_at hl 0 rfl) ?_
          obtain ⟨q9, hq10, hf⟩ := mz_bd hf
          refine mz_callV E w (k := 5) (As := [.ref (ad q5.1)]) (rest := []) (c_EX_look hSK l n q5.1 q5.2 q9 hq10) (by decide) rfl rfl k_533 k_3 k_530 k_532 ks_6 hm_EX_look ⟨⟨rfl, rfl⟩, Nat.le_of_ble_eq_true rfl, Nat.le_of_ble_eq_true rfl⟩ rfl hl.1 rfl (Nat.le_of_ble_eq_true rfl) d_EX_run_49 ⟨Nat.zero_le _, Nat.zero_le _⟩ (st1 := [.int q9.1]) rfl (fun H locs w => ?_)
          refine lv_if_eq (tgt := 83) hx hb d_EX_run_52 (by decide) (fun hc11 => ?_) (fun hc11 => ?_)
          · have hf := mz_t hc11 hf
            exact b_EX_run_83 E n (f_EX_run_6 n k) ih x1 q9.2 hf _ _ _ w (lv_sub hl [1, 2] rfl)
          · have hf := mz_f hc11 hf
            refine lv_aload_n hx hb d_EX_run_55 rfl (lv_at hl 1 rfl) ?_
            obtain ⟨q12, hq13, hf⟩ := mz_bd hf
            refine mz_callV E w (k := 5) (As := []) (rest := []) (c_EX_takeLine hSK l n q9.2 q12 hq13) (by decide) rfl rfl k_545 k_3 k_542 k_544 ks_9 hm_EX_takeLine ⟨⟨rfl, rfl⟩, Nat.le_of_ble_eq_true rfl, Nat.le_of_ble_eq_true rfl⟩ rfl hl.1 rfl (Nat.le_of_ble_eq_true rfl) d_EX_run_56 ⟨Nat.zero_le _, Nat.zero_le _⟩ (st1 := [.int q12.1]) rfl (fun H locs w => ?_)
            refine lv_if_eq (tgt := 83) hx hb d_EX_run_59 (by decide) (fun hc14 => ?_) (fun hc14 => ?_)
            · have hf := mz_t hc14 hf
              exact b_EX_run_83 E n (f_EX_run_6 n k) ih x1 q12.2 hf _ _ _ w (lv_sub hl [1, 2] rfl)
            · have hf := mz_f hc14 hf
              refine lv_aload_n hx hb d_EX_run_62 rfl (lv_at hl 1 rfl) ?_
              refine mz_get E w 5 2 (v := .ref (ad 7)) (by decide) rfl rfl ii_2 (by decide) (Nat.le_of_ble_eq_true rfl) k_372 rfl d_EX_run_63 ?_
              obtain ⟨q15, hq16, hf⟩ := mz_bd hf
              refine mz_callV E w (k := 7) (As := []) (rest := []) (c_CO_live hSK l n q12.2 q15 hq16) (by decide) rfl rfl k_549 k_4 k_546 k_547 k_548 hm_CO_live ⟨⟨rfl, rfl⟩, Nat.le_of_ble_eq_true rfl, Nat.le_of_ble_eq_true rfl⟩ rfl hl.1 rfl (Nat.le_of_ble_eq_true rfl) d_EX_run_66 ⟨Nat.zero_le _, Nat.zero_le _⟩ (st1 := [.int q15.1]) rfl (fun H locs w => ?_)
              refine lv_if_eq (tgt := 79) hx hb d_EX_run_69 (by decide) (fun hc17 => ?_) (fun hc17 => ?_)
              · have hf := mz_t hc17 hf
                refine lv_aload_n hx hb d_EX_run_79 rfl (lv_at hl 1 rfl) ?_
                obtain ⟨q18, hq19, hf⟩ := mz_bd hf
                refine mz_callV E w (k := 5) (As := []) (rest := []) (c_EX_pass hSK l n q15.2 q18 hq19) (by decide) rfl rfl k_1007 k_3 k_1004 k_1006 ks_45 hm_EX_pass ⟨⟨rfl, rfl⟩, Nat.le_of_ble_eq_true rfl, Nat.le_of_ble_eq_true rfl⟩ rfl hl.1 rfl (Nat.le_of_ble_eq_true rfl) d_EX_run_80 ⟨Nat.zero_le _, Nat.zero_le _⟩ (st1 := []) rfl (fun H locs w => ?_)
                exact b_EX_run_83 E n (f_EX_run_6 n k) ih x1 q18 hf _ _ _ w (lv_sub hl [1, 2] rfl)
              · have hf := mz_f hc17 hf
                refine lv_aload_n hx hb d_EX_run_72 rfl (lv_at hl 1 rfl) ?_
                obtain ⟨q20, hq21, hf⟩ := mz_bd hf
                refine mz_callV E w (k := 5) (As := []) (rest := []) (c_EX_come hSK l n q15.2 q20 hq21) (by decide) rfl rfl k_705 k_3 k_702 k_704 ks_15 hm_EX_come ⟨⟨rfl, rfl⟩, Nat.le_of_ble_eq_true rfl, Nat.le_of_ble_eq_true rfl⟩ rfl hl.1 rfl (Nat.le_of_ble_eq_true rfl) d_EX_run_73 ⟨Nat.zero_le _, Nat.zero_le _⟩ (st1 := []) rfl (fun H locs w => ?_)
                refine lv_goto (tgt := 83) hx hb d_EX_run_76 (by decide) ?_
                exact b_EX_run_83 E n (f_EX_run_6 n k) ih x1 q20 hf _ _ _ w (lv_sub hl [1, 2] rfl)
        · have hf := mz_f hc8 hf
          refine lv_aload_n hx hb d_EX_run_38 rfl (lv_at hl 1 rfl) ?_
          refine lv_aload_n hx hb d_EX_run_39 rfl (lv_at hl 0 rfl) ?_
          obtain ⟨q22, hq23, hf⟩ := mz_bd hf
          refine mz_callV E w (k := 5) (As := [.ref (ad q5.1)]) (rest := []) (c_EX_endRange hSK l n q5.1 q5.2 q22 hq23) (by decide) rfl rfl k_492 k_3 k_489 k_491 ks_2 hm_EX_endRange ⟨⟨rfl, rfl⟩, Nat.le_of_ble_eq_true rfl, Nat.le_of_ble_eq_true rfl⟩ rfl hl.1 rfl (Nat.le_of_ble_eq_true rfl) d_EX_run_40 ⟨Nat.zero_le _, Nat.zero_le _⟩ (st1 := [.int q22.1]) rfl (fun H locs w => ?_)
          refine lv_if_ne (tgt := 83) hx hb d_EX_run_43 (by decide) (fun hc24 => ?_) (fun hc24 => ?_)
          · have hf := mz_f hc24 hf
            exact b_EX_run_83 E n (f_EX_run_6 n k) ih x1 q22.2 hf _ _ _ w (lv_sub hl [1, 2] rfl)
          · have hf := mz_t hc24 hf
            obtain rfl := Option.some.inj hf
            exact mz_vret E w rfl d_EX_run_46
set_option maxRecDepth 100000 in
set_option maxHeartbeats 4000000 in
theorem c_EX_run {dC : Nat → ClassId} {dI : Nat → Nat → Nat} {ad en adK adV : Nat → Nat} {tA tS : Nat} {oF : Option Nat} {ca : Nat → ClassId} (hSK : mz_SK (mz_SC ad en adK adV tA tS oF) ad 80) (l : Launch) (n : Nat) (t : mz_St) (res : mz_St) (hf : f_EX_run n t = some res) : mz_C (mz_SC ad en adK adV tA tS oF) mz_tC 80 mz_cl dC dI ad en ca l y_EX_run prog_6_method_2_code 3 none (r_EX_run) [.ref (ad 5)] t none res := by
  unfold f_EX_run at hf
  refine mz_met hSK (by decide) (Nat.le_of_ble_eq_true rfl) ?_
  intro p e s m args below meth c ls E w hl
  obtain ⟨hx, hb, hml, hown, hcx, -, -, hSX, -, -, -⟩ := id E
  have hl : lv_has ls 3 [(0, .ref (ad 5))] := hl
  refine lv_aload_n hx hb d_EX_run_0 rfl (lv_at hl 0 rfl) ?_
  obtain ⟨q1, hq2, hf⟩ := mz_bd hf
  refine mz_callV E w (k := 5) (As := []) (rest := []) (c_EX_startAnew hSK l n t q1 hq2) (by decide) rfl rfl k_442 k_3 k_439 k_441 ks_0 hm_EX_startAnew ⟨⟨rfl, rfl⟩, Nat.le_of_ble_eq_true rfl, Nat.le_of_ble_eq_true rfl⟩ rfl hl.1 rfl (Nat.le_of_ble_eq_true rfl) d_EX_run_1 ⟨Nat.zero_le _, Nat.zero_le _⟩ (st1 := []) rfl (fun H locs w => ?_)
  refine lv_iconst (v := (0 : Int32)) hx hb d_EX_run_4 (by decide) ?_
  refine lv_istore_n (lv' := [(1, .int (0 : Int32)), (0, .ref (ad 5))]) hx hb d_EX_run_5 rfl hl (by decide) rfl (fun ls hl => ?_)
  exact b_EX_run_6 E n n (0 : Int32) q1 hf _ _ _ w (lv_sub hl [1, 0] rfl)
