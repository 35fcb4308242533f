/-! MacroHouse$Directive.of(LMacroHouse$Signs;II)LMacroHouse$Directive; -/
abbrev r_DI_of : Room := { frames := 5, cells := 0, slots := 0, locals := 109 }
def f_DI_of_38 (n : Nat) : Nat → Int32 → Int32 → Int32 → mz_St → Option (Int32 × mz_St)
  | 0, _, _, _, _ => none
  | k + 1, x1, x3, x4, t => if (16 : Int32) ≤ x4 then (some ((1 : Int32), t)) else (if ¬ (x4 < 0 ∨ 16 ≤ x4.toNatClampNeg) then (if x4.toNatClampNeg < 16 then ((f_SI_spells n (x1 + (1 : Int32)) x3 (mz_wi.getD x4.toNatClampNeg 0) t).bind fun q11 => if q11.1 = 0 then ((f_DI_of_38 n k) x1 x3 (x4 + (1 : Int32)) q11.2) else (if ¬ (x4 < 0 ∨ 16 ≤ x4.toNatClampNeg) then (some (x4, q11.2)) else none)) else none) else none)
def f_DI_of (n : Nat) (x1 : Int32) (x2 : Int32) (t : mz_St) : Option (Int32 × mz_St) := if x2 ≤ x1 then (some ((0 : Int32), t)) else ((f_SI_at n x1 t).bind fun q2 => if q2.1 = (46 : Int32) then ((f_SI_wordEnd n (x1 + (1 : Int32)) x2 q2.2).bind fun q5 => if q5.1 ≤ (x1 + (1 : Int32)) then (some ((1 : Int32), q5.2)) else (f_DI_of_38 n n x1 q5.1 (0 : Int32) q5.2)) else (some ((0 : Int32), q2.2)))
set_option maxRecDepth 100000 in
set_option maxHeartbeats 4000000 in
theorem b_DI_of_38 {dC : Nat → ClassId} {dI : Nat → Nat → Nat} {ad en adK adV : Nat → Nat} {tA tS : Nat} {oF : Option Nat} {ca : Nat → ClassId} {p : Program} {l : Launch} {e : Env} {s : State} {m : MethodId} {args : Array Value} {below : List Frame} {meth : Method} {c : Code} {res : (Int32 × mz_St)} (E : mz_En (mz_SC ad en adK adV tA tS oF) 80 mz_cl dC dI ad ca p s m meth c prog_5_method_4_code 5 "MacroHouse$Directive" (some (.object "MacroHouse$Directive"))) (n : Nat) (k : Nat) : ∀ (x1 : Int32) (x3 : Int32) (x4 : Int32) (t : mz_St), f_DI_of_38 n k x1 x3 x4 t = some res → ∀ (H : Heap) (locs : List Loc) (ls : Array Slot), mz_Wd mz_tC 80 mz_cl dC dI ad en ca s t H locs → lv_has ls 5 [(0, .ref (ad 1)), (1, .int x1), (3, .int x3), (4, .int x4)] → W p l e (r_DI_of) s m args below meth c H locs 0 0 (MQ below (mz_Q (mz_SC ad en adK adV tA tS oF) mz_tC 80 mz_cl dC dI ad en ca (some (.ref (en res.1.toNatClampNeg))) res.2) args s 0 0 (mz_A ad 80)) (F0 m 38 ls []) := by
  obtain ⟨hx, hb, hml, hown, hcx, -, -, hSX, -, -, hSK⟩ := id E
  induction k with
  | zero => intro x1 x3 x4 t hf; exact absurd hf (by unfold f_DI_of_38; exact fun h => nomatch h)
  | succ k ih =>
    intro x1 x3 x4 t hf H locs ls w hl
    unfold f_DI_of_38 at hf
    refine lv_iload hx hb d_DI_of_38 (lv_at hl 3 rfl) ?_
    refine mz_gsA E w k_573 d_DI_of_40 ?_
    refine mz_lnA E w d_DI_of_43 ?_
    refine lv_icmp_ge (tgt := 80) hx hb d_DI_of_44 (by decide) (fun hc8 => ?_) (fun hc8 => ?_)
    · have hf := mz_t hc8 hf
      refine mz_gse E w (1 : Int32) (by decide) rfl k_627 d_DI_of_80 ?_
      obtain rfl := Option.some.inj hf
      exact mz_aret E w ⟨_, rfl⟩ rfl d_DI_of_83
    · have hf := mz_f hc8 hf
      refine lv_aload_n hx hb d_DI_of_47 rfl (lv_at hl 0 rfl) ?_
      refine lv_iload_n hx hb d_DI_of_48 rfl (lv_at hl 1 rfl) ?_
      refine lv_iconst (v := (1 : Int32)) hx hb d_DI_of_49 (by decide) ?_
      refine lv_iadd hx hb d_DI_of_50 ?_
      refine lv_iload_n hx hb d_DI_of_51 rfl (lv_at hl 2 rfl) ?_
      refine mz_gsA E w k_573 d_DI_of_52 ?_
      refine lv_iload hx hb d_DI_of_55 (lv_at hl 3 rfl) ?_
      obtain ⟨hi9, hf⟩ := mz_gd hf
      refine mz_ldA E w hi9 d_DI_of_57 ?_
      obtain ⟨hg10, hf⟩ := mz_gd hf
      refine mz_gew E w hg10 k_1698 d_DI_of_58 ?_
      obtain ⟨q11, hq12, hf⟩ := mz_bd hf
      refine mz_callV E w (k := 1) (As := [.int (x1 + (1 : Int32)), .int x3, .ref (adK (mz_wi.getD x4.toNatClampNeg 0))]) (rest := []) (c_SI_spells hSK l n (x1 + (1 : Int32)) x3 (mz_wi.getD x4.toNatClampNeg 0) t q11 hq12) (by decide) rfl rfl k_578 k_2 k_575 k_576 k_577 hm_SI_spells ⟨⟨rfl, rfl⟩, Nat.le_of_ble_eq_true rfl, Nat.le_of_ble_eq_true rfl⟩ rfl hl.1 rfl (Nat.le_of_ble_eq_true rfl) d_DI_of_61 ⟨Nat.zero_le _, Nat.zero_le _⟩ (st1 := [.int q11.1]) rfl (fun H locs w => ?_)
      refine lv_if_eq (tgt := 74) hx hb d_DI_of_64 (by decide) (fun hc13 => ?_) (fun hc13 => ?_)
      · have hf := mz_t hc13 hf
        refine lv_iinc (v := (x4 + (1 : Int32))) (lv' := [(4, .int (x4 + (1 : Int32))), (0, .ref (ad 1)), (1, .int x1), (3, .int x3)]) hx hb d_DI_of_74 hl (k := 3) rfl rfl (by decide) rfl (fun ls hl => ?_)
        refine lv_goto (tgt := 38) hx hb d_DI_of_77 (by decide) ?_
        exact ih x1 x3 (x4 + (1 : Int32)) q11.2 hf _ _ _ w (lv_sub hl [1, 2, 3, 0] rfl)
      · have hf := mz_f hc13 hf
        refine mz_gsA E w k_573 d_DI_of_67 ?_
        refine lv_iload hx hb d_DI_of_70 (lv_at hl 3 rfl) ?_
        obtain ⟨hi14, hf⟩ := mz_gd hf
        refine mz_ldA E w hi14 d_DI_of_72 ?_
        obtain rfl := Option.some.inj hf
        exact mz_aret E w ⟨_, rfl⟩ rfl d_DI_of_73
set_option maxRecDepth 100000 in
set_option maxHeartbeats 4000000 in
theorem c_DI_of {dC : Nat → ClassId} {dI : Nat → Nat → Nat} {ad en adK adV : Nat → Nat} {tA tS : Nat} {oF : Option Nat} {ca : Nat → ClassId} (hSK : mz_SK (mz_SC ad en adK adV tA tS oF) ad 80) (l : Launch) (n : Nat) (x1 : Int32) (x2 : Int32) (t : mz_St) (res : (Int32 × mz_St)) (hf : f_DI_of n x1 x2 t = some res) : mz_C (mz_SC ad en adK adV tA tS oF) mz_tC 80 mz_cl dC dI ad en ca l y_DI_of prog_5_method_4_code 5 (some (.object "MacroHouse$Directive")) (r_DI_of) [.ref (ad 1), .int x1, .int x2] t (some (.ref (en res.1.toNatClampNeg))) res.2 := by
  unfold f_DI_of at hf
  refine mz_met hSK (by decide) (Nat.le_of_ble_eq_true rfl) ?_
  intro p e s m args below meth c ls E w hl
  obtain ⟨hx, hb, hml, hown, hcx, -, -, hSX, -, -, -⟩ := id E
  have hl : lv_has ls 5 [(0, .ref (ad 1)), (1, .int x1), (2, .int x2)] := hl
  refine lv_iload_n hx hb d_DI_of_0 rfl (lv_at hl 1 rfl) ?_
  refine lv_iload_n hx hb d_DI_of_1 rfl (lv_at hl 2 rfl) ?_
  refine lv_icmp_ge (tgt := 15) hx hb d_DI_of_2 (by decide) (fun hc1 => ?_) (fun hc1 => ?_)
  · have hf := mz_t hc1 hf
    refine mz_gse E w (0 : Int32) (by decide) rfl k_562 d_DI_of_15 ?_
    obtain rfl := Option.some.inj hf
    exact mz_aret E w ⟨_, rfl⟩ rfl d_DI_of_18
  · have hf := mz_f hc1 hf
    refine lv_aload_n hx hb d_DI_of_5 rfl (lv_at hl 0 rfl) ?_
    refine lv_iload_n hx hb d_DI_of_6 rfl (lv_at hl 1 rfl) ?_
    obtain ⟨q2, hq3, hf⟩ := mz_bd hf
    refine mz_callV E w (k := 1) (As := [.int x1]) (rest := []) (c_SI_at hSK l n x1 t q2 hq3) (by decide) rfl rfl k_450 k_2 k_561 k_448 k_449 hm_SI_at ⟨⟨rfl, rfl⟩, Nat.le_of_ble_eq_true rfl, Nat.le_of_ble_eq_true rfl⟩ rfl hl.1 rfl (Nat.le_of_ble_eq_true rfl) d_DI_of_7 ⟨Nat.zero_le _, Nat.zero_le _⟩ (st1 := [.int q2.1]) rfl (fun H locs w => ?_)
    refine lv_bipush (v := (46 : Int32)) hx hb d_DI_of_10 (by decide) ?_
    refine lv_icmp_eq (tgt := 19) hx hb d_DI_of_12 (by decide) (fun hc4 => ?_) (fun hc4 => ?_)
    · have hf := mz_t hc4 hf
      refine lv_aload_n hx hb d_DI_of_19 rfl (lv_at hl 0 rfl) ?_
      refine lv_iload_n hx hb d_DI_of_20 rfl (lv_at hl 1 rfl) ?_
      refine lv_iconst (v := (1 : Int32)) hx hb d_DI_of_21 (by decide) ?_
      refine lv_iadd hx hb d_DI_of_22 ?_
      refine lv_iload_n hx hb d_DI_of_23 rfl (lv_at hl 2 rfl) ?_
      obtain ⟨q5, hq6, hf⟩ := mz_bd hf
      refine mz_callV E w (k := 1) (As := [.int (x1 + (1 : Int32)), .int x2]) (rest := []) (c_SI_wordEnd hSK l n (x1 + (1 : Int32)) x2 q2.2 q5 hq6) (by decide) rfl rfl k_566 k_2 k_563 k_564 k_565 hm_SI_wordEnd ⟨⟨rfl, rfl⟩, Nat.le_of_ble_eq_true rfl, Nat.le_of_ble_eq_true rfl⟩ rfl hl.1 rfl (Nat.le_of_ble_eq_true rfl) d_DI_of_24 ⟨Nat.zero_le _, Nat.zero_le _⟩ (st1 := [.int q5.1]) rfl (fun H locs w => ?_)
      refine lv_istore_n (lv' := [(3, .int q5.1), (0, .ref (ad 1)), (1, .int x1), (2, .int x2)]) hx hb d_DI_of_27 rfl hl (by decide) rfl (fun ls hl => ?_)
      refine lv_iload_n hx hb d_DI_of_28 rfl (lv_at hl 0 rfl) ?_
      refine lv_iload_n hx hb d_DI_of_29 rfl (lv_at hl 2 rfl) ?_
      refine lv_iconst (v := (1 : Int32)) hx hb d_DI_of_30 (by decide) ?_
      refine lv_iadd hx hb d_DI_of_31 ?_
      refine lv_icmp_le (tgt := 80) hx hb d_DI_of_32 (by decide) (fun hc7 => ?_) (fun hc7 => ?_)
      · have hf := mz_t hc7 hf
        refine mz_gse E w (1 : Int32) (by decide) rfl k_627 d_DI_of_80 ?_
        obtain rfl := Option.some.inj hf
        exact mz_aret E w ⟨_, rfl⟩ rfl d_DI_of_83
      · have hf := mz_f hc7 hf
        refine lv_iconst (v := (0 : Int32)) hx hb d_DI_of_35 (by decide) ?_
        refine lv_istore (lv' := [(4, .int (0 : Int32)), (3, .int q5.1), (0, .ref (ad 1)), (1, .int x1), (2, .int x2)]) hx hb d_DI_of_36 hl (by decide) rfl (fun ls hl => ?_)
        exact b_DI_of_38 E n n x1 q5.1 (0 : Int32) q5.2 hf _ _ _ w (lv_sub hl [2, 3, 1, 0] rfl)
    · have hf := mz_f hc4 hf
      refine mz_gse E w (0 : Int32) (by decide) rfl k_562 d_DI_of_15 ?_
      obtain rfl := Option.some.inj hf
      exact mz_aret E w ⟨_, rfl⟩ rfl d_DI_of_18

/-! MacroHouse$Directive.behind(I)I -/
abbrev r_DI_behind : Room := { frames := 2, cells := 0, slots := 0, locals := 40 }
def f_DI_behind (n : Nat) (x0 : Int32) (x1 : Int32) (t : mz_St) : Option (Int32 × mz_St) := if x0.toNatClampNeg < 16 then (if (mz_wi.getD x0.toNatClampNeg 0) < 15 then ((f_JS_length n (mz_wi.getD x0.toNatClampNeg 0) t).bind fun q2 => some (((x1 + (1 : Int32)) + q2.1), q2.2)) else none) else none
set_option maxRecDepth 100000 in
set_option maxHeartbeats 4000000 in
theorem c_DI_behind {dC : Nat → ClassId} {dI : Nat → Nat → Nat} {ad en adK adV : Nat → Nat} {tA tS : Nat} {oF : Option Nat} {ca : Nat → ClassId} (hSK : mz_SK (mz_SC ad en adK adV tA tS oF) ad 80) (l : Launch) (n : Nat) (x0 : Int32) (x1 : Int32) (t : mz_St) (res : (Int32 × mz_St)) (hf : f_DI_behind n x0 x1 t = some res) : mz_C (mz_SC ad en adK adV tA tS oF) mz_tC 80 mz_cl dC dI ad en ca l y_DI_behind prog_5_method_5_code 2 (some (.int)) (r_DI_behind) [.ref (en x0.toNatClampNeg), .int x1] t (some (.int res.1)) res.2 := by
  unfold f_DI_behind at hf
  refine mz_met hSK (by decide) (Nat.le_of_ble_eq_true rfl) ?_
  intro p e s m args below meth c ls E w hl
  obtain ⟨hx, hb, hml, hown, hcx, -, -, hSX, -, -, -⟩ := id E
  have hl : lv_has ls 2 [(0, .ref (en x0.toNatClampNeg)), (1, .int x1)] := hl
  refine lv_iload_n hx hb d_DI_behind_0 rfl (lv_at hl 1 rfl) ?_
  refine lv_iconst (v := (1 : Int32)) hx hb d_DI_behind_1 (by decide) ?_
  refine lv_iadd hx hb d_DI_behind_2 ?_
  refine lv_aload_n hx hb d_DI_behind_3 rfl (lv_at hl 0 rfl) ?_
  obtain ⟨hg1, hf⟩ := mz_gd hf
  refine mz_gew E w hg1 k_1698 d_DI_behind_4 ?_
  obtain ⟨hg4, hf⟩ := mz_gd hf
  obtain ⟨q2, hq3, hf⟩ := mz_bd hf
  refine mz_callG E w (As := []) (rest := [.int (x1 + (1 : Int32))]) (c_JS_length hSK l n (mz_wi.getD x0.toNatClampNeg 0) t q2 hq3) (mz_rcK E w hg4) k_582 k_21 k_710 k_580 k_581 hm_JS_length ⟨⟨rfl, rfl⟩, Nat.le_of_ble_eq_true rfl, Nat.le_of_ble_eq_true rfl⟩ rfl hl.1 rfl (Nat.le_of_ble_eq_true rfl) d_DI_behind_7 ⟨Nat.zero_le _, Nat.zero_le _⟩ (st1 := [.int q2.1, .int (x1 + (1 : Int32))]) rfl (fun H locs w => ?_)
  refine lv_iadd hx hb d_DI_behind_10 ?_
  obtain rfl := Option.some.inj hf
  exact mz_iret E w rfl d_DI_behind_11
