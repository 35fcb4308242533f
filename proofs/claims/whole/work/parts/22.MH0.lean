/-! MacroHouse.expand()I -/
abbrev r_MH_expand : Room := { frames := 77, cells := 0, slots := 0, locals := 2377 }
def f_MH_expand (n : Nat) (t : mz_St) : Option (Int32 × mz_St) := (f_EX_run n t).bind fun q1 => if (mz_gI q1 5 7) = 0 then (some ((mz_gI q1 32 5), q1)) else (some ((-1 : Int32), q1))
set_option maxRecDepth 100000 in
set_option maxHeartbeats 4000000 in
theorem c_MH_expand {dC : Nat → ClassId} {dI : Nat → Nat → Nat} {ad en adK adV : Nat → Nat} {tA tS : Nat} {oF : Option Nat} {ca : Nat → ClassId} (hSK : mz_SK (mz_SC ad en adK adV tA tS oF) ad 80) (l : Launch) (n : Nat) (t : mz_St) (res : (Int32 × mz_St)) (hf : f_MH_expand n t = some res) : mz_C (mz_SC ad en adK adV tA tS oF) mz_tC 80 mz_cl dC dI ad en ca l y_MH_expand prog_1_method_4_code 1 (some (.int)) (r_MH_expand) [.ref (ad 0)] t (some (.int res.1)) res.2 := by
  unfold f_MH_expand at hf
  refine mz_met hSK (by decide) (Nat.le_of_ble_eq_true rfl) ?_
  intro p e s m args below meth c ls E w hl
  obtain ⟨hx, hb, hml, hown, hcx, -, -, hSX, -, -, -⟩ := id E
  have hl : lv_has ls 1 [(0, .ref (ad 0))] := hl
  refine lv_aload_n hx hb d_MH_expand_0 rfl (lv_at hl 0 rfl) ?_
  refine mz_get E w 0 1 (v := .ref (ad 5)) (by decide) rfl rfl ii_0 (by decide) (Nat.le_of_ble_eq_true rfl) k_425 rfl d_MH_expand_1 ?_
  obtain ⟨q1, hq2, hf⟩ := mz_bd hf
  refine mz_callV E w (k := 5) (As := []) (rest := []) (c_EX_run hSK l n t q1 hq2) (by decide) rfl rfl k_438 k_3 k_435 k_436 k_437 hm_EX_run ⟨⟨rfl, rfl⟩, Nat.le_of_ble_eq_true rfl, Nat.le_of_ble_eq_true rfl⟩ rfl hl.1 rfl (Nat.le_of_ble_eq_true rfl) d_MH_expand_4 ⟨Nat.zero_le _, Nat.zero_le _⟩ (st1 := []) rfl (fun H locs w => ?_)
  refine lv_aload_n hx hb d_MH_expand_7 rfl (lv_at hl 0 rfl) ?_
  refine mz_get E w 0 1 (v := .ref (ad 5)) (by decide) rfl rfl ii_0 (by decide) (Nat.le_of_ble_eq_true rfl) k_425 rfl d_MH_expand_8 ?_
  refine mz_get E w 5 7 (v := .int (mz_gI q1 5 7)) (by decide) rfl rfl ii_2 (by decide) (Nat.le_of_ble_eq_true rfl) k_382 rfl d_MH_expand_11 ?_
  refine lv_if_ne (tgt := 30) hx hb d_MH_expand_14 (by decide) (fun hc3 => ?_) (fun hc3 => ?_)
  · have hf := mz_f hc3 hf
    refine lv_iconst (v := (-1 : Int32)) hx hb d_MH_expand_30 (by decide) ?_
    obtain rfl := Option.some.inj hf
    exact mz_iret E w rfl d_MH_expand_31
  · have hf := mz_t hc3 hf
    refine lv_aload_n hx hb d_MH_expand_17 rfl (lv_at hl 0 rfl) ?_
    refine mz_get E w 0 1 (v := .ref (ad 5)) (by decide) rfl rfl ii_0 (by decide) (Nat.le_of_ble_eq_true rfl) k_425 rfl d_MH_expand_18 ?_
    refine mz_get E w 5 6 (v := .ref (ad 32)) (by decide) rfl rfl ii_2 (by decide) (Nat.le_of_ble_eq_true rfl) k_380 rfl d_MH_expand_21 ?_
    refine mz_get E w 32 5 (v := .int (mz_gI q1 32 5)) (by decide) rfl rfl ii_9 (by decide) (Nat.le_of_ble_eq_true rfl) k_106 rfl d_MH_expand_24 ?_
    refine lv_goto (tgt := 31) hx hb d_MH_expand_27 (by decide) ?_
    obtain rfl := Option.some.inj hf
    exact mz_iret E w rfl d_MH_expand_31
