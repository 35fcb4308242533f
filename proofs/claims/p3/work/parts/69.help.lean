/-! The law's helpers -/
abbrev lh_S (ad en adK adV : Nat → Nat) (tA tS : Nat) (oF : Option Nat) : State → Heap → Prop := mz_SC ad en adK adV tA tS oF
abbrev lh_X (ad : Nat → Nat) (o : Nat) (en adK adV : Nat → Nat) (tA tS : Nat) (oF : Option Nat) : State → Prop := fun U => mz_S0 (lh_A ad o) en adK adV tA tS oF U U.heap
theorem lh_So {ad : Nat → Nat} {o : Nat} {en adK adV : Nat → Nat} {tA tS : Nat} {oF : Option Nat} {s : State} (h : lh_X ad o en adK adV tA tS oF s) (U : State) (H : Heap) (_ : mz_SC ad en adK adV tA tS oF s s.heap) (hq : ∀ q : Nat, q < s.heap.size → ¬ lh_A ad o q → H[q]? = s.heap[q]?) (hW : s.WarmedH U.vm) : mz_SC ad en adK adV tA tS oF U H := h.to (fun q hq => Or.inl hq) hq hW
theorem lh_tab {c : Code} {L : List ExceptionTableEntry} (h : c.exceptionTable.toList.map (fun h => (h.startPc, h.endPc, h.handlerPc, h.catchType)) = L.map (fun h => (h.startPc, h.endPc, h.handlerPc, h.catchType))) : c.exceptionTable.toList = L := by
  have inj : ∀ a b : ExceptionTableEntry, (fun h : ExceptionTableEntry => (h.startPc, h.endPc, h.handlerPc, h.catchType)) a = (fun h : ExceptionTableEntry => (h.startPc, h.endPc, h.handlerPc, h.catchType)) b → a = b := by
    intro a b hab
    cases a; cases b
    simp only [Prod.mk.injEq] at hab
    obtain ⟨rfl, rfl, rfl, rfl⟩ := hab
    rfl
  have key : ∀ l1 l2 : List ExceptionTableEntry, l1.map (fun h => (h.startPc, h.endPc, h.handlerPc, h.catchType)) = l2.map (fun h => (h.startPc, h.endPc, h.handlerPc, h.catchType)) → l1 = l2 := by
    intro l1
    induction l1 with
    | nil =>
      intro l2 h
      cases l2 with
      | nil => rfl
      | cons b r => exact nomatch h
    | cons a r ih =>
      intro l2 h
      cases l2 with
      | nil => exact nomatch h
      | cons b r2 =>
        rw [List.map_cons, List.map_cons] at h
        injection h with h1 h2
        rw [inj a b h1, ih r2 h2]
  exact key _ _ h
abbrev y_LA_put : MethodName := ⟨"MacroHouseLaw", "put", "(LMacroHouse;I[J)I"⟩
theorem d_LA_put_0 : decode method_3_code 0 = .ok (.aload_n 2, 1) := by decide +kernel
theorem d_LA_put_1 : decode method_3_code 1 = .ok (.iconst 0, 1) := by decide +kernel
theorem d_LA_put_2 : decode method_3_code 2 = .ok (.aload_n 0, 1) := by decide +kernel
theorem d_LA_put_3 : decode method_3_code 3 = .ok (.iload_n 1, 1) := by decide +kernel
theorem d_LA_put_4 : decode method_3_code 4 = .ok (.invokevirtual 7, 3) := by decide +kernel
theorem d_LA_put_7 : decode method_3_code 7 = .ok (.i2l, 1) := by decide +kernel
theorem d_LA_put_8 : decode method_3_code 8 = .ok (.lastore, 1) := by decide +kernel
theorem d_LA_put_9 : decode method_3_code 9 = .ok (.goto 9, 3) := by decide +kernel
theorem d_LA_put_12 : decode method_3_code 12 = .ok (.astore_n 3, 1) := by decide +kernel
theorem d_LA_put_13 : decode method_3_code 13 = .ok (.iconst 1, 1) := by decide +kernel
theorem d_LA_put_14 : decode method_3_code 14 = .ok (.ireturn, 1) := by decide +kernel
theorem d_LA_put_15 : decode method_3_code 15 = .ok (.astore_n 3, 1) := by decide +kernel
theorem d_LA_put_16 : decode method_3_code 16 = .ok (.iconst 2, 1) := by decide +kernel
theorem d_LA_put_17 : decode method_3_code 17 = .ok (.ireturn, 1) := by decide +kernel
theorem d_LA_put_18 : decode method_3_code 18 = .ok (.iconst 0, 1) := by decide +kernel
theorem d_LA_put_19 : decode method_3_code 19 = .ok (.ireturn, 1) := by decide +kernel
abbrev hh_put : List (Nat × Nat × Nat × Nat) := [(0, 9, 12, 13), (0, 9, 15, 15)]
theorem lk_put : Cond.codeWith y_LA_put method_3_code 4 (some .int) hh_put ∈ mz_tb := mz_m5 50 rfl rfl
abbrev r_LA_put : Room := { frames := 7, cells := 1, slots := 6, locals := 106 }
set_option maxRecDepth 100000 in
set_option maxHeartbeats 4000000 in
theorem h_put_N {dC : Nat → ClassId} {dI : Nat → Nat → Nat} {ad en adK adV : Nat → Nat} {tA tS : Nat} {oF : Option Nat} {ca : Nat → ClassId} {o : Nat} {g : Nat → Int64} (hSK : mz_SK (mz_SC ad en adK adV tA tS oF) ad 80) (l : Launch) (hT : ∀ e, l.admits e → e.platform.stackTraces = false) (n : Nat) (x1 : Int32) (t : mz_St) (res : (Int32 × mz_St)) (hf : f_MH_put n x1 t = some res) : lh_C (lh_S ad en adK adV tA tS oF) (lh_X ad o en adK adV tA tS oF) dC dI ad en ca l y_LA_put method_3_code 4 hh_put r_LA_put [.ref (ad 0), .int x1, .ref o] o g t 0 (vp_updL g 0 res.1.toInt64) res.2 := by
  refine lh_met hSK (by decide) (Nat.le_of_ble_eq_true rfl) ?_
  intro p e s m args below meth c ls hadm E hTH hex w hPo hno hXS hl
  have hLT := hT e hadm
  obtain ⟨hx, hb, hml, hown, hcx, -, -, hSX, -, -, -⟩ := id E
  have hl : lv_has ls 4 [(0, .ref (ad 0)), (1, .int x1), (2, .ref o)] := hl
  refine lv_aload_n hx hb d_LA_put_0 rfl (lv_at hl 2 rfl) ?_
  refine lv_iconst (v := (0 : Int32)) hx hb d_LA_put_1 (by decide) ?_
  refine lv_aload_n hx hb d_LA_put_2 rfl (lv_at hl 0 rfl) ?_
  refine lv_iload_n hx hb d_LA_put_3 rfl (lv_at hl 1 rfl) ?_
  refine mz_callV E w (k := 0) (As := [.int x1]) (rest := [.int (0 : Int32), .ref o]) (c_MH_put hSK l n x1 t res hf) (by decide) rfl rfl k_1016 k_1 k_1013 k_1014 k_1015 hm_MH_put ⟨⟨rfl, rfl⟩, (Nat.le_of_ble_eq_true rfl), (Nat.le_of_ble_eq_true rfl)⟩ rfl hl.1 rfl (Nat.le_of_ble_eq_true rfl) d_LA_put_4 ⟨Nat.zero_le _, Nat.zero_le _⟩ (st1 := [.int res.1, .int (0 : Int32), .ref o]) rfl (fun H locs w => ?_)
  have w := lh_up w hPo hno
  refine lv_i2l (v := res.1.toInt64) hx hb d_LA_put_7 rfl ?_
  refine lh_last E w hno d_LA_put_8 (fun H locs w => ?_)
  refine lv_goto (tgt := 18) hx hb d_LA_put_9 (by decide) ?_
  refine lv_iconst (v := (0 : Int32)) hx hb d_LA_put_18 (by decide) ?_
  refine W.widen (k := 1) (n := 6) (by omega) (by omega) ?_
  exact lh_ret E w hno (lh_So hXS) d_LA_put_19
set_option maxRecDepth 100000 in
set_option maxHeartbeats 4000000 in
theorem h_put_T0 {dC : Nat → ClassId} {dI : Nat → Nat → Nat} {ad en adK adV : Nat → Nat} {tA tS : Nat} {oF : Option Nat} {ca : Nat → ClassId} {o : Nat} {g : Nat → Int64} (hSK : mz_SK (mz_SC ad en adK adV tA tS oF) ad 80) (l : Launch) (hT : ∀ e, l.admits e → e.platform.stackTraces = false) (n : Nat) (x1 : Int32) (t : mz_St) (res : Unit) (hf : f_MH_put_T n x1 t = some 0) : lh_C (lh_S ad en adK adV tA tS oF) (lh_X ad o en adK adV tA tS oF) dC dI ad en ca l y_LA_put method_3_code 4 hh_put r_LA_put [.ref (ad 0), .int x1, .ref o] o g t 1 g t := by
  refine lh_met hSK (by decide) (Nat.le_of_ble_eq_true rfl) ?_
  intro p e s m args below meth c ls hadm E hTH hex w hPo hno hXS hl
  have hLT := hT e hadm
  obtain ⟨hx, hb, hml, hown, hcx, -, -, hSX, -, -, -⟩ := id E
  have hl : lv_has ls 4 [(0, .ref (ad 0)), (1, .int x1), (2, .ref o)] := hl
  refine lv_aload_n hx hb d_LA_put_0 rfl (lv_at hl 2 rfl) ?_
  refine lv_iconst (v := (0 : Int32)) hx hb d_LA_put_1 (by decide) ?_
  refine lv_aload_n hx hb d_LA_put_2 rfl (lv_at hl 0 rfl) ?_
  refine lv_iload_n hx hb d_LA_put_3 rfl (lv_at hl 1 rfl) ?_
  have hsp : c.exceptionTable.toList = [] ++ (⟨0, 9, 12, 13⟩ : ExceptionTableEntry) :: [⟨0, 9, 15, 15⟩] := lh_tab hex
  refine lh_thr E hTH w (k := 0) (As := [.int x1]) (rest := [.int (0 : Int32), .ref o]) (c_MH_put_T hSK l hT n x1 t 0 hf) (by decide) rfl rfl k_1016 k_1 k_1013 k_1014 k_1015 hm_MH_put ⟨⟨rfl, rfl⟩, (Nat.le_of_ble_eq_true rfl), (Nat.le_of_ble_eq_true rfl)⟩ rfl hl.1 rfl (Nat.le_of_ble_eq_true rfl) d_LA_put_4 ⟨(Nat.le_of_ble_eq_true rfl), (Nat.le_of_ble_eq_true rfl)⟩ _ _ _ hsp (fun y0 hy0 => nomatch hy0) (by decide) (by decide) k_1011 (List.mem_of_getElem? (i := 7) rfl) (fun H a w => ?_)
  have w := lh_up w hPo hno
  refine lv_astore_n (lv' := [(3, .ref a), (0, .ref (ad 0)), (1, .int x1), (2, .ref o)]) hx hb d_LA_put_12 rfl hl (by decide) rfl (fun ls hl => ?_)
  refine lv_iconst (v := (1 : Int32)) hx hb d_LA_put_13 (by decide) ?_
  exact lh_ret E w hno (lh_So hXS) d_LA_put_14
set_option maxRecDepth 100000 in
set_option maxHeartbeats 4000000 in
theorem h_put_T1 {dC : Nat → ClassId} {dI : Nat → Nat → Nat} {ad en adK adV : Nat → Nat} {tA tS : Nat} {oF : Option Nat} {ca : Nat → ClassId} {o : Nat} {g : Nat → Int64} (hSK : mz_SK (mz_SC ad en adK adV tA tS oF) ad 80) (l : Launch) (hT : ∀ e, l.admits e → e.platform.stackTraces = false) (n : Nat) (x1 : Int32) (t : mz_St) (res : Unit) (hf : f_MH_put_T n x1 t = some 1) : lh_C (lh_S ad en adK adV tA tS oF) (lh_X ad o en adK adV tA tS oF) dC dI ad en ca l y_LA_put method_3_code 4 hh_put r_LA_put [.ref (ad 0), .int x1, .ref o] o g t 2 g t := by
  refine lh_met hSK (by decide) (Nat.le_of_ble_eq_true rfl) ?_
  intro p e s m args below meth c ls hadm E hTH hex w hPo hno hXS hl
  have hLT := hT e hadm
  obtain ⟨hx, hb, hml, hown, hcx, -, -, hSX, -, -, -⟩ := id E
  have hl : lv_has ls 4 [(0, .ref (ad 0)), (1, .int x1), (2, .ref o)] := hl
  refine lv_aload_n hx hb d_LA_put_0 rfl (lv_at hl 2 rfl) ?_
  refine lv_iconst (v := (0 : Int32)) hx hb d_LA_put_1 (by decide) ?_
  refine lv_aload_n hx hb d_LA_put_2 rfl (lv_at hl 0 rfl) ?_
  refine lv_iload_n hx hb d_LA_put_3 rfl (lv_at hl 1 rfl) ?_
  have hsp : c.exceptionTable.toList = [⟨0, 9, 12, 13⟩] ++ (⟨0, 9, 15, 15⟩ : ExceptionTableEntry) :: [] := lh_tab hex
  refine lh_thr E hTH w (k := 0) (As := [.int x1]) (rest := [.int (0 : Int32), .ref o]) (c_MH_put_T hSK l hT n x1 t 1 hf) (by decide) rfl rfl k_1016 k_1 k_1013 k_1014 k_1015 hm_MH_put ⟨⟨rfl, rfl⟩, (Nat.le_of_ble_eq_true rfl), (Nat.le_of_ble_eq_true rfl)⟩ rfl hl.1 rfl (Nat.le_of_ble_eq_true rfl) d_LA_put_4 ⟨(Nat.le_of_ble_eq_true rfl), (Nat.le_of_ble_eq_true rfl)⟩ _ _ _ hsp (fun y0 hy0 => by rw [List.mem_singleton] at hy0; subst hy0; exact ⟨by decide, "java/lang/IllegalArgumentException", k_1011, List.mem_of_getElem? (i := 10) rfl⟩) (by decide) (by decide) k_1012 (List.mem_of_getElem? (i := 8) rfl) (fun H a w => ?_)
  have w := lh_up w hPo hno
  refine lv_astore_n (lv' := [(3, .ref a), (0, .ref (ad 0)), (1, .int x1), (2, .ref o)]) hx hb d_LA_put_15 rfl hl (by decide) rfl (fun ls hl => ?_)
  refine lv_iconst (v := (2 : Int32)) hx hb d_LA_put_16 (by decide) ?_
  exact lh_ret E w hno (lh_So hXS) d_LA_put_17
abbrev y_LA_end : MethodName := ⟨"MacroHouseLaw", "end", "(LMacroHouse;I)I"⟩
theorem d_LA_end_0 : decode method_4_code 0 = .ok (.aload_n 0, 1) := by decide +kernel
theorem d_LA_end_1 : decode method_4_code 1 = .ok (.iload_n 1, 1) := by decide +kernel
theorem d_LA_end_2 : decode method_4_code 2 = .ok (.invokevirtual 17, 3) := by decide +kernel
theorem d_LA_end_5 : decode method_4_code 5 = .ok (.goto 6, 3) := by decide +kernel
theorem d_LA_end_8 : decode method_4_code 8 = .ok (.astore_n 2, 1) := by decide +kernel
theorem d_LA_end_9 : decode method_4_code 9 = .ok (.iconst 1, 1) := by decide +kernel
theorem d_LA_end_10 : decode method_4_code 10 = .ok (.ireturn, 1) := by decide +kernel
theorem d_LA_end_11 : decode method_4_code 11 = .ok (.iconst 0, 1) := by decide +kernel
theorem d_LA_end_12 : decode method_4_code 12 = .ok (.ireturn, 1) := by decide +kernel
abbrev hh_end : List (Nat × Nat × Nat × Nat) := [(0, 5, 8, 13)]
theorem lk_end : Cond.codeWith y_LA_end method_4_code 3 (some .int) hh_end ∈ mz_tb := mz_m5 146 rfl rfl
abbrev r_LA_end : Room := { frames := 7, cells := 1, slots := 6, locals := 103 }
set_option maxRecDepth 100000 in
set_option maxHeartbeats 4000000 in
theorem h_end_N {dC : Nat → ClassId} {dI : Nat → Nat → Nat} {ad en adK adV : Nat → Nat} {tA tS : Nat} {oF : Option Nat} {ca : Nat → ClassId} {o : Nat} {g : Nat → Int64} (hSK : mz_SK (mz_SC ad en adK adV tA tS oF) ad 80) (l : Launch) (hT : ∀ e, l.admits e → e.platform.stackTraces = false) (n : Nat) (x1 : Int32) (t : mz_St) (res : mz_St) (hf : f_MH_end n x1 t = some res) : lh_C (lh_S ad en adK adV tA tS oF) (lh_X ad o en adK adV tA tS oF) dC dI ad en ca l y_LA_end method_4_code 3 hh_end r_LA_end [.ref (ad 0), .int x1] o g t 0 g res := by
  refine lh_met hSK (by decide) (Nat.le_of_ble_eq_true rfl) ?_
  intro p e s m args below meth c ls hadm E hTH hex w hPo hno hXS hl
  have hLT := hT e hadm
  obtain ⟨hx, hb, hml, hown, hcx, -, -, hSX, -, -, -⟩ := id E
  have hl : lv_has ls 3 [(0, .ref (ad 0)), (1, .int x1)] := hl
  refine lv_aload_n hx hb d_LA_end_0 rfl (lv_at hl 0 rfl) ?_
  refine lv_iload_n hx hb d_LA_end_1 rfl (lv_at hl 1 rfl) ?_
  refine mz_callV E w (k := 0) (As := [.int x1]) (rest := []) (c_MH_end hSK l n x1 t res hf) (by decide) rfl rfl k_1110 k_1 k_1107 k_1108 k_1109 hm_MH_end ⟨⟨rfl, rfl⟩, (Nat.le_of_ble_eq_true rfl), (Nat.le_of_ble_eq_true rfl)⟩ rfl hl.1 rfl (Nat.le_of_ble_eq_true rfl) d_LA_end_2 ⟨Nat.zero_le _, Nat.zero_le _⟩ (st1 := []) rfl (fun H locs w => ?_)
  have w := lh_up w hPo hno
  refine lv_goto (tgt := 11) hx hb d_LA_end_5 (by decide) ?_
  refine lv_iconst (v := (0 : Int32)) hx hb d_LA_end_11 (by decide) ?_
  refine W.widen (k := 1) (n := 6) (by omega) (by omega) ?_
  exact lh_ret E w hno (lh_So hXS) d_LA_end_12
set_option maxRecDepth 100000 in
set_option maxHeartbeats 4000000 in
theorem h_end_T0 {dC : Nat → ClassId} {dI : Nat → Nat → Nat} {ad en adK adV : Nat → Nat} {tA tS : Nat} {oF : Option Nat} {ca : Nat → ClassId} {o : Nat} {g : Nat → Int64} (hSK : mz_SK (mz_SC ad en adK adV tA tS oF) ad 80) (l : Launch) (hT : ∀ e, l.admits e → e.platform.stackTraces = false) (n : Nat) (x1 : Int32) (t : mz_St) (res : Unit) (hf : f_MH_end_T n x1 t = some 0) : lh_C (lh_S ad en adK adV tA tS oF) (lh_X ad o en adK adV tA tS oF) dC dI ad en ca l y_LA_end method_4_code 3 hh_end r_LA_end [.ref (ad 0), .int x1] o g t 1 g t := by
  refine lh_met hSK (by decide) (Nat.le_of_ble_eq_true rfl) ?_
  intro p e s m args below meth c ls hadm E hTH hex w hPo hno hXS hl
  have hLT := hT e hadm
  obtain ⟨hx, hb, hml, hown, hcx, -, -, hSX, -, -, -⟩ := id E
  have hl : lv_has ls 3 [(0, .ref (ad 0)), (1, .int x1)] := hl
  refine lv_aload_n hx hb d_LA_end_0 rfl (lv_at hl 0 rfl) ?_
  refine lv_iload_n hx hb d_LA_end_1 rfl (lv_at hl 1 rfl) ?_
  have hsp : c.exceptionTable.toList = [] ++ (⟨0, 5, 8, 13⟩ : ExceptionTableEntry) :: [] := lh_tab hex
  refine lh_thr E hTH w (k := 0) (As := [.int x1]) (rest := []) (c_MH_end_T hSK l hT n x1 t 0 hf) (by decide) rfl rfl k_1110 k_1 k_1107 k_1108 k_1109 hm_MH_end ⟨⟨rfl, rfl⟩, (Nat.le_of_ble_eq_true rfl), (Nat.le_of_ble_eq_true rfl)⟩ rfl hl.1 rfl (Nat.le_of_ble_eq_true rfl) d_LA_end_2 ⟨(Nat.le_of_ble_eq_true rfl), (Nat.le_of_ble_eq_true rfl)⟩ _ _ _ hsp (fun y0 hy0 => nomatch hy0) (by decide) (by decide) k_1011 (List.mem_of_getElem? (i := 7) rfl) (fun H a w => ?_)
  have w := lh_up w hPo hno
  refine lv_astore_n (lv' := [(2, .ref a), (0, .ref (ad 0)), (1, .int x1)]) hx hb d_LA_end_8 rfl hl (by decide) rfl (fun ls hl => ?_)
  refine lv_iconst (v := (1 : Int32)) hx hb d_LA_end_9 (by decide) ?_
  exact lh_ret E w hno (lh_So hXS) d_LA_end_10
abbrev y_LA_about : MethodName := ⟨"MacroHouseLaw", "about", "(LMacroHouse;I[J)I"⟩
theorem d_LA_about_0 : decode method_5_code 0 = .ok (.aload_n 2, 1) := by decide +kernel
theorem d_LA_about_1 : decode method_5_code 1 = .ok (.iconst 0, 1) := by decide +kernel
theorem d_LA_about_2 : decode method_5_code 2 = .ok (.aload_n 0, 1) := by decide +kernel
theorem d_LA_about_3 : decode method_5_code 3 = .ok (.iload_n 1, 1) := by decide +kernel
theorem d_LA_about_4 : decode method_5_code 4 = .ok (.invokevirtual 21, 3) := by decide +kernel
theorem d_LA_about_7 : decode method_5_code 7 = .ok (.i2l, 1) := by decide +kernel
theorem d_LA_about_8 : decode method_5_code 8 = .ok (.lastore, 1) := by decide +kernel
theorem d_LA_about_9 : decode method_5_code 9 = .ok (.goto 6, 3) := by decide +kernel
theorem d_LA_about_12 : decode method_5_code 12 = .ok (.astore_n 3, 1) := by decide +kernel
theorem d_LA_about_13 : decode method_5_code 13 = .ok (.iconst 1, 1) := by decide +kernel
theorem d_LA_about_14 : decode method_5_code 14 = .ok (.ireturn, 1) := by decide +kernel
theorem d_LA_about_15 : decode method_5_code 15 = .ok (.iconst 0, 1) := by decide +kernel
theorem d_LA_about_16 : decode method_5_code 16 = .ok (.ireturn, 1) := by decide +kernel
abbrev hh_about : List (Nat × Nat × Nat × Nat) := [(0, 9, 12, 13)]
theorem lk_about : Cond.codeWith y_LA_about method_5_code 4 (some .int) hh_about ∈ mz_tb := mz_m5 154 rfl rfl
abbrev r_LA_about : Room := { frames := 7, cells := 1, slots := 6, locals := 103 }
set_option maxRecDepth 100000 in
set_option maxHeartbeats 4000000 in
theorem h_about_N {dC : Nat → ClassId} {dI : Nat → Nat → Nat} {ad en adK adV : Nat → Nat} {tA tS : Nat} {oF : Option Nat} {ca : Nat → ClassId} {o : Nat} {g : Nat → Int64} (hSK : mz_SK (mz_SC ad en adK adV tA tS oF) ad 80) (l : Launch) (hT : ∀ e, l.admits e → e.platform.stackTraces = false) (n : Nat) (x1 : Int32) (t : mz_St) (res : (Int32 × mz_St)) (hf : f_MH_about n x1 t = some res) : lh_C (lh_S ad en adK adV tA tS oF) (lh_X ad o en adK adV tA tS oF) dC dI ad en ca l y_LA_about method_5_code 4 hh_about r_LA_about [.ref (ad 0), .int x1, .ref o] o g t 0 (vp_updL g 0 res.1.toInt64) res.2 := by
  refine lh_met hSK (by decide) (Nat.le_of_ble_eq_true rfl) ?_
  intro p e s m args below meth c ls hadm E hTH hex w hPo hno hXS hl
  have hLT := hT e hadm
  obtain ⟨hx, hb, hml, hown, hcx, -, -, hSX, -, -, -⟩ := id E
  have hl : lv_has ls 4 [(0, .ref (ad 0)), (1, .int x1), (2, .ref o)] := hl
  refine lv_aload_n hx hb d_LA_about_0 rfl (lv_at hl 2 rfl) ?_
  refine lv_iconst (v := (0 : Int32)) hx hb d_LA_about_1 (by decide) ?_
  refine lv_aload_n hx hb d_LA_about_2 rfl (lv_at hl 0 rfl) ?_
  refine lv_iload_n hx hb d_LA_about_3 rfl (lv_at hl 1 rfl) ?_
  refine mz_callV E w (k := 0) (As := [.int x1]) (rest := [.int (0 : Int32), .ref o]) (c_MH_about hSK l n x1 t res hf) (by decide) rfl rfl k_1118 k_1 k_1115 k_1116 k_1117 hm_MH_about ⟨⟨rfl, rfl⟩, (Nat.le_of_ble_eq_true rfl), (Nat.le_of_ble_eq_true rfl)⟩ rfl hl.1 rfl (Nat.le_of_ble_eq_true rfl) d_LA_about_4 ⟨Nat.zero_le _, Nat.zero_le _⟩ (st1 := [.int res.1, .int (0 : Int32), .ref o]) rfl (fun H locs w => ?_)
  have w := lh_up w hPo hno
  refine lv_i2l (v := res.1.toInt64) hx hb d_LA_about_7 rfl ?_
  refine lh_last E w hno d_LA_about_8 (fun H locs w => ?_)
  refine lv_goto (tgt := 15) hx hb d_LA_about_9 (by decide) ?_
  refine lv_iconst (v := (0 : Int32)) hx hb d_LA_about_15 (by decide) ?_
  refine W.widen (k := 1) (n := 6) (by omega) (by omega) ?_
  exact lh_ret E w hno (lh_So hXS) d_LA_about_16
set_option maxRecDepth 100000 in
set_option maxHeartbeats 4000000 in
theorem h_about_T0 {dC : Nat → ClassId} {dI : Nat → Nat → Nat} {ad en adK adV : Nat → Nat} {tA tS : Nat} {oF : Option Nat} {ca : Nat → ClassId} {o : Nat} {g : Nat → Int64} (hSK : mz_SK (mz_SC ad en adK adV tA tS oF) ad 80) (l : Launch) (hT : ∀ e, l.admits e → e.platform.stackTraces = false) (n : Nat) (x1 : Int32) (t : mz_St) (res : Unit) (hf : f_MH_about_T n x1 t = some 0) : lh_C (lh_S ad en adK adV tA tS oF) (lh_X ad o en adK adV tA tS oF) dC dI ad en ca l y_LA_about method_5_code 4 hh_about r_LA_about [.ref (ad 0), .int x1, .ref o] o g t 1 g t := by
  refine lh_met hSK (by decide) (Nat.le_of_ble_eq_true rfl) ?_
  intro p e s m args below meth c ls hadm E hTH hex w hPo hno hXS hl
  have hLT := hT e hadm
  obtain ⟨hx, hb, hml, hown, hcx, -, -, hSX, -, -, -⟩ := id E
  have hl : lv_has ls 4 [(0, .ref (ad 0)), (1, .int x1), (2, .ref o)] := hl
  refine lv_aload_n hx hb d_LA_about_0 rfl (lv_at hl 2 rfl) ?_
  refine lv_iconst (v := (0 : Int32)) hx hb d_LA_about_1 (by decide) ?_
  refine lv_aload_n hx hb d_LA_about_2 rfl (lv_at hl 0 rfl) ?_
  refine lv_iload_n hx hb d_LA_about_3 rfl (lv_at hl 1 rfl) ?_
  have hsp : c.exceptionTable.toList = [] ++ (⟨0, 9, 12, 13⟩ : ExceptionTableEntry) :: [] := lh_tab hex
  refine lh_thr E hTH w (k := 0) (As := [.int x1]) (rest := [.int (0 : Int32), .ref o]) (c_MH_about_T hSK l hT n x1 t 0 hf) (by decide) rfl rfl k_1118 k_1 k_1115 k_1116 k_1117 hm_MH_about ⟨⟨rfl, rfl⟩, (Nat.le_of_ble_eq_true rfl), (Nat.le_of_ble_eq_true rfl)⟩ rfl hl.1 rfl (Nat.le_of_ble_eq_true rfl) d_LA_about_4 ⟨(Nat.le_of_ble_eq_true rfl), (Nat.le_of_ble_eq_true rfl)⟩ _ _ _ hsp (fun y0 hy0 => nomatch hy0) (by decide) (by decide) k_1011 (List.mem_of_getElem? (i := 7) rfl) (fun H a w => ?_)
  have w := lh_up w hPo hno
  refine lv_astore_n (lv' := [(3, .ref a), (0, .ref (ad 0)), (1, .int x1), (2, .ref o)]) hx hb d_LA_about_12 rfl hl (by decide) rfl (fun ls hl => ?_)
  refine lv_iconst (v := (1 : Int32)) hx hb d_LA_about_13 (by decide) ?_
  exact lh_ret E w hno (lh_So hXS) d_LA_about_14
abbrev y_LA_line : MethodName := ⟨"MacroHouseLaw", "line", "(LMacroHouse;II[J)I"⟩
theorem d_LA_line_0 : decode method_6_code 0 = .ok (.aload_n 3, 1) := by decide +kernel
theorem d_LA_line_1 : decode method_6_code 1 = .ok (.iconst 0, 1) := by decide +kernel
theorem d_LA_line_2 : decode method_6_code 2 = .ok (.aload_n 0, 1) := by decide +kernel
theorem d_LA_line_3 : decode method_6_code 3 = .ok (.iload_n 1, 1) := by decide +kernel
theorem d_LA_line_4 : decode method_6_code 4 = .ok (.iload_n 2, 1) := by decide +kernel
theorem d_LA_line_5 : decode method_6_code 5 = .ok (.invokevirtual 24, 3) := by decide +kernel
theorem d_LA_line_8 : decode method_6_code 8 = .ok (.i2l, 1) := by decide +kernel
theorem d_LA_line_9 : decode method_6_code 9 = .ok (.lastore, 1) := by decide +kernel
theorem d_LA_line_10 : decode method_6_code 10 = .ok (.goto 11, 3) := by decide +kernel
theorem d_LA_line_13 : decode method_6_code 13 = .ok (.astore 4, 2) := by decide +kernel
theorem d_LA_line_15 : decode method_6_code 15 = .ok (.iconst 1, 1) := by decide +kernel
theorem d_LA_line_16 : decode method_6_code 16 = .ok (.ireturn, 1) := by decide +kernel
theorem d_LA_line_17 : decode method_6_code 17 = .ok (.astore 4, 2) := by decide +kernel
theorem d_LA_line_19 : decode method_6_code 19 = .ok (.iconst 2, 1) := by decide +kernel
theorem d_LA_line_20 : decode method_6_code 20 = .ok (.ireturn, 1) := by decide +kernel
theorem d_LA_line_21 : decode method_6_code 21 = .ok (.iconst 0, 1) := by decide +kernel
theorem d_LA_line_22 : decode method_6_code 22 = .ok (.ireturn, 1) := by decide +kernel
abbrev hh_line : List (Nat × Nat × Nat × Nat) := [(0, 10, 13, 28), (0, 10, 17, 13)]
theorem lk_line : Cond.codeWith y_LA_line method_6_code 5 (some .int) hh_line ∈ mz_tb := mz_m5 162 rfl rfl
abbrev r_LA_line : Room := { frames := 7, cells := 1, slots := 6, locals := 104 }
set_option maxRecDepth 100000 in
set_option maxHeartbeats 4000000 in
theorem h_line_N {dC : Nat → ClassId} {dI : Nat → Nat → Nat} {ad en adK adV : Nat → Nat} {tA tS : Nat} {oF : Option Nat} {ca : Nat → ClassId} {o : Nat} {g : Nat → Int64} (hSK : mz_SK (mz_SC ad en adK adV tA tS oF) ad 80) (l : Launch) (hT : ∀ e, l.admits e → e.platform.stackTraces = false) (n : Nat) (x1 : Int32) (x2 : Int32) (t : mz_St) (res : (Int32 × mz_St)) (hf : f_MH_line n x1 x2 t = some res) : lh_C (lh_S ad en adK adV tA tS oF) (lh_X ad o en adK adV tA tS oF) dC dI ad en ca l y_LA_line method_6_code 5 hh_line r_LA_line [.ref (ad 0), .int x1, .int x2, .ref o] o g t 0 (vp_updL g 0 res.1.toInt64) res.2 := by
  refine lh_met hSK (by decide) (Nat.le_of_ble_eq_true rfl) ?_
  intro p e s m args below meth c ls hadm E hTH hex w hPo hno hXS hl
  have hLT := hT e hadm
  obtain ⟨hx, hb, hml, hown, hcx, -, -, hSX, -, -, -⟩ := id E
  have hl : lv_has ls 5 [(0, .ref (ad 0)), (1, .int x1), (2, .int x2), (3, .ref o)] := hl
  refine lv_aload_n hx hb d_LA_line_0 rfl (lv_at hl 3 rfl) ?_
  refine lv_iconst (v := (0 : Int32)) hx hb d_LA_line_1 (by decide) ?_
  refine lv_aload_n hx hb d_LA_line_2 rfl (lv_at hl 0 rfl) ?_
  refine lv_iload_n hx hb d_LA_line_3 rfl (lv_at hl 1 rfl) ?_
  refine lv_iload_n hx hb d_LA_line_4 rfl (lv_at hl 2 rfl) ?_
  refine mz_callV E w (k := 0) (As := [.int x1, .int x2]) (rest := [.int (0 : Int32), .ref o]) (c_MH_line hSK l n x1 x2 t res hf) (by decide) rfl rfl k_1127 k_1 k_1124 k_1125 k_1126 hm_MH_line ⟨⟨rfl, rfl⟩, (Nat.le_of_ble_eq_true rfl), (Nat.le_of_ble_eq_true rfl)⟩ rfl hl.1 rfl (Nat.le_of_ble_eq_true rfl) d_LA_line_5 ⟨Nat.zero_le _, Nat.zero_le _⟩ (st1 := [.int res.1, .int (0 : Int32), .ref o]) rfl (fun H locs w => ?_)
  have w := lh_up w hPo hno
  refine lv_i2l (v := res.1.toInt64) hx hb d_LA_line_8 rfl ?_
  refine lh_last E w hno d_LA_line_9 (fun H locs w => ?_)
  refine lv_goto (tgt := 21) hx hb d_LA_line_10 (by decide) ?_
  refine lv_iconst (v := (0 : Int32)) hx hb d_LA_line_21 (by decide) ?_
  refine W.widen (k := 1) (n := 6) (by omega) (by omega) ?_
  exact lh_ret E w hno (lh_So hXS) d_LA_line_22
set_option maxRecDepth 100000 in
set_option maxHeartbeats 4000000 in
theorem h_line_T2 {dC : Nat → ClassId} {dI : Nat → Nat → Nat} {ad en adK adV : Nat → Nat} {tA tS : Nat} {oF : Option Nat} {ca : Nat → ClassId} {o : Nat} {g : Nat → Int64} (hSK : mz_SK (mz_SC ad en adK adV tA tS oF) ad 80) (l : Launch) (hT : ∀ e, l.admits e → e.platform.stackTraces = false) (n : Nat) (x1 : Int32) (x2 : Int32) (t : mz_St) (res : Unit) (hf : f_MH_line_T n x1 x2 t = some 2) : lh_C (lh_S ad en adK adV tA tS oF) (lh_X ad o en adK adV tA tS oF) dC dI ad en ca l y_LA_line method_6_code 5 hh_line r_LA_line [.ref (ad 0), .int x1, .int x2, .ref o] o g t 1 g t := by
  refine lh_met hSK (by decide) (Nat.le_of_ble_eq_true rfl) ?_
  intro p e s m args below meth c ls hadm E hTH hex w hPo hno hXS hl
  have hLT := hT e hadm
  obtain ⟨hx, hb, hml, hown, hcx, -, -, hSX, -, -, -⟩ := id E
  have hl : lv_has ls 5 [(0, .ref (ad 0)), (1, .int x1), (2, .int x2), (3, .ref o)] := hl
  refine lv_aload_n hx hb d_LA_line_0 rfl (lv_at hl 3 rfl) ?_
  refine lv_iconst (v := (0 : Int32)) hx hb d_LA_line_1 (by decide) ?_
  refine lv_aload_n hx hb d_LA_line_2 rfl (lv_at hl 0 rfl) ?_
  refine lv_iload_n hx hb d_LA_line_3 rfl (lv_at hl 1 rfl) ?_
  refine lv_iload_n hx hb d_LA_line_4 rfl (lv_at hl 2 rfl) ?_
  have hsp : c.exceptionTable.toList = [] ++ (⟨0, 10, 13, 28⟩ : ExceptionTableEntry) :: [⟨0, 10, 17, 13⟩] := lh_tab hex
  refine lh_thr E hTH w (k := 0) (As := [.int x1, .int x2]) (rest := [.int (0 : Int32), .ref o]) (c_MH_line_T hSK l hT n x1 x2 t 2 hf) (by decide) rfl rfl k_1127 k_1 k_1124 k_1125 k_1126 hm_MH_line ⟨⟨rfl, rfl⟩, (Nat.le_of_ble_eq_true rfl), (Nat.le_of_ble_eq_true rfl)⟩ rfl hl.1 rfl (Nat.le_of_ble_eq_true rfl) d_LA_line_5 ⟨(Nat.le_of_ble_eq_true rfl), (Nat.le_of_ble_eq_true rfl)⟩ _ _ _ hsp (fun y0 hy0 => nomatch hy0) (by decide) (by decide) k_1123 (List.mem_of_getElem? (i := 9) rfl) (fun H a w => ?_)
  have w := lh_up w hPo hno
  refine lv_astore (lv' := [(4, .ref a), (0, .ref (ad 0)), (1, .int x1), (2, .int x2), (3, .ref o)]) hx hb d_LA_line_13 hl (by decide) rfl (fun ls hl => ?_)
  refine lv_iconst (v := (1 : Int32)) hx hb d_LA_line_15 (by decide) ?_
  exact lh_ret E w hno (lh_So hXS) d_LA_line_16
set_option maxRecDepth 100000 in
set_option maxHeartbeats 4000000 in
theorem h_line_T0 {dC : Nat → ClassId} {dI : Nat → Nat → Nat} {ad en adK adV : Nat → Nat} {tA tS : Nat} {oF : Option Nat} {ca : Nat → ClassId} {o : Nat} {g : Nat → Int64} (hSK : mz_SK (mz_SC ad en adK adV tA tS oF) ad 80) (l : Launch) (hT : ∀ e, l.admits e → e.platform.stackTraces = false) (n : Nat) (x1 : Int32) (x2 : Int32) (t : mz_St) (res : Unit) (hf : f_MH_line_T n x1 x2 t = some 0) : lh_C (lh_S ad en adK adV tA tS oF) (lh_X ad o en adK adV tA tS oF) dC dI ad en ca l y_LA_line method_6_code 5 hh_line r_LA_line [.ref (ad 0), .int x1, .int x2, .ref o] o g t 2 g t := by
  refine lh_met hSK (by decide) (Nat.le_of_ble_eq_true rfl) ?_
  intro p e s m args below meth c ls hadm E hTH hex w hPo hno hXS hl
  have hLT := hT e hadm
  obtain ⟨hx, hb, hml, hown, hcx, -, -, hSX, -, -, -⟩ := id E
  have hl : lv_has ls 5 [(0, .ref (ad 0)), (1, .int x1), (2, .int x2), (3, .ref o)] := hl
  refine lv_aload_n hx hb d_LA_line_0 rfl (lv_at hl 3 rfl) ?_
  refine lv_iconst (v := (0 : Int32)) hx hb d_LA_line_1 (by decide) ?_
  refine lv_aload_n hx hb d_LA_line_2 rfl (lv_at hl 0 rfl) ?_
  refine lv_iload_n hx hb d_LA_line_3 rfl (lv_at hl 1 rfl) ?_
  refine lv_iload_n hx hb d_LA_line_4 rfl (lv_at hl 2 rfl) ?_
  have hsp : c.exceptionTable.toList = [⟨0, 10, 13, 28⟩] ++ (⟨0, 10, 17, 13⟩ : ExceptionTableEntry) :: [] := lh_tab hex
  refine lh_thr E hTH w (k := 0) (As := [.int x1, .int x2]) (rest := [.int (0 : Int32), .ref o]) (c_MH_line_T hSK l hT n x1 x2 t 0 hf) (by decide) rfl rfl k_1127 k_1 k_1124 k_1125 k_1126 hm_MH_line ⟨⟨rfl, rfl⟩, (Nat.le_of_ble_eq_true rfl), (Nat.le_of_ble_eq_true rfl)⟩ rfl hl.1 rfl (Nat.le_of_ble_eq_true rfl) d_LA_line_5 ⟨(Nat.le_of_ble_eq_true rfl), (Nat.le_of_ble_eq_true rfl)⟩ _ _ _ hsp (fun y0 hy0 => by rw [List.mem_singleton] at hy0; subst hy0; exact ⟨by decide, "java/lang/IndexOutOfBoundsException", k_1123, List.mem_of_getElem? (i := 11) rfl⟩) (by decide) (by decide) k_1011 (List.mem_of_getElem? (i := 7) rfl) (fun H a w => ?_)
  have w := lh_up w hPo hno
  refine lv_astore (lv' := [(4, .ref a), (0, .ref (ad 0)), (1, .int x1), (2, .int x2), (3, .ref o)]) hx hb d_LA_line_17 hl (by decide) rfl (fun ls hl => ?_)
  refine lv_iconst (v := (2 : Int32)) hx hb d_LA_line_19 (by decide) ?_
  exact lh_ret E w hno (lh_So hXS) d_LA_line_20
abbrev y_LA_constant : MethodName := ⟨"MacroHouseLaw", "constant", "(LMacroHouse;II[J)I"⟩
theorem d_LA_constant_0 : decode method_7_code 0 = .ok (.aload_n 3, 1) := by decide +kernel
theorem d_LA_constant_1 : decode method_7_code 1 = .ok (.iconst 0, 1) := by decide +kernel
theorem d_LA_constant_2 : decode method_7_code 2 = .ok (.aload_n 0, 1) := by decide +kernel
theorem d_LA_constant_3 : decode method_7_code 3 = .ok (.iload_n 1, 1) := by decide +kernel
theorem d_LA_constant_4 : decode method_7_code 4 = .ok (.iload_n 2, 1) := by decide +kernel
theorem d_LA_constant_5 : decode method_7_code 5 = .ok (.invokevirtual 30, 3) := by decide +kernel
theorem d_LA_constant_8 : decode method_7_code 8 = .ok (.i2l, 1) := by decide +kernel
theorem d_LA_constant_9 : decode method_7_code 9 = .ok (.lastore, 1) := by decide +kernel
theorem d_LA_constant_10 : decode method_7_code 10 = .ok (.goto 11, 3) := by decide +kernel
theorem d_LA_constant_13 : decode method_7_code 13 = .ok (.astore 4, 2) := by decide +kernel
theorem d_LA_constant_15 : decode method_7_code 15 = .ok (.iconst 1, 1) := by decide +kernel
theorem d_LA_constant_16 : decode method_7_code 16 = .ok (.ireturn, 1) := by decide +kernel
theorem d_LA_constant_17 : decode method_7_code 17 = .ok (.astore 4, 2) := by decide +kernel
theorem d_LA_constant_19 : decode method_7_code 19 = .ok (.iconst 2, 1) := by decide +kernel
theorem d_LA_constant_20 : decode method_7_code 20 = .ok (.ireturn, 1) := by decide +kernel
theorem d_LA_constant_21 : decode method_7_code 21 = .ok (.iconst 0, 1) := by decide +kernel
theorem d_LA_constant_22 : decode method_7_code 22 = .ok (.ireturn, 1) := by decide +kernel
abbrev hh_constant : List (Nat × Nat × Nat × Nat) := [(0, 10, 13, 28), (0, 10, 17, 13)]
theorem lk_constant : Cond.codeWith y_LA_constant method_7_code 5 (some .int) hh_constant ∈ mz_tb := mz_m5 195 rfl rfl
abbrev r_LA_constant : Room := { frames := 7, cells := 1, slots := 6, locals := 104 }
set_option maxRecDepth 100000 in
set_option maxHeartbeats 4000000 in
theorem h_constant_N {dC : Nat → ClassId} {dI : Nat → Nat → Nat} {ad en adK adV : Nat → Nat} {tA tS : Nat} {oF : Option Nat} {ca : Nat → ClassId} {o : Nat} {g : Nat → Int64} (hSK : mz_SK (mz_SC ad en adK adV tA tS oF) ad 80) (l : Launch) (hT : ∀ e, l.admits e → e.platform.stackTraces = false) (n : Nat) (x1 : Int32) (x2 : Int32) (t : mz_St) (res : (Int32 × mz_St)) (hf : f_MH_constant n x1 x2 t = some res) : lh_C (lh_S ad en adK adV tA tS oF) (lh_X ad o en adK adV tA tS oF) dC dI ad en ca l y_LA_constant method_7_code 5 hh_constant r_LA_constant [.ref (ad 0), .int x1, .int x2, .ref o] o g t 0 (vp_updL g 0 res.1.toInt64) res.2 := by
  refine lh_met hSK (by decide) (Nat.le_of_ble_eq_true rfl) ?_
  intro p e s m args below meth c ls hadm E hTH hex w hPo hno hXS hl
  have hLT := hT e hadm
  obtain ⟨hx, hb, hml, hown, hcx, -, -, hSX, -, -, -⟩ := id E
  have hl : lv_has ls 5 [(0, .ref (ad 0)), (1, .int x1), (2, .int x2), (3, .ref o)] := hl
  refine lv_aload_n hx hb d_LA_constant_0 rfl (lv_at hl 3 rfl) ?_
  refine lv_iconst (v := (0 : Int32)) hx hb d_LA_constant_1 (by decide) ?_
  refine lv_aload_n hx hb d_LA_constant_2 rfl (lv_at hl 0 rfl) ?_
  refine lv_iload_n hx hb d_LA_constant_3 rfl (lv_at hl 1 rfl) ?_
  refine lv_iload_n hx hb d_LA_constant_4 rfl (lv_at hl 2 rfl) ?_
  refine mz_callV E w (k := 0) (As := [.int x1, .int x2]) (rest := [.int (0 : Int32), .ref o]) (c_MH_constant hSK l n x1 x2 t res hf) (by decide) rfl rfl k_1159 k_1 k_1156 k_1157 k_1158 hm_MH_constant ⟨⟨rfl, rfl⟩, (Nat.le_of_ble_eq_true rfl), (Nat.le_of_ble_eq_true rfl)⟩ rfl hl.1 rfl (Nat.le_of_ble_eq_true rfl) d_LA_constant_5 ⟨Nat.zero_le _, Nat.zero_le _⟩ (st1 := [.int res.1, .int (0 : Int32), .ref o]) rfl (fun H locs w => ?_)
  have w := lh_up w hPo hno
  refine lv_i2l (v := res.1.toInt64) hx hb d_LA_constant_8 rfl ?_
  refine lh_last E w hno d_LA_constant_9 (fun H locs w => ?_)
  refine lv_goto (tgt := 21) hx hb d_LA_constant_10 (by decide) ?_
  refine lv_iconst (v := (0 : Int32)) hx hb d_LA_constant_21 (by decide) ?_
  refine W.widen (k := 1) (n := 6) (by omega) (by omega) ?_
  exact lh_ret E w hno (lh_So hXS) d_LA_constant_22
set_option maxRecDepth 100000 in
set_option maxHeartbeats 4000000 in
theorem h_constant_T2 {dC : Nat → ClassId} {dI : Nat → Nat → Nat} {ad en adK adV : Nat → Nat} {tA tS : Nat} {oF : Option Nat} {ca : Nat → ClassId} {o : Nat} {g : Nat → Int64} (hSK : mz_SK (mz_SC ad en adK adV tA tS oF) ad 80) (l : Launch) (hT : ∀ e, l.admits e → e.platform.stackTraces = false) (n : Nat) (x1 : Int32) (x2 : Int32) (t : mz_St) (res : Unit) (hf : f_MH_constant_T n x1 x2 t = some 2) : lh_C (lh_S ad en adK adV tA tS oF) (lh_X ad o en adK adV tA tS oF) dC dI ad en ca l y_LA_constant method_7_code 5 hh_constant r_LA_constant [.ref (ad 0), .int x1, .int x2, .ref o] o g t 1 g t := by
  refine lh_met hSK (by decide) (Nat.le_of_ble_eq_true rfl) ?_
  intro p e s m args below meth c ls hadm E hTH hex w hPo hno hXS hl
  have hLT := hT e hadm
  obtain ⟨hx, hb, hml, hown, hcx, -, -, hSX, -, -, -⟩ := id E
  have hl : lv_has ls 5 [(0, .ref (ad 0)), (1, .int x1), (2, .int x2), (3, .ref o)] := hl
  refine lv_aload_n hx hb d_LA_constant_0 rfl (lv_at hl 3 rfl) ?_
  refine lv_iconst (v := (0 : Int32)) hx hb d_LA_constant_1 (by decide) ?_
  refine lv_aload_n hx hb d_LA_constant_2 rfl (lv_at hl 0 rfl) ?_
  refine lv_iload_n hx hb d_LA_constant_3 rfl (lv_at hl 1 rfl) ?_
  refine lv_iload_n hx hb d_LA_constant_4 rfl (lv_at hl 2 rfl) ?_
  have hsp : c.exceptionTable.toList = [] ++ (⟨0, 10, 13, 28⟩ : ExceptionTableEntry) :: [⟨0, 10, 17, 13⟩] := lh_tab hex
  refine lh_thr E hTH w (k := 0) (As := [.int x1, .int x2]) (rest := [.int (0 : Int32), .ref o]) (c_MH_constant_T hSK l hT n x1 x2 t 2 hf) (by decide) rfl rfl k_1159 k_1 k_1156 k_1157 k_1158 hm_MH_constant ⟨⟨rfl, rfl⟩, (Nat.le_of_ble_eq_true rfl), (Nat.le_of_ble_eq_true rfl)⟩ rfl hl.1 rfl (Nat.le_of_ble_eq_true rfl) d_LA_constant_5 ⟨(Nat.le_of_ble_eq_true rfl), (Nat.le_of_ble_eq_true rfl)⟩ _ _ _ hsp (fun y0 hy0 => nomatch hy0) (by decide) (by decide) k_1123 (List.mem_of_getElem? (i := 9) rfl) (fun H a w => ?_)
  have w := lh_up w hPo hno
  refine lv_astore (lv' := [(4, .ref a), (0, .ref (ad 0)), (1, .int x1), (2, .int x2), (3, .ref o)]) hx hb d_LA_constant_13 hl (by decide) rfl (fun ls hl => ?_)
  refine lv_iconst (v := (1 : Int32)) hx hb d_LA_constant_15 (by decide) ?_
  exact lh_ret E w hno (lh_So hXS) d_LA_constant_16
set_option maxRecDepth 100000 in
set_option maxHeartbeats 4000000 in
theorem h_constant_T0 {dC : Nat → ClassId} {dI : Nat → Nat → Nat} {ad en adK adV : Nat → Nat} {tA tS : Nat} {oF : Option Nat} {ca : Nat → ClassId} {o : Nat} {g : Nat → Int64} (hSK : mz_SK (mz_SC ad en adK adV tA tS oF) ad 80) (l : Launch) (hT : ∀ e, l.admits e → e.platform.stackTraces = false) (n : Nat) (x1 : Int32) (x2 : Int32) (t : mz_St) (res : Unit) (hf : f_MH_constant_T n x1 x2 t = some 0) : lh_C (lh_S ad en adK adV tA tS oF) (lh_X ad o en adK adV tA tS oF) dC dI ad en ca l y_LA_constant method_7_code 5 hh_constant r_LA_constant [.ref (ad 0), .int x1, .int x2, .ref o] o g t 2 g t := by
  refine lh_met hSK (by decide) (Nat.le_of_ble_eq_true rfl) ?_
  intro p e s m args below meth c ls hadm E hTH hex w hPo hno hXS hl
  have hLT := hT e hadm
  obtain ⟨hx, hb, hml, hown, hcx, -, -, hSX, -, -, -⟩ := id E
  have hl : lv_has ls 5 [(0, .ref (ad 0)), (1, .int x1), (2, .int x2), (3, .ref o)] := hl
  refine lv_aload_n hx hb d_LA_constant_0 rfl (lv_at hl 3 rfl) ?_
  refine lv_iconst (v := (0 : Int32)) hx hb d_LA_constant_1 (by decide) ?_
  refine lv_aload_n hx hb d_LA_constant_2 rfl (lv_at hl 0 rfl) ?_
  refine lv_iload_n hx hb d_LA_constant_3 rfl (lv_at hl 1 rfl) ?_
  refine lv_iload_n hx hb d_LA_constant_4 rfl (lv_at hl 2 rfl) ?_
  have hsp : c.exceptionTable.toList = [⟨0, 10, 13, 28⟩] ++ (⟨0, 10, 17, 13⟩ : ExceptionTableEntry) :: [] := lh_tab hex
  refine lh_thr E hTH w (k := 0) (As := [.int x1, .int x2]) (rest := [.int (0 : Int32), .ref o]) (c_MH_constant_T hSK l hT n x1 x2 t 0 hf) (by decide) rfl rfl k_1159 k_1 k_1156 k_1157 k_1158 hm_MH_constant ⟨⟨rfl, rfl⟩, (Nat.le_of_ble_eq_true rfl), (Nat.le_of_ble_eq_true rfl)⟩ rfl hl.1 rfl (Nat.le_of_ble_eq_true rfl) d_LA_constant_5 ⟨(Nat.le_of_ble_eq_true rfl), (Nat.le_of_ble_eq_true rfl)⟩ _ _ _ hsp (fun y0 hy0 => by rw [List.mem_singleton] at hy0; subst hy0; exact ⟨by decide, "java/lang/IndexOutOfBoundsException", k_1123, List.mem_of_getElem? (i := 11) rfl⟩) (by decide) (by decide) k_1011 (List.mem_of_getElem? (i := 7) rfl) (fun H a w => ?_)
  have w := lh_up w hPo hno
  refine lv_astore (lv' := [(4, .ref a), (0, .ref (ad 0)), (1, .int x1), (2, .int x2), (3, .ref o)]) hx hb d_LA_constant_17 hl (by decide) rfl (fun ls hl => ?_)
  refine lv_iconst (v := (2 : Int32)) hx hb d_LA_constant_19 (by decide) ?_
  exact lh_ret E w hno (lh_So hXS) d_LA_constant_20
abbrev y_LA_macro : MethodName := ⟨"MacroHouseLaw", "macro", "(LMacroHouse;II[J)I"⟩
theorem d_LA_macro_0 : decode method_8_code 0 = .ok (.aload_n 3, 1) := by decide +kernel
theorem d_LA_macro_1 : decode method_8_code 1 = .ok (.iconst 0, 1) := by decide +kernel
theorem d_LA_macro_2 : decode method_8_code 2 = .ok (.aload_n 0, 1) := by decide +kernel
theorem d_LA_macro_3 : decode method_8_code 3 = .ok (.iload_n 1, 1) := by decide +kernel
theorem d_LA_macro_4 : decode method_8_code 4 = .ok (.iload_n 2, 1) := by decide +kernel
theorem d_LA_macro_5 : decode method_8_code 5 = .ok (.invokevirtual 33, 3) := by decide +kernel
theorem d_LA_macro_8 : decode method_8_code 8 = .ok (.i2l, 1) := by decide +kernel
theorem d_LA_macro_9 : decode method_8_code 9 = .ok (.lastore, 1) := by decide +kernel
theorem d_LA_macro_10 : decode method_8_code 10 = .ok (.goto 11, 3) := by decide +kernel
theorem d_LA_macro_13 : decode method_8_code 13 = .ok (.astore 4, 2) := by decide +kernel
theorem d_LA_macro_15 : decode method_8_code 15 = .ok (.iconst 1, 1) := by decide +kernel
theorem d_LA_macro_16 : decode method_8_code 16 = .ok (.ireturn, 1) := by decide +kernel
theorem d_LA_macro_17 : decode method_8_code 17 = .ok (.astore 4, 2) := by decide +kernel
theorem d_LA_macro_19 : decode method_8_code 19 = .ok (.iconst 2, 1) := by decide +kernel
theorem d_LA_macro_20 : decode method_8_code 20 = .ok (.ireturn, 1) := by decide +kernel
theorem d_LA_macro_21 : decode method_8_code 21 = .ok (.iconst 0, 1) := by decide +kernel
theorem d_LA_macro_22 : decode method_8_code 22 = .ok (.ireturn, 1) := by decide +kernel
abbrev hh_macro : List (Nat × Nat × Nat × Nat) := [(0, 10, 13, 28), (0, 10, 17, 13)]
theorem lk_macro : Cond.codeWith y_LA_macro method_8_code 5 (some .int) hh_macro ∈ mz_tb := mz_m5 205 rfl rfl
abbrev r_LA_macro : Room := { frames := 7, cells := 1, slots := 6, locals := 104 }
set_option maxRecDepth 100000 in
set_option maxHeartbeats 4000000 in
theorem h_macro_N {dC : Nat → ClassId} {dI : Nat → Nat → Nat} {ad en adK adV : Nat → Nat} {tA tS : Nat} {oF : Option Nat} {ca : Nat → ClassId} {o : Nat} {g : Nat → Int64} (hSK : mz_SK (mz_SC ad en adK adV tA tS oF) ad 80) (l : Launch) (hT : ∀ e, l.admits e → e.platform.stackTraces = false) (n : Nat) (x1 : Int32) (x2 : Int32) (t : mz_St) (res : (Int32 × mz_St)) (hf : f_MH_macro n x1 x2 t = some res) : lh_C (lh_S ad en adK adV tA tS oF) (lh_X ad o en adK adV tA tS oF) dC dI ad en ca l y_LA_macro method_8_code 5 hh_macro r_LA_macro [.ref (ad 0), .int x1, .int x2, .ref o] o g t 0 (vp_updL g 0 res.1.toInt64) res.2 := by
  refine lh_met hSK (by decide) (Nat.le_of_ble_eq_true rfl) ?_
  intro p e s m args below meth c ls hadm E hTH hex w hPo hno hXS hl
  have hLT := hT e hadm
  obtain ⟨hx, hb, hml, hown, hcx, -, -, hSX, -, -, -⟩ := id E
  have hl : lv_has ls 5 [(0, .ref (ad 0)), (1, .int x1), (2, .int x2), (3, .ref o)] := hl
  refine lv_aload_n hx hb d_LA_macro_0 rfl (lv_at hl 3 rfl) ?_
  refine lv_iconst (v := (0 : Int32)) hx hb d_LA_macro_1 (by decide) ?_
  refine lv_aload_n hx hb d_LA_macro_2 rfl (lv_at hl 0 rfl) ?_
  refine lv_iload_n hx hb d_LA_macro_3 rfl (lv_at hl 1 rfl) ?_
  refine lv_iload_n hx hb d_LA_macro_4 rfl (lv_at hl 2 rfl) ?_
  refine mz_callV E w (k := 0) (As := [.int x1, .int x2]) (rest := [.int (0 : Int32), .ref o]) (c_MH_macro hSK l n x1 x2 t res hf) (by decide) rfl rfl k_1169 k_1 k_1166 k_1167 k_1168 hm_MH_macro ⟨⟨rfl, rfl⟩, (Nat.le_of_ble_eq_true rfl), (Nat.le_of_ble_eq_true rfl)⟩ rfl hl.1 rfl (Nat.le_of_ble_eq_true rfl) d_LA_macro_5 ⟨Nat.zero_le _, Nat.zero_le _⟩ (st1 := [.int res.1, .int (0 : Int32), .ref o]) rfl (fun H locs w => ?_)
  have w := lh_up w hPo hno
  refine lv_i2l (v := res.1.toInt64) hx hb d_LA_macro_8 rfl ?_
  refine lh_last E w hno d_LA_macro_9 (fun H locs w => ?_)
  refine lv_goto (tgt := 21) hx hb d_LA_macro_10 (by decide) ?_
  refine lv_iconst (v := (0 : Int32)) hx hb d_LA_macro_21 (by decide) ?_
  refine W.widen (k := 1) (n := 6) (by omega) (by omega) ?_
  exact lh_ret E w hno (lh_So hXS) d_LA_macro_22
set_option maxRecDepth 100000 in
set_option maxHeartbeats 4000000 in
theorem h_macro_T2 {dC : Nat → ClassId} {dI : Nat → Nat → Nat} {ad en adK adV : Nat → Nat} {tA tS : Nat} {oF : Option Nat} {ca : Nat → ClassId} {o : Nat} {g : Nat → Int64} (hSK : mz_SK (mz_SC ad en adK adV tA tS oF) ad 80) (l : Launch) (hT : ∀ e, l.admits e → e.platform.stackTraces = false) (n : Nat) (x1 : Int32) (x2 : Int32) (t : mz_St) (res : Unit) (hf : f_MH_macro_T n x1 x2 t = some 2) : lh_C (lh_S ad en adK adV tA tS oF) (lh_X ad o en adK adV tA tS oF) dC dI ad en ca l y_LA_macro method_8_code 5 hh_macro r_LA_macro [.ref (ad 0), .int x1, .int x2, .ref o] o g t 1 g t := by
  refine lh_met hSK (by decide) (Nat.le_of_ble_eq_true rfl) ?_
  intro p e s m args below meth c ls hadm E hTH hex w hPo hno hXS hl
  have hLT := hT e hadm
  obtain ⟨hx, hb, hml, hown, hcx, -, -, hSX, -, -, -⟩ := id E
  have hl : lv_has ls 5 [(0, .ref (ad 0)), (1, .int x1), (2, .int x2), (3, .ref o)] := hl
  refine lv_aload_n hx hb d_LA_macro_0 rfl (lv_at hl 3 rfl) ?_
  refine lv_iconst (v := (0 : Int32)) hx hb d_LA_macro_1 (by decide) ?_
  refine lv_aload_n hx hb d_LA_macro_2 rfl (lv_at hl 0 rfl) ?_
  refine lv_iload_n hx hb d_LA_macro_3 rfl (lv_at hl 1 rfl) ?_
  refine lv_iload_n hx hb d_LA_macro_4 rfl (lv_at hl 2 rfl) ?_
  have hsp : c.exceptionTable.toList = [] ++ (⟨0, 10, 13, 28⟩ : ExceptionTableEntry) :: [⟨0, 10, 17, 13⟩] := lh_tab hex
  refine lh_thr E hTH w (k := 0) (As := [.int x1, .int x2]) (rest := [.int (0 : Int32), .ref o]) (c_MH_macro_T hSK l hT n x1 x2 t 2 hf) (by decide) rfl rfl k_1169 k_1 k_1166 k_1167 k_1168 hm_MH_macro ⟨⟨rfl, rfl⟩, (Nat.le_of_ble_eq_true rfl), (Nat.le_of_ble_eq_true rfl)⟩ rfl hl.1 rfl (Nat.le_of_ble_eq_true rfl) d_LA_macro_5 ⟨(Nat.le_of_ble_eq_true rfl), (Nat.le_of_ble_eq_true rfl)⟩ _ _ _ hsp (fun y0 hy0 => nomatch hy0) (by decide) (by decide) k_1123 (List.mem_of_getElem? (i := 9) rfl) (fun H a w => ?_)
  have w := lh_up w hPo hno
  refine lv_astore (lv' := [(4, .ref a), (0, .ref (ad 0)), (1, .int x1), (2, .int x2), (3, .ref o)]) hx hb d_LA_macro_13 hl (by decide) rfl (fun ls hl => ?_)
  refine lv_iconst (v := (1 : Int32)) hx hb d_LA_macro_15 (by decide) ?_
  exact lh_ret E w hno (lh_So hXS) d_LA_macro_16
set_option maxRecDepth 100000 in
set_option maxHeartbeats 4000000 in
theorem h_macro_T0 {dC : Nat → ClassId} {dI : Nat → Nat → Nat} {ad en adK adV : Nat → Nat} {tA tS : Nat} {oF : Option Nat} {ca : Nat → ClassId} {o : Nat} {g : Nat → Int64} (hSK : mz_SK (mz_SC ad en adK adV tA tS oF) ad 80) (l : Launch) (hT : ∀ e, l.admits e → e.platform.stackTraces = false) (n : Nat) (x1 : Int32) (x2 : Int32) (t : mz_St) (res : Unit) (hf : f_MH_macro_T n x1 x2 t = some 0) : lh_C (lh_S ad en adK adV tA tS oF) (lh_X ad o en adK adV tA tS oF) dC dI ad en ca l y_LA_macro method_8_code 5 hh_macro r_LA_macro [.ref (ad 0), .int x1, .int x2, .ref o] o g t 2 g t := by
  refine lh_met hSK (by decide) (Nat.le_of_ble_eq_true rfl) ?_
  intro p e s m args below meth c ls hadm E hTH hex w hPo hno hXS hl
  have hLT := hT e hadm
  obtain ⟨hx, hb, hml, hown, hcx, -, -, hSX, -, -, -⟩ := id E
  have hl : lv_has ls 5 [(0, .ref (ad 0)), (1, .int x1), (2, .int x2), (3, .ref o)] := hl
  refine lv_aload_n hx hb d_LA_macro_0 rfl (lv_at hl 3 rfl) ?_
  refine lv_iconst (v := (0 : Int32)) hx hb d_LA_macro_1 (by decide) ?_
  refine lv_aload_n hx hb d_LA_macro_2 rfl (lv_at hl 0 rfl) ?_
  refine lv_iload_n hx hb d_LA_macro_3 rfl (lv_at hl 1 rfl) ?_
  refine lv_iload_n hx hb d_LA_macro_4 rfl (lv_at hl 2 rfl) ?_
  have hsp : c.exceptionTable.toList = [⟨0, 10, 13, 28⟩] ++ (⟨0, 10, 17, 13⟩ : ExceptionTableEntry) :: [] := lh_tab hex
  refine lh_thr E hTH w (k := 0) (As := [.int x1, .int x2]) (rest := [.int (0 : Int32), .ref o]) (c_MH_macro_T hSK l hT n x1 x2 t 0 hf) (by decide) rfl rfl k_1169 k_1 k_1166 k_1167 k_1168 hm_MH_macro ⟨⟨rfl, rfl⟩, (Nat.le_of_ble_eq_true rfl), (Nat.le_of_ble_eq_true rfl)⟩ rfl hl.1 rfl (Nat.le_of_ble_eq_true rfl) d_LA_macro_5 ⟨(Nat.le_of_ble_eq_true rfl), (Nat.le_of_ble_eq_true rfl)⟩ _ _ _ hsp (fun y0 hy0 => by rw [List.mem_singleton] at hy0; subst hy0; exact ⟨by decide, "java/lang/IndexOutOfBoundsException", k_1123, List.mem_of_getElem? (i := 11) rfl⟩) (by decide) (by decide) k_1011 (List.mem_of_getElem? (i := 7) rfl) (fun H a w => ?_)
  have w := lh_up w hPo hno
  refine lv_astore (lv' := [(4, .ref a), (0, .ref (ad 0)), (1, .int x1), (2, .int x2), (3, .ref o)]) hx hb d_LA_macro_17 hl (by decide) rfl (fun ls hl => ?_)
  refine lv_iconst (v := (2 : Int32)) hx hb d_LA_macro_19 (by decide) ?_
  exact lh_ret E w hno (lh_So hXS) d_LA_macro_20
