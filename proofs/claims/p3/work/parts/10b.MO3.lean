/-! MacroHouseModel.value()I -/
abbrev r_MO_value : Room := { frames := 3, cells := 0, slots := 0, locals := 67 }
def f_MO_value_327 (n : Nat) (K19 : Int32 → Int32 → mz_St → Option (Int32 × mz_St)) (x2 : Int32) (x3 : Int32) (x4 : Int32) (t : mz_St) : Option (Int32 × mz_St) := if ¬ (x3 < 0 ∨ 12 ≤ x3.toNatClampNeg) then (mz_let (mz_pI t 50 x3.toNatClampNeg x2) fun t19 => if ¬ (x3 < 0 ∨ 12 ≤ x3.toNatClampNeg) then (mz_let (mz_pI t19 47 x3.toNatClampNeg x4) fun t21 => mz_let (mz_pI t21 0 61 ((mz_gI t21 0 61) + (1 : Int32))) fun t22 => K19 (0 : Int32) x2 t22) else none) else none
def f_MO_value_385 (n : Nat) (K19 : Int32 → Int32 → mz_St → Option (Int32 × mz_St)) (x2 : Int32) (x3 : Int32) (x4 : Int32) (t : mz_St) : Option (Int32 × mz_St) := if ¬ (x3 < 0 ∨ 12 ≤ x3.toNatClampNeg) then (mz_let (mz_pI t 49 x3.toNatClampNeg x2) fun t31 => if ¬ (x3 < 0 ∨ 12 ≤ x3.toNatClampNeg) then (mz_let (mz_pI t31 46 x3.toNatClampNeg x4) fun t33 => mz_let (mz_pI t33 0 61 ((mz_gI t33 0 61) + (1 : Int32))) fun t34 => K19 (0 : Int32) x2 t34) else none) else none
def f_MO_value_496 (n : Nat) (K19 : Int32 → Int32 → mz_St → Option (Int32 × mz_St)) (x1 : Int32) (s0 : Int32) (t : mz_St) : Option (Int32 × mz_St) := mz_let (mz_pI t 0 67 ((mz_gI t 0 67) - (1 : Int32))) fun t41 => if (mz_gI t41 0 67) = 0 then (some (s0, t41)) else ((f_MO_sign n (41 : Int32) t41).bind fun q43 => K19 x1 s0 q43)
def f_MO_value_432 (n : Nat) (K19 : Int32 → Int32 → mz_St → Option (Int32 × mz_St)) (x1 : Int32) (x2 : Int32) (x3 : Int32) (s0 : Int32) (t : mz_St) : Option (Int32 × mz_St) := if s0 ≤ 0 then (if ¬ (x3 < 0 ∨ 12 ≤ x3.toNatClampNeg) then (if (mz_gI t 45 x3.toNatClampNeg) ≤ 0 then (f_MO_value_496 n K19 x1 x2 t) else (if ¬ (x3 < 0 ∨ 12 ≤ x3.toNatClampNeg) then (if ¬ (x3 < 0 ∨ 12 ≤ x3.toNatClampNeg) then ((f_MO_compared n (mz_gI t 45 x3.toNatClampNeg) (mz_gI t 48 x3.toNatClampNeg) x2 t).bind fun q47 => if q47.1 = 0 then (f_MO_value_496 n K19 x1 (0 : Int32) q47.2) else (f_MO_value_496 n K19 x1 (1 : Int32) q47.2)) else none) else none)) else none) else (if ¬ (x3 < 0 ∨ 12 ≤ x3.toNatClampNeg) then (mz_let (mz_pI t 48 x3.toNatClampNeg x2) fun t51 => if ¬ (x3 < 0 ∨ 12 ≤ x3.toNatClampNeg) then (mz_let (mz_pI t51 45 x3.toNatClampNeg s0) fun t53 => K19 (0 : Int32) x2 t53) else none) else none)
def f_MO_value_109 (n : Nat) (K19 : Int32 → Int32 → mz_St → Option (Int32 × mz_St)) (x1 : Int32) (x2 : Int32) (s1 : Int32) (t : mz_St) : Option (Int32 × mz_St) := (f_MO_opens n s1 t).bind fun q66 => K19 x1 x2 q66
def f_MO_value_76 (n : Nat) (K19 : Int32 → Int32 → mz_St → Option (Int32 × mz_St)) (x1 : Int32) (x2 : Int32) (x4 : Int32) (s1 : Int32) (t : mz_St) : Option (Int32 × mz_St) := if s1 = 0 ∨ s1 = 1 then (mz_let (mz_pI t 0 62 s1) fun t62 => mz_let (mz_pI t62 0 61 ((mz_gI t62 0 61) + (1 : Int32))) fun t63 => if (mz_gI t63 0 62) = 0 then (K19 x1 x2 t63) else (if x4 = (40 : Int32) then (f_MO_value_109 n K19 x1 x2 (1 : Int32) t63) else (f_MO_value_109 n K19 x1 x2 (2 : Int32) t63))) else none
def f_MO_value_61 (n : Nat) (K19 : Int32 → Int32 → mz_St → Option (Int32 × mz_St)) (x1 : Int32) (x2 : Int32) (x4 : Int32) (t : mz_St) : Option (Int32 × mz_St) := if (10 : Int32) < (mz_gI t 0 67) then (f_MO_value_76 n K19 x1 x2 x4 (0 : Int32) t) else (f_MO_value_76 n K19 x1 x2 x4 (1 : Int32) t)
def f_MO_value_254 (n : Nat) (K19 : Int32 → Int32 → mz_St → Option (Int32 × mz_St)) (s0 : Int32) (t : mz_St) : Option (Int32 × mz_St) := K19 (1 : Int32) s0 t
def f_MO_value_220 (n : Nat) (K19 : Int32 → Int32 → mz_St → Option (Int32 × mz_St)) (x5 : Int32) (x6 : Int32) (t : mz_St) : Option (Int32 × mz_St) := if x5 = 0 then (if 0 ≤ x6 then (if ¬ (x6 < 0 ∨ 64 ≤ x6.toNatClampNeg) then (f_MO_value_254 n K19 (mz_gI t 17 x6.toNatClampNeg) t) else none) else (f_MO_value_254 n K19 (0 : Int32) t)) else (if 0 ≤ x6 then (f_MO_value_254 n K19 (1 : Int32) t) else (f_MO_value_254 n K19 (0 : Int32) t))
def f_MO_value_196 (n : Nat) (K19 : Int32 → Int32 → mz_St → Option (Int32 × mz_St)) (x5 : Int32) (s0 : Int32) (t : mz_St) : Option (Int32 × mz_St) := if x5 = 0 then (if (mz_gI t 0 62) = 0 then (f_MO_value_220 n K19 x5 s0 t) else (if 0 ≤ s0 then (f_MO_value_220 n K19 x5 s0 t) else ((f_MO_met n (3 : Int32) t).bind fun q85 => f_MO_value_220 n K19 x5 s0 q85))) else (f_MO_value_220 n K19 x5 s0 t)
def f_MO_value_166 (n : Nat) (K19 : Int32 → Int32 → mz_St → Option (Int32 × mz_St)) (x5 : Int32) (s1 : Int32) (t : mz_St) : Option (Int32 × mz_St) := mz_let (mz_pI t 0 61 s1) fun t74 => (f_MO_word n t74).bind fun q75 => if (mz_gI q75 0 62) = 0 then (f_MO_value_196 n K19 x5 (-1 : Int32) q75) else ((f_MO_constantOf n (mz_gL q75 0 65) (mz_gL q75 0 66) q75).bind fun q87 => f_MO_value_196 n K19 x5 q87.1 q87.2)
def f_MO_value_145 (n : Nat) (K19 : Int32 → Int32 → mz_St → Option (Int32 × mz_St)) (s0 : Int32) (t : mz_St) : Option (Int32 × mz_St) := if s0 = 0 then (f_MO_value_166 n K19 s0 (mz_gI t 0 61) t) else (f_MO_value_166 n K19 s0 ((mz_gI t 0 61) + (1 : Int32)) t)
def f_MO_value_19 (n : Nat) : Nat → Int32 → Int32 → mz_St → Option (Int32 × mz_St)
  | 0, _, _, _ => none
  | k + 1, x1, x2, t => if (mz_gI t 0 62) = 0 then (some ((0 : Int32), t)) else ((f_MO_blanks n t).bind fun q6 => if x1 = 0 then ((f_MO_here n q6).bind fun q57 => if q57.1 = (40 : Int32) then (f_MO_value_61 n (f_MO_value_19 n k) x1 x2 q57.1 q57.2) else (if q57.1 = (45 : Int32) then (f_MO_value_61 n (f_MO_value_19 n k) x1 x2 q57.1 q57.2) else ((f_MO_isDigit n q57.1 q57.2).bind fun q69 => if q69.1 = 0 then (if q57.1 = (63 : Int32) then (f_MO_value_145 n (f_MO_value_19 n k) (1 : Int32) q69.2) else (f_MO_value_145 n (f_MO_value_19 n k) (0 : Int32) q69.2)) else ((f_MO_numberHere n q69.2).bind fun q89 => (f_MO_value_19 n k) (1 : Int32) q89.1 q89.2)))) else (if ¬ (((mz_gI q6 0 67) - (1 : Int32)) < 0 ∨ 12 ≤ ((mz_gI q6 0 67) - (1 : Int32)).toNatClampNeg) then (if (mz_gI q6 44 ((mz_gI q6 0 67) - (1 : Int32)).toNatClampNeg) = (2 : Int32) then (mz_let (mz_pI q6 0 67 ((mz_gI q6 0 67) - (1 : Int32))) fun t56 => (f_MO_value_19 n k) x1 (-x2) t56) else ((f_MO_product n ((mz_gI q6 0 67) - (1 : Int32)) x2 q6).bind fun q11 => if ¬ (((mz_gI q6 0 67) - (1 : Int32)) < 0 ∨ 12 ≤ ((mz_gI q6 0 67) - (1 : Int32)).toNatClampNeg) then (mz_let (mz_pI q11.2 47 ((mz_gI q6 0 67) - (1 : Int32)).toNatClampNeg (0 : Int32)) fun t14 => (f_MO_here n t14).bind fun q15 => if q15.1 = (42 : Int32) then (f_MO_value_327 n (f_MO_value_19 n k) q11.1 ((mz_gI q6 0 67) - (1 : Int32)) q15.1 q15.2) else (if q15.1 = (47 : Int32) then (f_MO_value_327 n (f_MO_value_19 n k) q11.1 ((mz_gI q6 0 67) - (1 : Int32)) q15.1 q15.2) else (if q15.1 = (37 : Int32) then (f_MO_value_327 n (f_MO_value_19 n k) q11.1 ((mz_gI q6 0 67) - (1 : Int32)) q15.1 q15.2) else ((f_MO_sum n ((mz_gI q6 0 67) - (1 : Int32)) q11.1 q15.2).bind fun q25 => if ¬ (((mz_gI q6 0 67) - (1 : Int32)) < 0 ∨ 12 ≤ ((mz_gI q6 0 67) - (1 : Int32)).toNatClampNeg) then (mz_let (mz_pI q25.2 46 ((mz_gI q6 0 67) - (1 : Int32)).toNatClampNeg (0 : Int32)) fun t28 => if q15.1 = (43 : Int32) then (f_MO_value_385 n (f_MO_value_19 n k) q25.1 ((mz_gI q6 0 67) - (1 : Int32)) q15.1 t28) else (if q15.1 = (45 : Int32) then (f_MO_value_385 n (f_MO_value_19 n k) q25.1 ((mz_gI q6 0 67) - (1 : Int32)) q15.1 t28) else (if ¬ (((mz_gI q6 0 67) - (1 : Int32)) < 0 ∨ 12 ≤ ((mz_gI q6 0 67) - (1 : Int32)).toNatClampNeg) then (if (mz_gI t28 45 ((mz_gI q6 0 67) - (1 : Int32)).toNatClampNeg) = 0 then ((f_MO_comparison n t28).bind fun q54 => f_MO_value_432 n (f_MO_value_19 n k) x1 q25.1 ((mz_gI q6 0 67) - (1 : Int32)) q54.1 q54.2) else (f_MO_value_432 n (f_MO_value_19 n k) x1 q25.1 ((mz_gI q6 0 67) - (1 : Int32)) (0 : Int32) t28)) else none))) else none)))) else none)) else none))
def f_MO_value (n : Nat) (t : mz_St) : Option (Int32 × mz_St) := mz_let (mz_pI t 0 67 (0 : Int32)) fun t1 => (f_MO_opens n (0 : Int32) t1).bind fun q2 => mz_let (mz_pI q2 0 64 (0 : Int32)) fun t4 => f_MO_value_19 n n (0 : Int32) (0 : Int32) t4
set_option maxRecDepth 100000 in
set_option maxHeartbeats 4000000 in
theorem b_MO_value_327 {SX : State → Heap → Prop} {dC : Nat → ClassId} {dI : Nat → Nat → Nat} {ad en : Nat → Nat} {ca : Nat → ClassId} {p : Program} {l : Launch} {e : Env} {s : State} {m : MethodId} {args : Array Value} {below : List Frame} {meth : Method} {c : Code} {res : (Int32 × mz_St)} (E : mz_En SX 55 mz_cl dC dI ad ca p s m meth c prog_15_method_36_code 7 "MacroHouseModel" (some (.int))) (n : Nat) (K19 : Int32 → Int32 → mz_St → Option (Int32 × mz_St)) (hK19 : ∀ (x1 : Int32) (x2 : Int32) (t : mz_St), K19 x1 x2 t = some res → ∀ (H : Heap) (locs : List Loc) (ls : Array Slot), mz_Wd mz_tM 55 mz_cl dC dI ad en ca s t H locs → lv_has ls 7 [(0, .ref (ad 0)), (1, .int x1), (2, .int x2)] → W p l e (r_MO_value) s m args below meth c H locs 0 0 (MQ below (mz_Q SX mz_tM 55 mz_cl dC dI ad en ca (some (.int res.1)) res.2) args s 0 0 (mz_A ad 55)) (F0 m 19 ls [])) : ∀ (x2 : Int32) (x3 : Int32) (x4 : Int32) (t : mz_St), f_MO_value_327 n K19 x2 x3 x4 t = some res → ∀ (H : Heap) (locs : List Loc) (ls : Array Slot), mz_Wd mz_tM 55 mz_cl dC dI ad en ca s t H locs → lv_has ls 7 [(0, .ref (ad 0)), (2, .int x2), (3, .int x3), (4, .int x4)] → W p l e (r_MO_value) s m args below meth c H locs 0 0 (MQ below (mz_Q SX mz_tM 55 mz_cl dC dI ad en ca (some (.int res.1)) res.2) args s 0 0 (mz_A ad 55)) (F0 m 327 ls []) := by
  obtain ⟨hx, hb, hml, hown, hcx, -, -, hSX, -, -, hSK⟩ := id E
  intro x2 x3 x4 t hf H locs ls w hl
  unfold f_MO_value_327 at hf
  refine lv_aload_n hx hb d_MO_value_327 rfl (lv_at hl 0 rfl) ?_
  refine mz_get E w 0 74 (v := .ref (ad 50)) (by decide) rfl rfl ii_11 (by decide) (Nat.le_of_ble_eq_true rfl) k_1257 rfl d_MO_value_328 ?_
  refine lv_iload_n hx hb d_MO_value_331 rfl (lv_at hl 2 rfl) ?_
  refine lv_iload_n hx hb d_MO_value_332 rfl (lv_at hl 1 rfl) ?_
  obtain ⟨hi18, hf⟩ := mz_gd hf
  refine mz_iast E w 50 (x := x2) (by decide) rfl hi18 d_MO_value_333 (fun H locs w => ?_)
  obtain ⟨t19, e_t19, hf⟩ := mz_lt hf
  rw [← e_t19] at w
  refine lv_aload_n hx hb d_MO_value_334 rfl (lv_at hl 0 rfl) ?_
  refine mz_get E w 0 71 (v := .ref (ad 47)) (by decide) rfl rfl ii_11 (by decide) (Nat.le_of_ble_eq_true rfl) k_1254 rfl d_MO_value_335 ?_
  refine lv_iload_n hx hb d_MO_value_338 rfl (lv_at hl 2 rfl) ?_
  refine lv_iload hx hb d_MO_value_339 (lv_at hl 3 rfl) ?_
  obtain ⟨hi20, hf⟩ := mz_gd hf
  refine mz_iast E w 47 (x := x4) (by decide) rfl hi20 d_MO_value_341 (fun H locs w => ?_)
  obtain ⟨t21, e_t21, hf⟩ := mz_lt hf
  rw [← e_t21] at w
  refine lv_aload_n hx hb d_MO_value_342 rfl (lv_at hl 0 rfl) ?_
  refine lv_dup hx hb d_MO_value_343 rfl ?_
  refine mz_get E w 0 61 (v := .int (mz_gI t21 0 61)) (by decide) rfl rfl ii_11 (by decide) (Nat.le_of_ble_eq_true rfl) k_1244 rfl d_MO_value_344 ?_
  refine lv_iconst (v := (1 : Int32)) hx hb d_MO_value_347 (by decide) ?_
  refine lv_iadd hx hb d_MO_value_348 ?_
  refine mz_put E w 0 61 (v := ((mz_gI t21 0 61) + (1 : Int32))) (by decide) rfl rfl ii_11 tk_11 nm_11 (by decide) (Nat.le_of_ble_eq_true rfl) k_1244 rfl (tk_11 61 (by decide)) rfl rfl rfl d_MO_value_349 (fun H locs w => ?_)
  obtain ⟨t22, e_t22, hf⟩ := mz_lt hf
  rw [← e_t22] at w
  refine lv_iconst (v := (0 : Int32)) hx hb d_MO_value_352 (by decide) ?_
  refine lv_istore_n (lv' := [(1, .int (0 : Int32)), (0, .ref (ad 0)), (2, .int x2), (3, .int x3), (4, .int x4)]) hx hb d_MO_value_353 rfl hl (by decide) rfl (fun ls hl => ?_)
  refine lv_goto (tgt := 19) hx hb d_MO_value_354 (by decide) ?_
  exact hK19 (0 : Int32) x2 t22 hf _ _ _ w (lv_sub hl [1, 0, 2] rfl)
set_option maxRecDepth 100000 in
set_option maxHeartbeats 4000000 in
theorem b_MO_value_385 {SX : State → Heap → Prop} {dC : Nat → ClassId} {dI : Nat → Nat → Nat} {ad en : Nat → Nat} {ca : Nat → ClassId} {p : Program} {l : Launch} {e : Env} {s : State} {m : MethodId} {args : Array Value} {below : List Frame} {meth : Method} {c : Code} {res : (Int32 × mz_St)} (E : mz_En SX 55 mz_cl dC dI ad ca p s m meth c prog_15_method_36_code 7 "MacroHouseModel" (some (.int))) (n : Nat) (K19 : Int32 → Int32 → mz_St → Option (Int32 × mz_St)) (hK19 : ∀ (x1 : Int32) (x2 : Int32) (t : mz_St), K19 x1 x2 t = some res → ∀ (H : Heap) (locs : List Loc) (ls : Array Slot), mz_Wd mz_tM 55 mz_cl dC dI ad en ca s t H locs → lv_has ls 7 [(0, .ref (ad 0)), (1, .int x1), (2, .int x2)] → W p l e (r_MO_value) s m args below meth c H locs 0 0 (MQ below (mz_Q SX mz_tM 55 mz_cl dC dI ad en ca (some (.int res.1)) res.2) args s 0 0 (mz_A ad 55)) (F0 m 19 ls [])) : ∀ (x2 : Int32) (x3 : Int32) (x4 : Int32) (t : mz_St), f_MO_value_385 n K19 x2 x3 x4 t = some res → ∀ (H : Heap) (locs : List Loc) (ls : Array Slot), mz_Wd mz_tM 55 mz_cl dC dI ad en ca s t H locs → lv_has ls 7 [(0, .ref (ad 0)), (2, .int x2), (3, .int x3), (4, .int x4)] → W p l e (r_MO_value) s m args below meth c H locs 0 0 (MQ below (mz_Q SX mz_tM 55 mz_cl dC dI ad en ca (some (.int res.1)) res.2) args s 0 0 (mz_A ad 55)) (F0 m 385 ls []) := by
  obtain ⟨hx, hb, hml, hown, hcx, -, -, hSX, -, -, hSK⟩ := id E
  intro x2 x3 x4 t hf H locs ls w hl
  unfold f_MO_value_385 at hf
  refine lv_aload_n hx hb d_MO_value_385 rfl (lv_at hl 0 rfl) ?_
  refine mz_get E w 0 73 (v := .ref (ad 49)) (by decide) rfl rfl ii_11 (by decide) (Nat.le_of_ble_eq_true rfl) k_1256 rfl d_MO_value_386 ?_
  refine lv_iload_n hx hb d_MO_value_389 rfl (lv_at hl 2 rfl) ?_
  refine lv_iload_n hx hb d_MO_value_390 rfl (lv_at hl 1 rfl) ?_
  obtain ⟨hi30, hf⟩ := mz_gd hf
  refine mz_iast E w 49 (x := x2) (by decide) rfl hi30 d_MO_value_391 (fun H locs w => ?_)
  obtain ⟨t31, e_t31, hf⟩ := mz_lt hf
  rw [← e_t31] at w
  refine lv_aload_n hx hb d_MO_value_392 rfl (lv_at hl 0 rfl) ?_
  refine mz_get E w 0 70 (v := .ref (ad 46)) (by decide) rfl rfl ii_11 (by decide) (Nat.le_of_ble_eq_true rfl) k_1253 rfl d_MO_value_393 ?_
  refine lv_iload_n hx hb d_MO_value_396 rfl (lv_at hl 2 rfl) ?_
  refine lv_iload hx hb d_MO_value_397 (lv_at hl 3 rfl) ?_
  obtain ⟨hi32, hf⟩ := mz_gd hf
  refine mz_iast E w 46 (x := x4) (by decide) rfl hi32 d_MO_value_399 (fun H locs w => ?_)
  obtain ⟨t33, e_t33, hf⟩ := mz_lt hf
  rw [← e_t33] at w
  refine lv_aload_n hx hb d_MO_value_400 rfl (lv_at hl 0 rfl) ?_
  refine lv_dup hx hb d_MO_value_401 rfl ?_
  refine mz_get E w 0 61 (v := .int (mz_gI t33 0 61)) (by decide) rfl rfl ii_11 (by decide) (Nat.le_of_ble_eq_true rfl) k_1244 rfl d_MO_value_402 ?_
  refine lv_iconst (v := (1 : Int32)) hx hb d_MO_value_405 (by decide) ?_
  refine lv_iadd hx hb d_MO_value_406 ?_
  refine mz_put E w 0 61 (v := ((mz_gI t33 0 61) + (1 : Int32))) (by decide) rfl rfl ii_11 tk_11 nm_11 (by decide) (Nat.le_of_ble_eq_true rfl) k_1244 rfl (tk_11 61 (by decide)) rfl rfl rfl d_MO_value_407 (fun H locs w => ?_)
  obtain ⟨t34, e_t34, hf⟩ := mz_lt hf
  rw [← e_t34] at w
  refine lv_iconst (v := (0 : Int32)) hx hb d_MO_value_410 (by decide) ?_
  refine lv_istore_n (lv' := [(1, .int (0 : Int32)), (0, .ref (ad 0)), (2, .int x2), (3, .int x3), (4, .int x4)]) hx hb d_MO_value_411 rfl hl (by decide) rfl (fun ls hl => ?_)
  refine lv_goto (tgt := 19) hx hb d_MO_value_412 (by decide) ?_
  exact hK19 (0 : Int32) x2 t34 hf _ _ _ w (lv_sub hl [1, 0, 2] rfl)
set_option maxRecDepth 100000 in
set_option maxHeartbeats 4000000 in
theorem b_MO_value_496 {SX : State → Heap → Prop} {dC : Nat → ClassId} {dI : Nat → Nat → Nat} {ad en : Nat → Nat} {ca : Nat → ClassId} {p : Program} {l : Launch} {e : Env} {s : State} {m : MethodId} {args : Array Value} {below : List Frame} {meth : Method} {c : Code} {res : (Int32 × mz_St)} (E : mz_En SX 55 mz_cl dC dI ad ca p s m meth c prog_15_method_36_code 7 "MacroHouseModel" (some (.int))) (n : Nat) (K19 : Int32 → Int32 → mz_St → Option (Int32 × mz_St)) (hK19 : ∀ (x1 : Int32) (x2 : Int32) (t : mz_St), K19 x1 x2 t = some res → ∀ (H : Heap) (locs : List Loc) (ls : Array Slot), mz_Wd mz_tM 55 mz_cl dC dI ad en ca s t H locs → lv_has ls 7 [(0, .ref (ad 0)), (1, .int x1), (2, .int x2)] → W p l e (r_MO_value) s m args below meth c H locs 0 0 (MQ below (mz_Q SX mz_tM 55 mz_cl dC dI ad en ca (some (.int res.1)) res.2) args s 0 0 (mz_A ad 55)) (F0 m 19 ls [])) : ∀ (x1 : Int32) (s0 : Int32) (t : mz_St), f_MO_value_496 n K19 x1 s0 t = some res → ∀ (H : Heap) (locs : List Loc) (ls : Array Slot), mz_Wd mz_tM 55 mz_cl dC dI ad en ca s t H locs → lv_has ls 7 [(0, .ref (ad 0)), (1, .int x1)] → W p l e (r_MO_value) s m args below meth c H locs 0 0 (MQ below (mz_Q SX mz_tM 55 mz_cl dC dI ad en ca (some (.int res.1)) res.2) args s 0 0 (mz_A ad 55)) (F0 m 496 ls [.int s0]) := by
  obtain ⟨hx, hb, hml, hown, hcx, -, -, hSX, -, -, hSK⟩ := id E
  intro x1 s0 t hf H locs ls w hl
  unfold f_MO_value_496 at hf
  refine lv_istore_n (lv' := [(2, .int s0), (0, .ref (ad 0)), (1, .int x1)]) hx hb d_MO_value_496 rfl hl (by decide) rfl (fun ls hl => ?_)
  refine lv_aload_n hx hb d_MO_value_497 rfl (lv_at hl 1 rfl) ?_
  refine lv_dup hx hb d_MO_value_498 rfl ?_
  refine mz_get E w 0 67 (v := .int (mz_gI t 0 67)) (by decide) rfl rfl ii_11 (by decide) (Nat.le_of_ble_eq_true rfl) k_1250 rfl d_MO_value_499 ?_
  refine lv_iconst (v := (1 : Int32)) hx hb d_MO_value_502 (by decide) ?_
  refine lv_isub hx hb d_MO_value_503 ?_
  refine mz_put E w 0 67 (v := ((mz_gI t 0 67) - (1 : Int32))) (by decide) rfl rfl ii_11 tk_11 nm_11 (by decide) (Nat.le_of_ble_eq_true rfl) k_1250 rfl (tk_11 67 (by decide)) rfl rfl rfl d_MO_value_504 (fun H locs w => ?_)
  obtain ⟨t41, e_t41, hf⟩ := mz_lt hf
  rw [← e_t41] at w
  refine lv_aload_n hx hb d_MO_value_507 rfl (lv_at hl 1 rfl) ?_
  refine mz_get E w 0 67 (v := .int (mz_gI t41 0 67)) (by decide) rfl rfl ii_11 (by decide) (Nat.le_of_ble_eq_true rfl) k_1250 rfl d_MO_value_508 ?_
  refine lv_if_ne (tgt := 516) hx hb d_MO_value_511 (by decide) (fun hc42 => ?_) (fun hc42 => ?_)
  · have hf := mz_f hc42 hf
    refine lv_aload_n hx hb d_MO_value_516 rfl (lv_at hl 1 rfl) ?_
    refine lv_bipush (v := (41 : Int32)) hx hb d_MO_value_517 (by decide) ?_
    obtain ⟨q43, hq44, hf⟩ := mz_bd hf
    refine mz_callV E w (k := 0) (As := [.int (41 : Int32)]) (rest := []) (c_MO_sign hSK l n (41 : Int32) t41 q43 hq44) (by decide) rfl rfl k_1604 k_15 k_1601 k_1603 ks_80 hm_MO_sign ⟨⟨rfl, rfl⟩, Nat.le_of_ble_eq_true rfl, Nat.le_of_ble_eq_true rfl⟩ rfl hl.1 rfl (Nat.le_of_ble_eq_true rfl) d_MO_value_519 ⟨Nat.zero_le _, Nat.zero_le _⟩ (st1 := []) rfl (fun H locs w => ?_)
    refine lv_goto (tgt := 19) hx hb d_MO_value_522 (by decide) ?_
    exact hK19 x1 s0 q43 hf _ _ _ w (lv_sub hl [1, 2, 0] rfl)
  · have hf := mz_t hc42 hf
    refine lv_iload_n hx hb d_MO_value_514 rfl (lv_at hl 0 rfl) ?_
    obtain rfl := Option.some.inj hf
    exact mz_iret E w rfl d_MO_value_515
set_option maxRecDepth 100000 in
set_option maxHeartbeats 4000000 in
theorem b_MO_value_432 {SX : State → Heap → Prop} {dC : Nat → ClassId} {dI : Nat → Nat → Nat} {ad en : Nat → Nat} {ca : Nat → ClassId} {p : Program} {l : Launch} {e : Env} {s : State} {m : MethodId} {args : Array Value} {below : List Frame} {meth : Method} {c : Code} {res : (Int32 × mz_St)} (E : mz_En SX 55 mz_cl dC dI ad ca p s m meth c prog_15_method_36_code 7 "MacroHouseModel" (some (.int))) (n : Nat) (K19 : Int32 → Int32 → mz_St → Option (Int32 × mz_St)) (hK19 : ∀ (x1 : Int32) (x2 : Int32) (t : mz_St), K19 x1 x2 t = some res → ∀ (H : Heap) (locs : List Loc) (ls : Array Slot), mz_Wd mz_tM 55 mz_cl dC dI ad en ca s t H locs → lv_has ls 7 [(0, .ref (ad 0)), (1, .int x1), (2, .int x2)] → W p l e (r_MO_value) s m args below meth c H locs 0 0 (MQ below (mz_Q SX mz_tM 55 mz_cl dC dI ad en ca (some (.int res.1)) res.2) args s 0 0 (mz_A ad 55)) (F0 m 19 ls [])) : ∀ (x1 : Int32) (x2 : Int32) (x3 : Int32) (s0 : Int32) (t : mz_St), f_MO_value_432 n K19 x1 x2 x3 s0 t = some res → ∀ (H : Heap) (locs : List Loc) (ls : Array Slot), mz_Wd mz_tM 55 mz_cl dC dI ad en ca s t H locs → lv_has ls 7 [(0, .ref (ad 0)), (1, .int x1), (2, .int x2), (3, .int x3)] → W p l e (r_MO_value) s m args below meth c H locs 0 0 (MQ below (mz_Q SX mz_tM 55 mz_cl dC dI ad en ca (some (.int res.1)) res.2) args s 0 0 (mz_A ad 55)) (F0 m 432 ls [.int s0]) := by
  obtain ⟨hx, hb, hml, hown, hcx, -, -, hSX, -, -, hSK⟩ := id E
  intro x1 x2 x3 s0 t hf H locs ls w hl
  unfold f_MO_value_432 at hf
  refine lv_istore (lv' := [(5, .int s0), (0, .ref (ad 0)), (1, .int x1), (2, .int x2), (3, .int x3)]) hx hb d_MO_value_432 hl (by decide) rfl (fun ls hl => ?_)
  refine lv_iload hx hb d_MO_value_434 (lv_at hl 0 rfl) ?_
  refine lv_if_le (tgt := 459) hx hb d_MO_value_436 (by decide) (fun hc38 => ?_) (fun hc38 => ?_)
  · have hf := mz_t hc38 hf
    refine lv_aload_n hx hb d_MO_value_459 rfl (lv_at hl 1 rfl) ?_
    refine mz_get E w 0 69 (v := .ref (ad 45)) (by decide) rfl rfl ii_11 (by decide) (Nat.le_of_ble_eq_true rfl) k_1252 rfl d_MO_value_460 ?_
    refine lv_iload_n hx hb d_MO_value_463 rfl (lv_at hl 4 rfl) ?_
    obtain ⟨hi39, hf⟩ := mz_gd hf
    refine mz_iald E w 45 (by decide) rfl hi39 d_MO_value_464 ?_
    refine lv_if_le (tgt := 495) hx hb d_MO_value_465 (by decide) (fun hc40 => ?_) (fun hc40 => ?_)
    · have hf := mz_t hc40 hf
      refine lv_iload_n hx hb d_MO_value_495 rfl (lv_at hl 3 rfl) ?_
      exact b_MO_value_496 E n K19 hK19 x1 x2 t hf _ _ _ w (lv_sub hl [1, 2] rfl)
    · have hf := mz_f hc40 hf
      refine lv_aload_n hx hb d_MO_value_468 rfl (lv_at hl 1 rfl) ?_
      refine mz_get E w 0 69 (v := .ref (ad 45)) (by decide) rfl rfl ii_11 (by decide) (Nat.le_of_ble_eq_true rfl) k_1252 rfl d_MO_value_469 ?_
      refine lv_iload_n hx hb d_MO_value_472 rfl (lv_at hl 4 rfl) ?_
      obtain ⟨hi45, hf⟩ := mz_gd hf
      refine mz_iald E w 45 (by decide) rfl hi45 d_MO_value_473 ?_
      refine lv_aload_n hx hb d_MO_value_474 rfl (lv_at hl 1 rfl) ?_
      refine mz_get E w 0 72 (v := .ref (ad 48)) (by decide) rfl rfl ii_11 (by decide) (Nat.le_of_ble_eq_true rfl) k_1255 rfl d_MO_value_475 ?_
      refine lv_iload_n hx hb d_MO_value_478 rfl (lv_at hl 4 rfl) ?_
      obtain ⟨hi46, hf⟩ := mz_gd hf
      refine mz_iald E w 48 (by decide) rfl hi46 d_MO_value_479 ?_
      refine lv_iload_n hx hb d_MO_value_480 rfl (lv_at hl 3 rfl) ?_
      obtain ⟨q47, hq48, hf⟩ := mz_bd hf
      refine mz_callS E w (As := [.int (mz_gI t 45 x3.toNatClampNeg), .int (mz_gI t 48 x3.toNatClampNeg), .int x2]) (rest := []) (c_MO_compared hSK l n (mz_gI t 45 x3.toNatClampNeg) (mz_gI t 48 x3.toNatClampNeg) x2 t q47 hq48) k_1600 k_15 k_1598 k_1599 hm_MO_compared ⟨⟨rfl, rfl⟩, Nat.le_of_ble_eq_true rfl, Nat.le_of_ble_eq_true rfl⟩ rfl hl.1 rfl (Nat.le_of_ble_eq_true rfl) d_MO_value_481 ⟨Nat.zero_le _, Nat.zero_le _⟩ (st1 := [.int q47.1]) rfl (fun H locs w => ?_)
      refine lv_if_eq (tgt := 491) hx hb d_MO_value_484 (by decide) (fun hc49 => ?_) (fun hc49 => ?_)
      · have hf := mz_t hc49 hf
        refine lv_iconst (v := (0 : Int32)) hx hb d_MO_value_491 (by decide) ?_
        refine lv_goto (tgt := 496) hx hb d_MO_value_492 (by decide) ?_
        exact b_MO_value_496 E n K19 hK19 x1 (0 : Int32) q47.2 hf _ _ _ w (lv_sub hl [1, 2] rfl)
      · have hf := mz_f hc49 hf
        refine lv_iconst (v := (1 : Int32)) hx hb d_MO_value_487 (by decide) ?_
        refine lv_goto (tgt := 496) hx hb d_MO_value_488 (by decide) ?_
        exact b_MO_value_496 E n K19 hK19 x1 (1 : Int32) q47.2 hf _ _ _ w (lv_sub hl [1, 2] rfl)
  · have hf := mz_f hc38 hf
    refine lv_aload_n hx hb d_MO_value_439 rfl (lv_at hl 1 rfl) ?_
    refine mz_get E w 0 72 (v := .ref (ad 48)) (by decide) rfl rfl ii_11 (by decide) (Nat.le_of_ble_eq_true rfl) k_1255 rfl d_MO_value_440 ?_
    refine lv_iload_n hx hb d_MO_value_443 rfl (lv_at hl 4 rfl) ?_
    refine lv_iload_n hx hb d_MO_value_444 rfl (lv_at hl 3 rfl) ?_
    obtain ⟨hi50, hf⟩ := mz_gd hf
    refine mz_iast E w 48 (x := x2) (by decide) rfl hi50 d_MO_value_445 (fun H locs w => ?_)
    obtain ⟨t51, e_t51, hf⟩ := mz_lt hf
    rw [← e_t51] at w
    refine lv_aload_n hx hb d_MO_value_446 rfl (lv_at hl 1 rfl) ?_
    refine mz_get E w 0 69 (v := .ref (ad 45)) (by decide) rfl rfl ii_11 (by decide) (Nat.le_of_ble_eq_true rfl) k_1252 rfl d_MO_value_447 ?_
    refine lv_iload_n hx hb d_MO_value_450 rfl (lv_at hl 4 rfl) ?_
    refine lv_iload hx hb d_MO_value_451 (lv_at hl 0 rfl) ?_
    obtain ⟨hi52, hf⟩ := mz_gd hf
    refine mz_iast E w 45 (x := s0) (by decide) rfl hi52 d_MO_value_453 (fun H locs w => ?_)
    obtain ⟨t53, e_t53, hf⟩ := mz_lt hf
    rw [← e_t53] at w
    refine lv_iconst (v := (0 : Int32)) hx hb d_MO_value_454 (by decide) ?_
    refine lv_istore_n (lv' := [(1, .int (0 : Int32)), (5, .int s0), (0, .ref (ad 0)), (2, .int x2), (3, .int x3)]) hx hb d_MO_value_455 rfl hl (by decide) rfl (fun ls hl => ?_)
    refine lv_goto (tgt := 19) hx hb d_MO_value_456 (by decide) ?_
    exact hK19 (0 : Int32) x2 t53 hf _ _ _ w (lv_sub hl [2, 0, 3] rfl)
set_option maxRecDepth 100000 in
set_option maxHeartbeats 4000000 in
theorem b_MO_value_109 {SX : State → Heap → Prop} {dC : Nat → ClassId} {dI : Nat → Nat → Nat} {ad en : Nat → Nat} {ca : Nat → ClassId} {p : Program} {l : Launch} {e : Env} {s : State} {m : MethodId} {args : Array Value} {below : List Frame} {meth : Method} {c : Code} {res : (Int32 × mz_St)} (E : mz_En SX 55 mz_cl dC dI ad ca p s m meth c prog_15_method_36_code 7 "MacroHouseModel" (some (.int))) (n : Nat) (K19 : Int32 → Int32 → mz_St → Option (Int32 × mz_St)) (hK19 : ∀ (x1 : Int32) (x2 : Int32) (t : mz_St), K19 x1 x2 t = some res → ∀ (H : Heap) (locs : List Loc) (ls : Array Slot), mz_Wd mz_tM 55 mz_cl dC dI ad en ca s t H locs → lv_has ls 7 [(0, .ref (ad 0)), (1, .int x1), (2, .int x2)] → W p l e (r_MO_value) s m args below meth c H locs 0 0 (MQ below (mz_Q SX mz_tM 55 mz_cl dC dI ad en ca (some (.int res.1)) res.2) args s 0 0 (mz_A ad 55)) (F0 m 19 ls [])) : ∀ (x1 : Int32) (x2 : Int32) (s1 : Int32) (t : mz_St), f_MO_value_109 n K19 x1 x2 s1 t = some res → ∀ (H : Heap) (locs : List Loc) (ls : Array Slot), mz_Wd mz_tM 55 mz_cl dC dI ad en ca s t H locs → lv_has ls 7 [(0, .ref (ad 0)), (1, .int x1), (2, .int x2)] → W p l e (r_MO_value) s m args below meth c H locs 0 0 (MQ below (mz_Q SX mz_tM 55 mz_cl dC dI ad en ca (some (.int res.1)) res.2) args s 0 0 (mz_A ad 55)) (F0 m 109 ls [.int s1, .ref (ad 0)]) := by
  obtain ⟨hx, hb, hml, hown, hcx, -, -, hSX, -, -, hSK⟩ := id E
  intro x1 x2 s1 t hf H locs ls w hl
  unfold f_MO_value_109 at hf
  obtain ⟨q66, hq67, hf⟩ := mz_bd hf
  refine mz_callV E w (k := 0) (As := [.int s1]) (rest := []) (c_MO_opens hSK l n s1 t q66 hq67) (by decide) rfl rfl k_1569 k_15 k_1566 k_1568 ks_72 hm_MO_opens ⟨⟨rfl, rfl⟩, Nat.le_of_ble_eq_true rfl, Nat.le_of_ble_eq_true rfl⟩ rfl hl.1 rfl (Nat.le_of_ble_eq_true rfl) d_MO_value_109 ⟨Nat.zero_le _, Nat.zero_le _⟩ (st1 := []) rfl (fun H locs w => ?_)
  refine lv_goto (tgt := 19) hx hb d_MO_value_112 (by decide) ?_
  exact hK19 x1 x2 q66 hf _ _ _ w (lv_sub hl [0, 1, 2] rfl)
set_option maxRecDepth 100000 in
set_option maxHeartbeats 4000000 in
theorem b_MO_value_76 {SX : State → Heap → Prop} {dC : Nat → ClassId} {dI : Nat → Nat → Nat} {ad en : Nat → Nat} {ca : Nat → ClassId} {p : Program} {l : Launch} {e : Env} {s : State} {m : MethodId} {args : Array Value} {below : List Frame} {meth : Method} {c : Code} {res : (Int32 × mz_St)} (E : mz_En SX 55 mz_cl dC dI ad ca p s m meth c prog_15_method_36_code 7 "MacroHouseModel" (some (.int))) (n : Nat) (K19 : Int32 → Int32 → mz_St → Option (Int32 × mz_St)) (hK19 : ∀ (x1 : Int32) (x2 : Int32) (t : mz_St), K19 x1 x2 t = some res → ∀ (H : Heap) (locs : List Loc) (ls : Array Slot), mz_Wd mz_tM 55 mz_cl dC dI ad en ca s t H locs → lv_has ls 7 [(0, .ref (ad 0)), (1, .int x1), (2, .int x2)] → W p l e (r_MO_value) s m args below meth c H locs 0 0 (MQ below (mz_Q SX mz_tM 55 mz_cl dC dI ad en ca (some (.int res.1)) res.2) args s 0 0 (mz_A ad 55)) (F0 m 19 ls [])) : ∀ (x1 : Int32) (x2 : Int32) (x4 : Int32) (s1 : Int32) (t : mz_St), f_MO_value_76 n K19 x1 x2 x4 s1 t = some res → ∀ (H : Heap) (locs : List Loc) (ls : Array Slot), mz_Wd mz_tM 55 mz_cl dC dI ad en ca s t H locs → lv_has ls 7 [(0, .ref (ad 0)), (1, .int x1), (2, .int x2), (4, .int x4)] → W p l e (r_MO_value) s m args below meth c H locs 0 0 (MQ below (mz_Q SX mz_tM 55 mz_cl dC dI ad en ca (some (.int res.1)) res.2) args s 0 0 (mz_A ad 55)) (F0 m 76 ls [.int s1, .ref (ad 0)]) := by
  obtain ⟨hx, hb, hml, hown, hcx, -, -, hSX, -, -, hSK⟩ := id E
  intro x1 x2 x4 s1 t hf H locs ls w hl
  unfold f_MO_value_76 at hf
  obtain ⟨hz61, hf⟩ := mz_gd hf
  refine mz_put E w 0 62 (v := s1) (by decide) rfl rfl ii_11 tk_11 nm_11 (by decide) (Nat.le_of_ble_eq_true rfl) k_1245 rfl (tk_11 62 (by decide)) rfl (mz_b01 hz61) (mz_f01 hz61) d_MO_value_76 (fun H locs w => ?_)
  obtain ⟨t62, e_t62, hf⟩ := mz_lt hf
  rw [← e_t62] at w
  refine lv_aload_n hx hb d_MO_value_79 rfl (lv_at hl 0 rfl) ?_
  refine lv_dup hx hb d_MO_value_80 rfl ?_
  refine mz_get E w 0 61 (v := .int (mz_gI t62 0 61)) (by decide) rfl rfl ii_11 (by decide) (Nat.le_of_ble_eq_true rfl) k_1244 rfl d_MO_value_81 ?_
  refine lv_iconst (v := (1 : Int32)) hx hb d_MO_value_84 (by decide) ?_
  refine lv_iadd hx hb d_MO_value_85 ?_
  refine mz_put E w 0 61 (v := ((mz_gI t62 0 61) + (1 : Int32))) (by decide) rfl rfl ii_11 tk_11 nm_11 (by decide) (Nat.le_of_ble_eq_true rfl) k_1244 rfl (tk_11 61 (by decide)) rfl rfl rfl d_MO_value_86 (fun H locs w => ?_)
  obtain ⟨t63, e_t63, hf⟩ := mz_lt hf
  rw [← e_t63] at w
  refine lv_aload_n hx hb d_MO_value_89 rfl (lv_at hl 0 rfl) ?_
  refine mz_get E w 0 62 (v := .int (mz_gI t63 0 62)) (by decide) rfl rfl ii_11 (by decide) (Nat.le_of_ble_eq_true rfl) k_1245 rfl d_MO_value_90 ?_
  refine lv_if_eq (tgt := 19) hx hb d_MO_value_93 (by decide) (fun hc64 => ?_) (fun hc64 => ?_)
  · have hf := mz_t hc64 hf
    exact hK19 x1 x2 t63 hf _ _ _ w (lv_sub hl [0, 1, 2] rfl)
  · have hf := mz_f hc64 hf
    refine lv_aload_n hx hb d_MO_value_96 rfl (lv_at hl 0 rfl) ?_
    refine lv_iload hx hb d_MO_value_97 (lv_at hl 3 rfl) ?_
    refine lv_bipush (v := (40 : Int32)) hx hb d_MO_value_99 (by decide) ?_
    refine lv_icmp_ne (tgt := 108) hx hb d_MO_value_101 (by decide) (fun hc65 => ?_) (fun hc65 => ?_)
    · have hf := mz_f hc65 hf
      refine lv_iconst (v := (2 : Int32)) hx hb d_MO_value_108 (by decide) ?_
      exact b_MO_value_109 E n K19 hK19 x1 x2 (2 : Int32) t63 hf _ _ _ w (lv_sub hl [0, 1, 2] rfl)
    · have hf := mz_t hc65 hf
      refine lv_iconst (v := (1 : Int32)) hx hb d_MO_value_104 (by decide) ?_
      refine lv_goto (tgt := 109) hx hb d_MO_value_105 (by decide) ?_
      exact b_MO_value_109 E n K19 hK19 x1 x2 (1 : Int32) t63 hf _ _ _ w (lv_sub hl [0, 1, 2] rfl)
set_option maxRecDepth 100000 in
set_option maxHeartbeats 4000000 in
theorem b_MO_value_61 {SX : State → Heap → Prop} {dC : Nat → ClassId} {dI : Nat → Nat → Nat} {ad en : Nat → Nat} {ca : Nat → ClassId} {p : Program} {l : Launch} {e : Env} {s : State} {m : MethodId} {args : Array Value} {below : List Frame} {meth : Method} {c : Code} {res : (Int32 × mz_St)} (E : mz_En SX 55 mz_cl dC dI ad ca p s m meth c prog_15_method_36_code 7 "MacroHouseModel" (some (.int))) (n : Nat) (K19 : Int32 → Int32 → mz_St → Option (Int32 × mz_St)) (hK19 : ∀ (x1 : Int32) (x2 : Int32) (t : mz_St), K19 x1 x2 t = some res → ∀ (H : Heap) (locs : List Loc) (ls : Array Slot), mz_Wd mz_tM 55 mz_cl dC dI ad en ca s t H locs → lv_has ls 7 [(0, .ref (ad 0)), (1, .int x1), (2, .int x2)] → W p l e (r_MO_value) s m args below meth c H locs 0 0 (MQ below (mz_Q SX mz_tM 55 mz_cl dC dI ad en ca (some (.int res.1)) res.2) args s 0 0 (mz_A ad 55)) (F0 m 19 ls [])) : ∀ (x1 : Int32) (x2 : Int32) (x4 : Int32) (t : mz_St), f_MO_value_61 n K19 x1 x2 x4 t = some res → ∀ (H : Heap) (locs : List Loc) (ls : Array Slot), mz_Wd mz_tM 55 mz_cl dC dI ad en ca s t H locs → lv_has ls 7 [(0, .ref (ad 0)), (1, .int x1), (2, .int x2), (4, .int x4)] → W p l e (r_MO_value) s m args below meth c H locs 0 0 (MQ below (mz_Q SX mz_tM 55 mz_cl dC dI ad en ca (some (.int res.1)) res.2) args s 0 0 (mz_A ad 55)) (F0 m 61 ls []) := by
  obtain ⟨hx, hb, hml, hown, hcx, -, -, hSX, -, -, hSK⟩ := id E
  intro x1 x2 x4 t hf H locs ls w hl
  unfold f_MO_value_61 at hf
  refine lv_aload_n hx hb d_MO_value_61 rfl (lv_at hl 0 rfl) ?_
  refine lv_aload_n hx hb d_MO_value_62 rfl (lv_at hl 0 rfl) ?_
  refine mz_get E w 0 67 (v := .int (mz_gI t 0 67)) (by decide) rfl rfl ii_11 (by decide) (Nat.le_of_ble_eq_true rfl) k_1250 rfl d_MO_value_63 ?_
  refine lv_bipush (v := (10 : Int32)) hx hb d_MO_value_66 (by decide) ?_
  refine lv_icmp_gt (tgt := 75) hx hb d_MO_value_68 (by decide) (fun hc60 => ?_) (fun hc60 => ?_)
  · have hf := mz_t hc60 hf
    refine lv_iconst (v := (0 : Int32)) hx hb d_MO_value_75 (by decide) ?_
    exact b_MO_value_76 E n K19 hK19 x1 x2 x4 (0 : Int32) t hf _ _ _ w (lv_sub hl [0, 1, 2, 3] rfl)
  · have hf := mz_f hc60 hf
    refine lv_iconst (v := (1 : Int32)) hx hb d_MO_value_71 (by decide) ?_
    refine lv_goto (tgt := 76) hx hb d_MO_value_72 (by decide) ?_
    exact b_MO_value_76 E n K19 hK19 x1 x2 x4 (1 : Int32) t hf _ _ _ w (lv_sub hl [0, 1, 2, 3] rfl)
set_option maxRecDepth 100000 in
set_option maxHeartbeats 4000000 in
theorem b_MO_value_254 {SX : State → Heap → Prop} {dC : Nat → ClassId} {dI : Nat → Nat → Nat} {ad en : Nat → Nat} {ca : Nat → ClassId} {p : Program} {l : Launch} {e : Env} {s : State} {m : MethodId} {args : Array Value} {below : List Frame} {meth : Method} {c : Code} {res : (Int32 × mz_St)} (E : mz_En SX 55 mz_cl dC dI ad ca p s m meth c prog_15_method_36_code 7 "MacroHouseModel" (some (.int))) (n : Nat) (K19 : Int32 → Int32 → mz_St → Option (Int32 × mz_St)) (hK19 : ∀ (x1 : Int32) (x2 : Int32) (t : mz_St), K19 x1 x2 t = some res → ∀ (H : Heap) (locs : List Loc) (ls : Array Slot), mz_Wd mz_tM 55 mz_cl dC dI ad en ca s t H locs → lv_has ls 7 [(0, .ref (ad 0)), (1, .int x1), (2, .int x2)] → W p l e (r_MO_value) s m args below meth c H locs 0 0 (MQ below (mz_Q SX mz_tM 55 mz_cl dC dI ad en ca (some (.int res.1)) res.2) args s 0 0 (mz_A ad 55)) (F0 m 19 ls [])) : ∀ (s0 : Int32) (t : mz_St), f_MO_value_254 n K19 s0 t = some res → ∀ (H : Heap) (locs : List Loc) (ls : Array Slot), mz_Wd mz_tM 55 mz_cl dC dI ad en ca s t H locs → lv_has ls 7 [(0, .ref (ad 0))] → W p l e (r_MO_value) s m args below meth c H locs 0 0 (MQ below (mz_Q SX mz_tM 55 mz_cl dC dI ad en ca (some (.int res.1)) res.2) args s 0 0 (mz_A ad 55)) (F0 m 254 ls [.int s0]) := by
  obtain ⟨hx, hb, hml, hown, hcx, -, -, hSX, -, -, hSK⟩ := id E
  intro s0 t hf H locs ls w hl
  unfold f_MO_value_254 at hf
  refine lv_istore_n (lv' := [(2, .int s0), (0, .ref (ad 0))]) hx hb d_MO_value_254 rfl hl (by decide) rfl (fun ls hl => ?_)
  refine lv_iconst (v := (1 : Int32)) hx hb d_MO_value_255 (by decide) ?_
  refine lv_istore_n (lv' := [(1, .int (1 : Int32)), (2, .int s0), (0, .ref (ad 0))]) hx hb d_MO_value_256 rfl hl (by decide) rfl (fun ls hl => ?_)
  refine lv_goto (tgt := 19) hx hb d_MO_value_257 (by decide) ?_
  exact hK19 (1 : Int32) s0 t hf _ _ _ w (lv_sub hl [2, 0, 1] rfl)
set_option maxRecDepth 100000 in
set_option maxHeartbeats 4000000 in
theorem b_MO_value_220 {SX : State → Heap → Prop} {dC : Nat → ClassId} {dI : Nat → Nat → Nat} {ad en : Nat → Nat} {ca : Nat → ClassId} {p : Program} {l : Launch} {e : Env} {s : State} {m : MethodId} {args : Array Value} {below : List Frame} {meth : Method} {c : Code} {res : (Int32 × mz_St)} (E : mz_En SX 55 mz_cl dC dI ad ca p s m meth c prog_15_method_36_code 7 "MacroHouseModel" (some (.int))) (n : Nat) (K19 : Int32 → Int32 → mz_St → Option (Int32 × mz_St)) (hK19 : ∀ (x1 : Int32) (x2 : Int32) (t : mz_St), K19 x1 x2 t = some res → ∀ (H : Heap) (locs : List Loc) (ls : Array Slot), mz_Wd mz_tM 55 mz_cl dC dI ad en ca s t H locs → lv_has ls 7 [(0, .ref (ad 0)), (1, .int x1), (2, .int x2)] → W p l e (r_MO_value) s m args below meth c H locs 0 0 (MQ below (mz_Q SX mz_tM 55 mz_cl dC dI ad en ca (some (.int res.1)) res.2) args s 0 0 (mz_A ad 55)) (F0 m 19 ls [])) : ∀ (x5 : Int32) (x6 : Int32) (t : mz_St), f_MO_value_220 n K19 x5 x6 t = some res → ∀ (H : Heap) (locs : List Loc) (ls : Array Slot), mz_Wd mz_tM 55 mz_cl dC dI ad en ca s t H locs → lv_has ls 7 [(0, .ref (ad 0)), (5, .int x5), (6, .int x6)] → W p l e (r_MO_value) s m args below meth c H locs 0 0 (MQ below (mz_Q SX mz_tM 55 mz_cl dC dI ad en ca (some (.int res.1)) res.2) args s 0 0 (mz_A ad 55)) (F0 m 220 ls []) := by
  obtain ⟨hx, hb, hml, hown, hcx, -, -, hSX, -, -, hSK⟩ := id E
  intro x5 x6 t hf H locs ls w hl
  unfold f_MO_value_220 at hf
  refine lv_iload hx hb d_MO_value_220 (lv_at hl 1 rfl) ?_
  refine lv_if_eq (tgt := 238) hx hb d_MO_value_222 (by decide) (fun hc79 => ?_) (fun hc79 => ?_)
  · have hf := mz_t hc79 hf
    refine lv_iload hx hb d_MO_value_238 (lv_at hl 2 rfl) ?_
    refine lv_if_ge (tgt := 247) hx hb d_MO_value_240 (by decide) (fun hc80 => ?_) (fun hc80 => ?_)
    · have hf := mz_t hc80 hf
      refine lv_aload_n hx hb d_MO_value_247 rfl (lv_at hl 0 rfl) ?_
      refine mz_get E w 0 27 (v := .ref (ad 17)) (by decide) rfl rfl ii_11 (by decide) (Nat.le_of_ble_eq_true rfl) k_1210 rfl d_MO_value_248 ?_
      refine lv_iload hx hb d_MO_value_251 (lv_at hl 2 rfl) ?_
      obtain ⟨hi81, hf⟩ := mz_gd hf
      refine mz_iald E w 17 (by decide) rfl hi81 d_MO_value_253 ?_
      exact b_MO_value_254 E n K19 hK19 (mz_gI t 17 x6.toNatClampNeg) t hf _ _ _ w (lv_sub hl [0] rfl)
    · have hf := mz_f hc80 hf
      refine lv_iconst (v := (0 : Int32)) hx hb d_MO_value_243 (by decide) ?_
      refine lv_goto (tgt := 254) hx hb d_MO_value_244 (by decide) ?_
      exact b_MO_value_254 E n K19 hK19 (0 : Int32) t hf _ _ _ w (lv_sub hl [0] rfl)
  · have hf := mz_f hc79 hf
    refine lv_iload hx hb d_MO_value_225 (lv_at hl 2 rfl) ?_
    refine lv_if_ge (tgt := 234) hx hb d_MO_value_227 (by decide) (fun hc82 => ?_) (fun hc82 => ?_)
    · have hf := mz_t hc82 hf
      refine lv_iconst (v := (1 : Int32)) hx hb d_MO_value_234 (by decide) ?_
      refine lv_goto (tgt := 254) hx hb d_MO_value_235 (by decide) ?_
      exact b_MO_value_254 E n K19 hK19 (1 : Int32) t hf _ _ _ w (lv_sub hl [0] rfl)
    · have hf := mz_f hc82 hf
      refine lv_iconst (v := (0 : Int32)) hx hb d_MO_value_230 (by decide) ?_
      refine lv_goto (tgt := 254) hx hb d_MO_value_231 (by decide) ?_
      exact b_MO_value_254 E n K19 hK19 (0 : Int32) t hf _ _ _ w (lv_sub hl [0] rfl)
set_option maxRecDepth 100000 in
set_option maxHeartbeats 4000000 in
theorem b_MO_value_196 {SX : State → Heap → Prop} {dC : Nat → ClassId} {dI : Nat → Nat → Nat} {ad en : Nat → Nat} {ca : Nat → ClassId} {p : Program} {l : Launch} {e : Env} {s : State} {m : MethodId} {args : Array Value} {below : List Frame} {meth : Method} {c : Code} {res : (Int32 × mz_St)} (E : mz_En SX 55 mz_cl dC dI ad ca p s m meth c prog_15_method_36_code 7 "MacroHouseModel" (some (.int))) (n : Nat) (K19 : Int32 → Int32 → mz_St → Option (Int32 × mz_St)) (hK19 : ∀ (x1 : Int32) (x2 : Int32) (t : mz_St), K19 x1 x2 t = some res → ∀ (H : Heap) (locs : List Loc) (ls : Array Slot), mz_Wd mz_tM 55 mz_cl dC dI ad en ca s t H locs → lv_has ls 7 [(0, .ref (ad 0)), (1, .int x1), (2, .int x2)] → W p l e (r_MO_value) s m args below meth c H locs 0 0 (MQ below (mz_Q SX mz_tM 55 mz_cl dC dI ad en ca (some (.int res.1)) res.2) args s 0 0 (mz_A ad 55)) (F0 m 19 ls [])) : ∀ (x5 : Int32) (s0 : Int32) (t : mz_St), f_MO_value_196 n K19 x5 s0 t = some res → ∀ (H : Heap) (locs : List Loc) (ls : Array Slot), mz_Wd mz_tM 55 mz_cl dC dI ad en ca s t H locs → lv_has ls 7 [(0, .ref (ad 0)), (5, .int x5)] → W p l e (r_MO_value) s m args below meth c H locs 0 0 (MQ below (mz_Q SX mz_tM 55 mz_cl dC dI ad en ca (some (.int res.1)) res.2) args s 0 0 (mz_A ad 55)) (F0 m 196 ls [.int s0]) := by
  obtain ⟨hx, hb, hml, hown, hcx, -, -, hSX, -, -, hSK⟩ := id E
  intro x5 s0 t hf H locs ls w hl
  unfold f_MO_value_196 at hf
  refine lv_istore (lv' := [(6, .int s0), (0, .ref (ad 0)), (5, .int x5)]) hx hb d_MO_value_196 hl (by decide) rfl (fun ls hl => ?_)
  refine lv_iload hx hb d_MO_value_198 (lv_at hl 2 rfl) ?_
  refine lv_if_ne (tgt := 220) hx hb d_MO_value_200 (by decide) (fun hc78 => ?_) (fun hc78 => ?_)
  · have hf := mz_f hc78 hf
    exact b_MO_value_220 E n K19 hK19 x5 s0 t hf _ _ _ w (lv_sub hl [1, 2, 0] rfl)
  · have hf := mz_t hc78 hf
    refine lv_aload_n hx hb d_MO_value_203 rfl (lv_at hl 1 rfl) ?_
    refine mz_get E w 0 62 (v := .int (mz_gI t 0 62)) (by decide) rfl rfl ii_11 (by decide) (Nat.le_of_ble_eq_true rfl) k_1245 rfl d_MO_value_204 ?_
    refine lv_if_eq (tgt := 220) hx hb d_MO_value_207 (by decide) (fun hc83 => ?_) (fun hc83 => ?_)
    · have hf := mz_t hc83 hf
      exact b_MO_value_220 E n K19 hK19 x5 s0 t hf _ _ _ w (lv_sub hl [1, 2, 0] rfl)
    · have hf := mz_f hc83 hf
      refine lv_iload hx hb d_MO_value_210 (lv_at hl 0 rfl) ?_
      refine lv_if_ge (tgt := 220) hx hb d_MO_value_212 (by decide) (fun hc84 => ?_) (fun hc84 => ?_)
      · have hf := mz_t hc84 hf
        exact b_MO_value_220 E n K19 hK19 x5 s0 t hf _ _ _ w (lv_sub hl [1, 2, 0] rfl)
      · have hf := mz_f hc84 hf
        refine lv_aload_n hx hb d_MO_value_215 rfl (lv_at hl 1 rfl) ?_
        refine lv_iconst (v := (3 : Int32)) hx hb d_MO_value_216 (by decide) ?_
        obtain ⟨q85, hq86, hf⟩ := mz_bd hf
        refine mz_callV E w (k := 0) (As := [.int (3 : Int32)]) (rest := []) (c_MO_met hSK l n (3 : Int32) t q85 hq86) (by decide) rfl rfl k_1581 k_15 k_1578 k_1580 ks_75 hm_MO_met ⟨⟨rfl, rfl⟩, Nat.le_of_ble_eq_true rfl, Nat.le_of_ble_eq_true rfl⟩ rfl hl.1 rfl (Nat.le_of_ble_eq_true rfl) d_MO_value_217 ⟨Nat.zero_le _, Nat.zero_le _⟩ (st1 := []) rfl (fun H locs w => ?_)
        exact b_MO_value_220 E n K19 hK19 x5 s0 q85 hf _ _ _ w (lv_sub hl [1, 2, 0] rfl)
set_option maxRecDepth 100000 in
set_option maxHeartbeats 4000000 in
theorem b_MO_value_166 {SX : State → Heap → Prop} {dC : Nat → ClassId} {dI : Nat → Nat → Nat} {ad en : Nat → Nat} {ca : Nat → ClassId} {p : Program} {l : Launch} {e : Env} {s : State} {m : MethodId} {args : Array Value} {below : List Frame} {meth : Method} {c : Code} {res : (Int32 × mz_St)} (E : mz_En SX 55 mz_cl dC dI ad ca p s m meth c prog_15_method_36_code 7 "MacroHouseModel" (some (.int))) (n : Nat) (K19 : Int32 → Int32 → mz_St → Option (Int32 × mz_St)) (hK19 : ∀ (x1 : Int32) (x2 : Int32) (t : mz_St), K19 x1 x2 t = some res → ∀ (H : Heap) (locs : List Loc) (ls : Array Slot), mz_Wd mz_tM 55 mz_cl dC dI ad en ca s t H locs → lv_has ls 7 [(0, .ref (ad 0)), (1, .int x1), (2, .int x2)] → W p l e (r_MO_value) s m args below meth c H locs 0 0 (MQ below (mz_Q SX mz_tM 55 mz_cl dC dI ad en ca (some (.int res.1)) res.2) args s 0 0 (mz_A ad 55)) (F0 m 19 ls [])) : ∀ (x5 : Int32) (s1 : Int32) (t : mz_St), f_MO_value_166 n K19 x5 s1 t = some res → ∀ (H : Heap) (locs : List Loc) (ls : Array Slot), mz_Wd mz_tM 55 mz_cl dC dI ad en ca s t H locs → lv_has ls 7 [(0, .ref (ad 0)), (5, .int x5)] → W p l e (r_MO_value) s m args below meth c H locs 0 0 (MQ below (mz_Q SX mz_tM 55 mz_cl dC dI ad en ca (some (.int res.1)) res.2) args s 0 0 (mz_A ad 55)) (F0 m 166 ls [.int s1, .ref (ad 0)]) := by
  obtain ⟨hx, hb, hml, hown, hcx, -, -, hSX, -, -, hSK⟩ := id E
  intro x5 s1 t hf H locs ls w hl
  unfold f_MO_value_166 at hf
  refine mz_put E w 0 61 (v := s1) (by decide) rfl rfl ii_11 tk_11 nm_11 (by decide) (Nat.le_of_ble_eq_true rfl) k_1244 rfl (tk_11 61 (by decide)) rfl rfl rfl d_MO_value_166 (fun H locs w => ?_)
  obtain ⟨t74, e_t74, hf⟩ := mz_lt hf
  rw [← e_t74] at w
  refine lv_aload_n hx hb d_MO_value_169 rfl (lv_at hl 0 rfl) ?_
  obtain ⟨q75, hq76, hf⟩ := mz_bd hf
  refine mz_callV E w (k := 0) (As := []) (rest := []) (c_MO_word hSK l n t74 q75 hq76) (by decide) rfl rfl k_1557 k_15 k_1554 k_1556 ks_69 hm_MO_word ⟨⟨rfl, rfl⟩, Nat.le_of_ble_eq_true rfl, Nat.le_of_ble_eq_true rfl⟩ rfl hl.1 rfl (Nat.le_of_ble_eq_true rfl) d_MO_value_170 ⟨Nat.zero_le _, Nat.zero_le _⟩ (st1 := []) rfl (fun H locs w => ?_)
  refine lv_aload_n hx hb d_MO_value_173 rfl (lv_at hl 0 rfl) ?_
  refine mz_get E w 0 62 (v := .int (mz_gI q75 0 62)) (by decide) rfl rfl ii_11 (by decide) (Nat.le_of_ble_eq_true rfl) k_1245 rfl d_MO_value_174 ?_
  refine lv_if_eq (tgt := 195) hx hb d_MO_value_177 (by decide) (fun hc77 => ?_) (fun hc77 => ?_)
  · have hf := mz_t hc77 hf
    refine lv_iconst (v := (-1 : Int32)) hx hb d_MO_value_195 (by decide) ?_
    exact b_MO_value_196 E n K19 hK19 x5 (-1 : Int32) q75 hf _ _ _ w (lv_sub hl [0, 1] rfl)
  · have hf := mz_f hc77 hf
    refine lv_aload_n hx hb d_MO_value_180 rfl (lv_at hl 0 rfl) ?_
    refine lv_aload_n hx hb d_MO_value_181 rfl (lv_at hl 0 rfl) ?_
    refine mz_get E w 0 65 (v := .long (mz_gL q75 0 65)) (by decide) rfl rfl ii_11 (by decide) (Nat.le_of_ble_eq_true rfl) k_1248 rfl d_MO_value_182 ?_
    refine lv_aload_n hx hb d_MO_value_185 rfl (lv_at hl 0 rfl) ?_
    refine mz_get E w 0 66 (v := .long (mz_gL q75 0 66)) (by decide) rfl rfl ii_11 (by decide) (Nat.le_of_ble_eq_true rfl) k_1249 rfl d_MO_value_186 ?_
    obtain ⟨q87, hq88, hf⟩ := mz_bd hf
    refine mz_callV E w (k := 0) (As := [.long (mz_gL q75 0 65), .long (mz_gL q75 0 66)]) (rest := []) (c_MO_constantOf hSK l n (mz_gL q75 0 65) (mz_gL q75 0 66) q75 q87 hq88) (by decide) rfl rfl k_1577 k_15 k_1574 k_1576 ks_74 hm_MO_constantOf ⟨⟨rfl, rfl⟩, Nat.le_of_ble_eq_true rfl, Nat.le_of_ble_eq_true rfl⟩ rfl hl.1 rfl (Nat.le_of_ble_eq_true rfl) d_MO_value_189 ⟨Nat.zero_le _, Nat.zero_le _⟩ (st1 := [.int q87.1]) rfl (fun H locs w => ?_)
    refine lv_goto (tgt := 196) hx hb d_MO_value_192 (by decide) ?_
    exact b_MO_value_196 E n K19 hK19 x5 q87.1 q87.2 hf _ _ _ w (lv_sub hl [0, 1] rfl)
set_option maxRecDepth 100000 in
set_option maxHeartbeats 4000000 in
theorem b_MO_value_145 {SX : State → Heap → Prop} {dC : Nat → ClassId} {dI : Nat → Nat → Nat} {ad en : Nat → Nat} {ca : Nat → ClassId} {p : Program} {l : Launch} {e : Env} {s : State} {m : MethodId} {args : Array Value} {below : List Frame} {meth : Method} {c : Code} {res : (Int32 × mz_St)} (E : mz_En SX 55 mz_cl dC dI ad ca p s m meth c prog_15_method_36_code 7 "MacroHouseModel" (some (.int))) (n : Nat) (K19 : Int32 → Int32 → mz_St → Option (Int32 × mz_St)) (hK19 : ∀ (x1 : Int32) (x2 : Int32) (t : mz_St), K19 x1 x2 t = some res → ∀ (H : Heap) (locs : List Loc) (ls : Array Slot), mz_Wd mz_tM 55 mz_cl dC dI ad en ca s t H locs → lv_has ls 7 [(0, .ref (ad 0)), (1, .int x1), (2, .int x2)] → W p l e (r_MO_value) s m args below meth c H locs 0 0 (MQ below (mz_Q SX mz_tM 55 mz_cl dC dI ad en ca (some (.int res.1)) res.2) args s 0 0 (mz_A ad 55)) (F0 m 19 ls [])) : ∀ (s0 : Int32) (t : mz_St), f_MO_value_145 n K19 s0 t = some res → ∀ (H : Heap) (locs : List Loc) (ls : Array Slot), mz_Wd mz_tM 55 mz_cl dC dI ad en ca s t H locs → lv_has ls 7 [(0, .ref (ad 0))] → W p l e (r_MO_value) s m args below meth c H locs 0 0 (MQ below (mz_Q SX mz_tM 55 mz_cl dC dI ad en ca (some (.int res.1)) res.2) args s 0 0 (mz_A ad 55)) (F0 m 145 ls [.int s0]) := by
  obtain ⟨hx, hb, hml, hown, hcx, -, -, hSX, -, -, hSK⟩ := id E
  intro s0 t hf H locs ls w hl
  unfold f_MO_value_145 at hf
  refine lv_istore (lv' := [(5, .int s0), (0, .ref (ad 0))]) hx hb d_MO_value_145 hl (by decide) rfl (fun ls hl => ?_)
  refine lv_aload_n hx hb d_MO_value_147 rfl (lv_at hl 1 rfl) ?_
  refine lv_iload hx hb d_MO_value_148 (lv_at hl 0 rfl) ?_
  refine lv_if_eq (tgt := 162) hx hb d_MO_value_150 (by decide) (fun hc73 => ?_) (fun hc73 => ?_)
  · have hf := mz_t hc73 hf
    refine lv_aload_n hx hb d_MO_value_162 rfl (lv_at hl 1 rfl) ?_
    refine mz_get E w 0 61 (v := .int (mz_gI t 0 61)) (by decide) rfl rfl ii_11 (by decide) (Nat.le_of_ble_eq_true rfl) k_1244 rfl d_MO_value_163 ?_
    exact b_MO_value_166 E n K19 hK19 s0 (mz_gI t 0 61) t hf _ _ _ w (lv_sub hl [1, 0] rfl)
  · have hf := mz_f hc73 hf
    refine lv_aload_n hx hb d_MO_value_153 rfl (lv_at hl 1 rfl) ?_
    refine mz_get E w 0 61 (v := .int (mz_gI t 0 61)) (by decide) rfl rfl ii_11 (by decide) (Nat.le_of_ble_eq_true rfl) k_1244 rfl d_MO_value_154 ?_
    refine lv_iconst (v := (1 : Int32)) hx hb d_MO_value_157 (by decide) ?_
    refine lv_iadd hx hb d_MO_value_158 ?_
    refine lv_goto (tgt := 166) hx hb d_MO_value_159 (by decide) ?_
    exact b_MO_value_166 E n K19 hK19 s0 ((mz_gI t 0 61) + (1 : Int32)) t hf _ _ _ w (lv_sub hl [1, 0] rfl)
set_option maxRecDepth 100000 in
set_option maxHeartbeats 4000000 in
theorem b_MO_value_19 {SX : State → Heap → Prop} {dC : Nat → ClassId} {dI : Nat → Nat → Nat} {ad en : Nat → Nat} {ca : Nat → ClassId} {p : Program} {l : Launch} {e : Env} {s : State} {m : MethodId} {args : Array Value} {below : List Frame} {meth : Method} {c : Code} {res : (Int32 × mz_St)} (E : mz_En SX 55 mz_cl dC dI ad ca p s m meth c prog_15_method_36_code 7 "MacroHouseModel" (some (.int))) (n : Nat) (k : Nat) : ∀ (x1 : Int32) (x2 : Int32) (t : mz_St), f_MO_value_19 n k x1 x2 t = some res → ∀ (H : Heap) (locs : List Loc) (ls : Array Slot), mz_Wd mz_tM 55 mz_cl dC dI ad en ca s t H locs → lv_has ls 7 [(0, .ref (ad 0)), (1, .int x1), (2, .int x2)] → W p l e (r_MO_value) s m args below meth c H locs 0 0 (MQ below (mz_Q SX mz_tM 55 mz_cl dC dI ad en ca (some (.int res.1)) res.2) args s 0 0 (mz_A ad 55)) (F0 m 19 ls []) := by
  obtain ⟨hx, hb, hml, hown, hcx, -, -, hSX, -, -, hSK⟩ := id E
  induction k with
  | zero => intro x1 x2 t hf; exact absurd hf (by unfold f_MO_value_19; exact fun h => nomatch h)
  | succ k ih =>
    intro x1 x2 t hf H locs ls w hl
    unfold f_MO_value_19 at hf
    refine lv_aload_n hx hb d_MO_value_19 rfl (lv_at hl 0 rfl) ?_
    refine mz_get E w 0 62 (v := .int (mz_gI t 0 62)) (by decide) rfl rfl ii_11 (by decide) (Nat.le_of_ble_eq_true rfl) k_1245 rfl d_MO_value_20 ?_
    refine lv_if_eq (tgt := 525) hx hb d_MO_value_23 (by decide) (fun hc5 => ?_) (fun hc5 => ?_)
    · have hf := mz_t hc5 hf
      refine lv_iconst (v := (0 : Int32)) hx hb d_MO_value_525 (by decide) ?_
      obtain rfl := Option.some.inj hf
      exact mz_iret E w rfl d_MO_value_526
    · have hf := mz_f hc5 hf
      refine lv_aload_n hx hb d_MO_value_26 rfl (lv_at hl 0 rfl) ?_
      obtain ⟨q6, hq7, hf⟩ := mz_bd hf
      refine mz_callV E w (k := 0) (As := []) (rest := []) (c_MO_blanks hSK l n t q6 hq7) (by decide) rfl rfl k_1549 k_15 k_1546 k_1548 ks_67 hm_MO_blanks ⟨⟨rfl, rfl⟩, Nat.le_of_ble_eq_true rfl, Nat.le_of_ble_eq_true rfl⟩ rfl hl.1 rfl (Nat.le_of_ble_eq_true rfl) d_MO_value_27 ⟨Nat.zero_le _, Nat.zero_le _⟩ (st1 := []) rfl (fun H locs w => ?_)
      refine lv_aload_n hx hb d_MO_value_30 rfl (lv_at hl 0 rfl) ?_
      refine mz_get E w 0 67 (v := .int (mz_gI q6 0 67)) (by decide) rfl rfl ii_11 (by decide) (Nat.le_of_ble_eq_true rfl) k_1250 rfl d_MO_value_31 ?_
      refine lv_iconst (v := (1 : Int32)) hx hb d_MO_value_34 (by decide) ?_
      refine lv_isub hx hb d_MO_value_35 ?_
      refine lv_istore_n (lv' := [(3, .int ((mz_gI q6 0 67) - (1 : Int32))), (0, .ref (ad 0)), (1, .int x1), (2, .int x2)]) hx hb d_MO_value_36 rfl hl (by decide) rfl (fun ls hl => ?_)
      refine lv_iload_n hx hb d_MO_value_37 rfl (lv_at hl 2 rfl) ?_
      refine lv_if_ne (tgt := 260) hx hb d_MO_value_38 (by decide) (fun hc8 => ?_) (fun hc8 => ?_)
      · have hf := mz_f hc8 hf
        refine lv_aload_n hx hb d_MO_value_260 rfl (lv_at hl 1 rfl) ?_
        refine mz_get E w 0 68 (v := .ref (ad 44)) (by decide) rfl rfl ii_11 (by decide) (Nat.le_of_ble_eq_true rfl) k_1251 rfl d_MO_value_261 ?_
        refine lv_iload_n hx hb d_MO_value_264 rfl (lv_at hl 0 rfl) ?_
        obtain ⟨hi9, hf⟩ := mz_gd hf
        refine mz_iald E w 44 (by decide) rfl hi9 d_MO_value_265 ?_
        refine lv_iconst (v := (2 : Int32)) hx hb d_MO_value_266 (by decide) ?_
        refine lv_icmp_ne (tgt := 286) hx hb d_MO_value_267 (by decide) (fun hc10 => ?_) (fun hc10 => ?_)
        · have hf := mz_f hc10 hf
          refine lv_aload_n hx hb d_MO_value_286 rfl (lv_at hl 1 rfl) ?_
          refine lv_iload_n hx hb d_MO_value_287 rfl (lv_at hl 0 rfl) ?_
          refine lv_iload_n hx hb d_MO_value_288 rfl (lv_at hl 3 rfl) ?_
          obtain ⟨q11, hq12, hf⟩ := mz_bd hf
          refine mz_callV E w (k := 0) (As := [.int ((mz_gI q6 0 67) - (1 : Int32)), .int x2]) (rest := []) (c_MO_product hSK l n ((mz_gI q6 0 67) - (1 : Int32)) x2 q6 q11 hq12) (by decide) rfl rfl k_1585 k_15 k_1582 k_1584 ks_76 hm_MO_product ⟨⟨rfl, rfl⟩, Nat.le_of_ble_eq_true rfl, Nat.le_of_ble_eq_true rfl⟩ rfl hl.1 rfl (Nat.le_of_ble_eq_true rfl) d_MO_value_289 ⟨Nat.zero_le _, Nat.zero_le _⟩ (st1 := [.int q11.1]) rfl (fun H locs w => ?_)
          refine lv_istore_n (lv' := [(2, .int q11.1), (3, .int ((mz_gI q6 0 67) - (1 : Int32))), (0, .ref (ad 0)), (1, .int x1)]) hx hb d_MO_value_292 rfl hl (by decide) rfl (fun ls hl => ?_)
          refine lv_aload_n hx hb d_MO_value_293 rfl (lv_at hl 2 rfl) ?_
          refine mz_get E w 0 71 (v := .ref (ad 47)) (by decide) rfl rfl ii_11 (by decide) (Nat.le_of_ble_eq_true rfl) k_1254 rfl d_MO_value_294 ?_
          refine lv_iload_n hx hb d_MO_value_297 rfl (lv_at hl 1 rfl) ?_
          refine lv_iconst (v := (0 : Int32)) hx hb d_MO_value_298 (by decide) ?_
          obtain ⟨hi13, hf⟩ := mz_gd hf
          refine mz_iast E w 47 (x := (0 : Int32)) (by decide) rfl hi13 d_MO_value_299 (fun H locs w => ?_)
          obtain ⟨t14, e_t14, hf⟩ := mz_lt hf
          rw [← e_t14] at w
          refine lv_aload_n hx hb d_MO_value_300 rfl (lv_at hl 2 rfl) ?_
          obtain ⟨q15, hq16, hf⟩ := mz_bd hf
          refine mz_callV E w (k := 0) (As := []) (rest := []) (c_MO_here hSK l n t14 q15 hq16) (by decide) rfl rfl k_1553 k_15 k_1550 k_1552 ks_68 hm_MO_here ⟨⟨rfl, rfl⟩, Nat.le_of_ble_eq_true rfl, Nat.le_of_ble_eq_true rfl⟩ rfl hl.1 rfl (Nat.le_of_ble_eq_true rfl) d_MO_value_301 ⟨Nat.zero_le _, Nat.zero_le _⟩ (st1 := [.int q15.1]) rfl (fun H locs w => ?_)
          refine lv_istore (lv' := [(4, .int q15.1), (2, .int q11.1), (3, .int ((mz_gI q6 0 67) - (1 : Int32))), (0, .ref (ad 0)), (1, .int x1)]) hx hb d_MO_value_304 hl (by decide) rfl (fun ls hl => ?_)
          refine lv_iload hx hb d_MO_value_306 (lv_at hl 0 rfl) ?_
          refine lv_bipush (v := (42 : Int32)) hx hb d_MO_value_308 (by decide) ?_
          refine lv_icmp_eq (tgt := 327) hx hb d_MO_value_310 (by decide) (fun hc17 => ?_) (fun hc17 => ?_)
          · have hf := mz_t hc17 hf
            exact b_MO_value_327 E n (f_MO_value_19 n k) ih q11.1 ((mz_gI q6 0 67) - (1 : Int32)) q15.1 q15.2 hf _ _ _ w (lv_sub hl [3, 1, 2, 0] rfl)
          · have hf := mz_f hc17 hf
            refine lv_iload hx hb d_MO_value_313 (lv_at hl 0 rfl) ?_
            refine lv_bipush (v := (47 : Int32)) hx hb d_MO_value_315 (by decide) ?_
            refine lv_icmp_eq (tgt := 327) hx hb d_MO_value_317 (by decide) (fun hc23 => ?_) (fun hc23 => ?_)
            · have hf := mz_t hc23 hf
              exact b_MO_value_327 E n (f_MO_value_19 n k) ih q11.1 ((mz_gI q6 0 67) - (1 : Int32)) q15.1 q15.2 hf _ _ _ w (lv_sub hl [3, 1, 2, 0] rfl)
            · have hf := mz_f hc23 hf
              refine lv_iload hx hb d_MO_value_320 (lv_at hl 0 rfl) ?_
              refine lv_bipush (v := (37 : Int32)) hx hb d_MO_value_322 (by decide) ?_
              refine lv_icmp_ne (tgt := 357) hx hb d_MO_value_324 (by decide) (fun hc24 => ?_) (fun hc24 => ?_)
              · have hf := mz_f hc24 hf
                refine lv_aload_n hx hb d_MO_value_357 rfl (lv_at hl 3 rfl) ?_
                refine lv_iload_n hx hb d_MO_value_358 rfl (lv_at hl 2 rfl) ?_
                refine lv_iload_n hx hb d_MO_value_359 rfl (lv_at hl 1 rfl) ?_
                obtain ⟨q25, hq26, hf⟩ := mz_bd hf
                refine mz_callV E w (k := 0) (As := [.int ((mz_gI q6 0 67) - (1 : Int32)), .int q11.1]) (rest := []) (c_MO_sum hSK l n ((mz_gI q6 0 67) - (1 : Int32)) q11.1 q15.2 q25 hq26) (by decide) rfl rfl k_1593 k_15 k_1590 k_1592 ks_78 hm_MO_sum ⟨⟨rfl, rfl⟩, Nat.le_of_ble_eq_true rfl, Nat.le_of_ble_eq_true rfl⟩ rfl hl.1 rfl (Nat.le_of_ble_eq_true rfl) d_MO_value_360 ⟨Nat.zero_le _, Nat.zero_le _⟩ (st1 := [.int q25.1]) rfl (fun H locs w => ?_)
                refine lv_istore_n (lv' := [(2, .int q25.1), (4, .int q15.1), (3, .int ((mz_gI q6 0 67) - (1 : Int32))), (0, .ref (ad 0)), (1, .int x1)]) hx hb d_MO_value_363 rfl hl (by decide) rfl (fun ls hl => ?_)
                refine lv_aload_n hx hb d_MO_value_364 rfl (lv_at hl 3 rfl) ?_
                refine mz_get E w 0 70 (v := .ref (ad 46)) (by decide) rfl rfl ii_11 (by decide) (Nat.le_of_ble_eq_true rfl) k_1253 rfl d_MO_value_365 ?_
                refine lv_iload_n hx hb d_MO_value_368 rfl (lv_at hl 2 rfl) ?_
                refine lv_iconst (v := (0 : Int32)) hx hb d_MO_value_369 (by decide) ?_
                obtain ⟨hi27, hf⟩ := mz_gd hf
                refine mz_iast E w 46 (x := (0 : Int32)) (by decide) rfl hi27 d_MO_value_370 (fun H locs w => ?_)
                obtain ⟨t28, e_t28, hf⟩ := mz_lt hf
                rw [← e_t28] at w
                refine lv_iload hx hb d_MO_value_371 (lv_at hl 1 rfl) ?_
                refine lv_bipush (v := (43 : Int32)) hx hb d_MO_value_373 (by decide) ?_
                refine lv_icmp_eq (tgt := 385) hx hb d_MO_value_375 (by decide) (fun hc29 => ?_) (fun hc29 => ?_)
                · have hf := mz_t hc29 hf
                  exact b_MO_value_385 E n (f_MO_value_19 n k) ih q25.1 ((mz_gI q6 0 67) - (1 : Int32)) q15.1 t28 hf _ _ _ w (lv_sub hl [3, 0, 2, 1] rfl)
                · have hf := mz_f hc29 hf
                  refine lv_iload hx hb d_MO_value_378 (lv_at hl 1 rfl) ?_
                  refine lv_bipush (v := (45 : Int32)) hx hb d_MO_value_380 (by decide) ?_
                  refine lv_icmp_ne (tgt := 415) hx hb d_MO_value_382 (by decide) (fun hc35 => ?_) (fun hc35 => ?_)
                  · have hf := mz_f hc35 hf
                    refine lv_aload_n hx hb d_MO_value_415 rfl (lv_at hl 3 rfl) ?_
                    refine mz_get E w 0 69 (v := .ref (ad 45)) (by decide) rfl rfl ii_11 (by decide) (Nat.le_of_ble_eq_true rfl) k_1252 rfl d_MO_value_416 ?_
                    refine lv_iload_n hx hb d_MO_value_419 rfl (lv_at hl 2 rfl) ?_
                    obtain ⟨hi36, hf⟩ := mz_gd hf
                    refine mz_iald E w 45 (by decide) rfl hi36 d_MO_value_420 ?_
                    refine lv_if_ne (tgt := 431) hx hb d_MO_value_421 (by decide) (fun hc37 => ?_) (fun hc37 => ?_)
                    · have hf := mz_f hc37 hf
                      refine lv_iconst (v := (0 : Int32)) hx hb d_MO_value_431 (by decide) ?_
                      exact b_MO_value_432 E n (f_MO_value_19 n k) ih x1 q25.1 ((mz_gI q6 0 67) - (1 : Int32)) (0 : Int32) t28 hf _ _ _ w (lv_sub hl [3, 4, 0, 2] rfl)
                    · have hf := mz_t hc37 hf
                      refine lv_aload_n hx hb d_MO_value_424 rfl (lv_at hl 3 rfl) ?_
                      obtain ⟨q54, hq55, hf⟩ := mz_bd hf
                      refine mz_callV E w (k := 0) (As := []) (rest := []) (c_MO_comparison hSK l n t28 q54 hq55) (by decide) rfl rfl k_1597 k_15 k_1594 k_1596 ks_79 hm_MO_comparison ⟨⟨rfl, rfl⟩, Nat.le_of_ble_eq_true rfl, Nat.le_of_ble_eq_true rfl⟩ rfl hl.1 rfl (Nat.le_of_ble_eq_true rfl) d_MO_value_425 ⟨Nat.zero_le _, Nat.zero_le _⟩ (st1 := [.int q54.1]) rfl (fun H locs w => ?_)
                      refine lv_goto (tgt := 432) hx hb d_MO_value_428 (by decide) ?_
                      exact b_MO_value_432 E n (f_MO_value_19 n k) ih x1 q25.1 ((mz_gI q6 0 67) - (1 : Int32)) q54.1 q54.2 hf _ _ _ w (lv_sub hl [3, 4, 0, 2] rfl)
                  · have hf := mz_t hc35 hf
                    exact b_MO_value_385 E n (f_MO_value_19 n k) ih q25.1 ((mz_gI q6 0 67) - (1 : Int32)) q15.1 t28 hf _ _ _ w (lv_sub hl [3, 0, 2, 1] rfl)
              · have hf := mz_t hc24 hf
                exact b_MO_value_327 E n (f_MO_value_19 n k) ih q11.1 ((mz_gI q6 0 67) - (1 : Int32)) q15.1 q15.2 hf _ _ _ w (lv_sub hl [3, 1, 2, 0] rfl)
        · have hf := mz_t hc10 hf
          refine lv_aload_n hx hb d_MO_value_270 rfl (lv_at hl 1 rfl) ?_
          refine lv_dup hx hb d_MO_value_271 rfl ?_
          refine mz_get E w 0 67 (v := .int (mz_gI q6 0 67)) (by decide) rfl rfl ii_11 (by decide) (Nat.le_of_ble_eq_true rfl) k_1250 rfl d_MO_value_272 ?_
          refine lv_iconst (v := (1 : Int32)) hx hb d_MO_value_275 (by decide) ?_
          refine lv_isub hx hb d_MO_value_276 ?_
          refine mz_put E w 0 67 (v := ((mz_gI q6 0 67) - (1 : Int32))) (by decide) rfl rfl ii_11 tk_11 nm_11 (by decide) (Nat.le_of_ble_eq_true rfl) k_1250 rfl (tk_11 67 (by decide)) rfl rfl rfl d_MO_value_277 (fun H locs w => ?_)
          obtain ⟨t56, e_t56, hf⟩ := mz_lt hf
          rw [← e_t56] at w
          refine lv_iload_n hx hb d_MO_value_280 rfl (lv_at hl 3 rfl) ?_
          refine lv_ineg hx hb d_MO_value_281 ?_
          refine lv_istore_n (lv' := [(2, .int (-x2)), (3, .int ((mz_gI q6 0 67) - (1 : Int32))), (0, .ref (ad 0)), (1, .int x1)]) hx hb d_MO_value_282 rfl hl (by decide) rfl (fun ls hl => ?_)
          refine lv_goto (tgt := 19) hx hb d_MO_value_283 (by decide) ?_
          exact ih x1 (-x2) t56 hf _ _ _ w (lv_sub hl [2, 3, 0] rfl)
      · have hf := mz_t hc8 hf
        refine lv_aload_n hx hb d_MO_value_41 rfl (lv_at hl 1 rfl) ?_
        obtain ⟨q57, hq58, hf⟩ := mz_bd hf
        refine mz_callV E w (k := 0) (As := []) (rest := []) (c_MO_here hSK l n q6 q57 hq58) (by decide) rfl rfl k_1553 k_15 k_1550 k_1552 ks_68 hm_MO_here ⟨⟨rfl, rfl⟩, Nat.le_of_ble_eq_true rfl, Nat.le_of_ble_eq_true rfl⟩ rfl hl.1 rfl (Nat.le_of_ble_eq_true rfl) d_MO_value_42 ⟨Nat.zero_le _, Nat.zero_le _⟩ (st1 := [.int q57.1]) rfl (fun H locs w => ?_)
        refine lv_istore (lv' := [(4, .int q57.1), (3, .int ((mz_gI q6 0 67) - (1 : Int32))), (0, .ref (ad 0)), (1, .int x1), (2, .int x2)]) hx hb d_MO_value_45 hl (by decide) rfl (fun ls hl => ?_)
        refine lv_iload hx hb d_MO_value_47 (lv_at hl 0 rfl) ?_
        refine lv_bipush (v := (40 : Int32)) hx hb d_MO_value_49 (by decide) ?_
        refine lv_icmp_eq (tgt := 61) hx hb d_MO_value_51 (by decide) (fun hc59 => ?_) (fun hc59 => ?_)
        · have hf := mz_t hc59 hf
          exact b_MO_value_61 E n (f_MO_value_19 n k) ih x1 x2 q57.1 q57.2 hf _ _ _ w (lv_sub hl [2, 3, 4, 0] rfl)
        · have hf := mz_f hc59 hf
          refine lv_iload hx hb d_MO_value_54 (lv_at hl 0 rfl) ?_
          refine lv_bipush (v := (45 : Int32)) hx hb d_MO_value_56 (by decide) ?_
          refine lv_icmp_ne (tgt := 115) hx hb d_MO_value_58 (by decide) (fun hc68 => ?_) (fun hc68 => ?_)
          · have hf := mz_f hc68 hf
            refine lv_iload hx hb d_MO_value_115 (lv_at hl 0 rfl) ?_
            obtain ⟨q69, hq70, hf⟩ := mz_bd hf
            refine mz_callS E w (As := [.int q57.1]) (rest := []) (c_MO_isDigit hSK l n q57.1 q57.2 q69 hq70) k_1488 k_15 k_1486 k_1487 hm_MO_isDigit ⟨⟨rfl, rfl⟩, Nat.le_of_ble_eq_true rfl, Nat.le_of_ble_eq_true rfl⟩ rfl hl.1 rfl (Nat.le_of_ble_eq_true rfl) d_MO_value_117 ⟨Nat.zero_le _, Nat.zero_le _⟩ (st1 := [.int q69.1]) rfl (fun H locs w => ?_)
            refine lv_if_eq (tgt := 133) hx hb d_MO_value_120 (by decide) (fun hc71 => ?_) (fun hc71 => ?_)
            · have hf := mz_t hc71 hf
              refine lv_iload hx hb d_MO_value_133 (lv_at hl 0 rfl) ?_
              refine lv_bipush (v := (63 : Int32)) hx hb d_MO_value_135 (by decide) ?_
              refine lv_icmp_ne (tgt := 144) hx hb d_MO_value_137 (by decide) (fun hc72 => ?_) (fun hc72 => ?_)
              · have hf := mz_f hc72 hf
                refine lv_iconst (v := (0 : Int32)) hx hb d_MO_value_144 (by decide) ?_
                exact b_MO_value_145 E n (f_MO_value_19 n k) ih (0 : Int32) q69.2 hf _ _ _ w (lv_sub hl [2] rfl)
              · have hf := mz_t hc72 hf
                refine lv_iconst (v := (1 : Int32)) hx hb d_MO_value_140 (by decide) ?_
                refine lv_goto (tgt := 145) hx hb d_MO_value_141 (by decide) ?_
                exact b_MO_value_145 E n (f_MO_value_19 n k) ih (1 : Int32) q69.2 hf _ _ _ w (lv_sub hl [2] rfl)
            · have hf := mz_f hc71 hf
              refine lv_aload_n hx hb d_MO_value_123 rfl (lv_at hl 2 rfl) ?_
              obtain ⟨q89, hq90, hf⟩ := mz_bd hf
              refine mz_callV E w (k := 0) (As := []) (rest := []) (c_MO_numberHere hSK l n q69.2 q89 hq90) (by decide) rfl rfl k_1573 k_15 k_1570 k_1572 ks_73 hm_MO_numberHere ⟨⟨rfl, rfl⟩, Nat.le_of_ble_eq_true rfl, Nat.le_of_ble_eq_true rfl⟩ rfl hl.1 rfl (Nat.le_of_ble_eq_true rfl) d_MO_value_124 ⟨Nat.zero_le _, Nat.zero_le _⟩ (st1 := [.int q89.1]) rfl (fun H locs w => ?_)
              refine lv_istore_n (lv' := [(2, .int q89.1), (4, .int q57.1), (3, .int ((mz_gI q6 0 67) - (1 : Int32))), (0, .ref (ad 0)), (1, .int x1)]) hx hb d_MO_value_127 rfl hl (by decide) rfl (fun ls hl => ?_)
              refine lv_iconst (v := (1 : Int32)) hx hb d_MO_value_128 (by decide) ?_
              refine lv_istore_n (lv' := [(1, .int (1 : Int32)), (2, .int q89.1), (4, .int q57.1), (3, .int ((mz_gI q6 0 67) - (1 : Int32))), (0, .ref (ad 0))]) hx hb d_MO_value_129 rfl hl (by decide) rfl (fun ls hl => ?_)
              refine lv_goto (tgt := 19) hx hb d_MO_value_130 (by decide) ?_
              exact ih (1 : Int32) q89.1 q89.2 hf _ _ _ w (lv_sub hl [4, 0, 1] rfl)
          · have hf := mz_t hc68 hf
            exact b_MO_value_61 E n (f_MO_value_19 n k) ih x1 x2 q57.1 q57.2 hf _ _ _ w (lv_sub hl [2, 3, 4, 0] rfl)
set_option maxRecDepth 100000 in
set_option maxHeartbeats 4000000 in
theorem c_MO_value {SX : State → Heap → Prop} {dC : Nat → ClassId} {dI : Nat → Nat → Nat} {ad en : Nat → Nat} {ca : Nat → ClassId} (hSK : mz_SK SX ad 55) (l : Launch) (n : Nat) (t : mz_St) (res : (Int32 × mz_St)) (hf : f_MO_value n t = some res) : mz_C SX mz_tM 55 mz_cl dC dI ad en ca l y_MO_value prog_15_method_36_code 7 (some (.int)) (r_MO_value) [.ref (ad 0)] t (some (.int res.1)) res.2 := by
  unfold f_MO_value at hf
  refine mz_met hSK (by decide) (Nat.le_of_ble_eq_true rfl) ?_
  intro p e s m args below meth c ls E w hl
  obtain ⟨hx, hb, hml, hown, hcx, -, -, hSX, -, -, -⟩ := id E
  have hl : lv_has ls 7 [(0, .ref (ad 0))] := hl
  refine lv_aload_n hx hb d_MO_value_0 rfl (lv_at hl 0 rfl) ?_
  refine lv_iconst (v := (0 : Int32)) hx hb d_MO_value_1 (by decide) ?_
  refine mz_put E w 0 67 (v := (0 : Int32)) (by decide) rfl rfl ii_11 tk_11 nm_11 (by decide) (Nat.le_of_ble_eq_true rfl) k_1250 rfl (tk_11 67 (by decide)) rfl rfl rfl d_MO_value_2 (fun H locs w => ?_)
  obtain ⟨t1, e_t1, hf⟩ := mz_lt hf
  rw [← e_t1] at w
  refine lv_aload_n hx hb d_MO_value_5 rfl (lv_at hl 0 rfl) ?_
  refine lv_iconst (v := (0 : Int32)) hx hb d_MO_value_6 (by decide) ?_
  obtain ⟨q2, hq3, hf⟩ := mz_bd hf
  refine mz_callV E w (k := 0) (As := [.int (0 : Int32)]) (rest := []) (c_MO_opens hSK l n (0 : Int32) t1 q2 hq3) (by decide) rfl rfl k_1569 k_15 k_1566 k_1568 ks_72 hm_MO_opens ⟨⟨rfl, rfl⟩, Nat.le_of_ble_eq_true rfl, Nat.le_of_ble_eq_true rfl⟩ rfl hl.1 rfl (Nat.le_of_ble_eq_true rfl) d_MO_value_7 ⟨Nat.zero_le _, Nat.zero_le _⟩ (st1 := []) rfl (fun H locs w => ?_)
  refine lv_aload_n hx hb d_MO_value_10 rfl (lv_at hl 0 rfl) ?_
  refine lv_iconst (v := (0 : Int32)) hx hb d_MO_value_11 (by decide) ?_
  refine mz_put E w 0 64 (v := (0 : Int32)) (by decide) rfl rfl ii_11 tk_11 nm_11 (by decide) (Nat.le_of_ble_eq_true rfl) k_1247 rfl (tk_11 64 (by decide)) rfl rfl rfl d_MO_value_12 (fun H locs w => ?_)
  obtain ⟨t4, e_t4, hf⟩ := mz_lt hf
  rw [← e_t4] at w
  refine lv_iconst (v := (0 : Int32)) hx hb d_MO_value_15 (by decide) ?_
  refine lv_istore_n (lv' := [(1, .int (0 : Int32)), (0, .ref (ad 0))]) hx hb d_MO_value_16 rfl hl (by decide) rfl (fun ls hl => ?_)
  refine lv_iconst (v := (0 : Int32)) hx hb d_MO_value_17 (by decide) ?_
  refine lv_istore_n (lv' := [(2, .int (0 : Int32)), (1, .int (0 : Int32)), (0, .ref (ad 0))]) hx hb d_MO_value_18 rfl hl (by decide) rfl (fun ls hl => ?_)
  exact b_MO_value_19 E n n (0 : Int32) (0 : Int32) t4 hf _ _ _ w (lv_sub hl [2, 1, 0] rfl)

/-! MacroHouseModel.lineEnds()V -/
abbrev r_MO_lineEnds : Room := { frames := 2, cells := 0, slots := 0, locals := 40 }
def f_MO_lineEnds_28 (n : Nat) (s1 : Int32) (t : mz_St) : Option mz_St := if s1 = 0 ∨ s1 = 1 then (mz_let (mz_pI t 0 62 s1) fun t5 => some t5) else none
def f_MO_lineEnds_27 (n : Nat) (t : mz_St) : Option mz_St := f_MO_lineEnds_28 n (0 : Int32) t
def f_MO_lineEnds (n : Nat) (t : mz_St) : Option mz_St := (f_MO_blanks n t).bind fun q1 => if (mz_gI q1 0 62) = 0 then (f_MO_lineEnds_27 n  q1) else (if (mz_gI q1 0 61) < (mz_gI q1 0 60) then (f_MO_lineEnds_27 n  q1) else (f_MO_lineEnds_28 n (1 : Int32) q1))
set_option maxRecDepth 100000 in
set_option maxHeartbeats 4000000 in
theorem b_MO_lineEnds_28 {SX : State → Heap → Prop} {dC : Nat → ClassId} {dI : Nat → Nat → Nat} {ad en : Nat → Nat} {ca : Nat → ClassId} {p : Program} {l : Launch} {e : Env} {s : State} {m : MethodId} {args : Array Value} {below : List Frame} {meth : Method} {c : Code} {res : mz_St} (E : mz_En SX 55 mz_cl dC dI ad ca p s m meth c prog_15_method_26_code 1 "MacroHouseModel" none) (n : Nat) : ∀ (s1 : Int32) (t : mz_St), f_MO_lineEnds_28 n s1 t = some res → ∀ (H : Heap) (locs : List Loc) (ls : Array Slot), mz_Wd mz_tM 55 mz_cl dC dI ad en ca s t H locs → lv_has ls 1 [] → W p l e (r_MO_lineEnds) s m args below meth c H locs 0 0 (MQ below (mz_Q SX mz_tM 55 mz_cl dC dI ad en ca none res) args s 0 0 (mz_A ad 55)) (F0 m 28 ls [.int s1, .ref (ad 0)]) := by
  obtain ⟨hx, hb, hml, hown, hcx, -, -, hSX, -, -, hSK⟩ := id E
  intro s1 t hf H locs ls w hl
  unfold f_MO_lineEnds_28 at hf
  obtain ⟨hz4, hf⟩ := mz_gd hf
  refine mz_put E w 0 62 (v := s1) (by decide) rfl rfl ii_11 tk_11 nm_11 (by decide) (Nat.le_of_ble_eq_true rfl) k_1245 rfl (tk_11 62 (by decide)) rfl (mz_b01 hz4) (mz_f01 hz4) d_MO_lineEnds_28 (fun H locs w => ?_)
  obtain ⟨t5, e_t5, hf⟩ := mz_lt hf
  rw [← e_t5] at w
  obtain rfl := Option.some.inj hf
  exact mz_vret E w rfl d_MO_lineEnds_31
set_option maxRecDepth 100000 in
set_option maxHeartbeats 4000000 in
theorem b_MO_lineEnds_27 {SX : State → Heap → Prop} {dC : Nat → ClassId} {dI : Nat → Nat → Nat} {ad en : Nat → Nat} {ca : Nat → ClassId} {p : Program} {l : Launch} {e : Env} {s : State} {m : MethodId} {args : Array Value} {below : List Frame} {meth : Method} {c : Code} {res : mz_St} (E : mz_En SX 55 mz_cl dC dI ad ca p s m meth c prog_15_method_26_code 1 "MacroHouseModel" none) (n : Nat) : ∀ (t : mz_St), f_MO_lineEnds_27 n t = some res → ∀ (H : Heap) (locs : List Loc) (ls : Array Slot), mz_Wd mz_tM 55 mz_cl dC dI ad en ca s t H locs → lv_has ls 1 [] → W p l e (r_MO_lineEnds) s m args below meth c H locs 0 0 (MQ below (mz_Q SX mz_tM 55 mz_cl dC dI ad en ca none res) args s 0 0 (mz_A ad 55)) (F0 m 27 ls [.ref (ad 0)]) := by
  obtain ⟨hx, hb, hml, hown, hcx, -, -, hSX, -, -, hSK⟩ := id E
  intro t hf H locs ls w hl
  unfold f_MO_lineEnds_27 at hf
  refine lv_iconst (v := (0 : Int32)) hx hb d_MO_lineEnds_27 (by decide) ?_
  exact b_MO_lineEnds_28 E n (0 : Int32) t hf _ _ _ w (lv_sub hl [] rfl)
set_option maxRecDepth 100000 in
set_option maxHeartbeats 4000000 in
theorem c_MO_lineEnds {SX : State → Heap → Prop} {dC : Nat → ClassId} {dI : Nat → Nat → Nat} {ad en : Nat → Nat} {ca : Nat → ClassId} (hSK : mz_SK SX ad 55) (l : Launch) (n : Nat) (t : mz_St) (res : mz_St) (hf : f_MO_lineEnds n t = some res) : mz_C SX mz_tM 55 mz_cl dC dI ad en ca l y_MO_lineEnds prog_15_method_26_code 1 none (r_MO_lineEnds) [.ref (ad 0)] t none res := by
  unfold f_MO_lineEnds at hf
  refine mz_met hSK (by decide) (Nat.le_of_ble_eq_true rfl) ?_
  intro p e s m args below meth c ls E w hl
  obtain ⟨hx, hb, hml, hown, hcx, -, -, hSX, -, -, -⟩ := id E
  have hl : lv_has ls 1 [(0, .ref (ad 0))] := hl
  refine lv_aload_n hx hb d_MO_lineEnds_0 rfl (lv_at hl 0 rfl) ?_
  obtain ⟨q1, hq2, hf⟩ := mz_bd hf
  refine mz_callV E w (k := 0) (As := []) (rest := []) (c_MO_blanks hSK l n t q1 hq2) (by decide) rfl rfl k_1549 k_15 k_1546 k_1548 ks_67 hm_MO_blanks ⟨⟨rfl, rfl⟩, Nat.le_of_ble_eq_true rfl, Nat.le_of_ble_eq_true rfl⟩ rfl hl.1 rfl (Nat.le_of_ble_eq_true rfl) d_MO_lineEnds_1 ⟨Nat.zero_le _, Nat.zero_le _⟩ (st1 := []) rfl (fun H locs w => ?_)
  refine lv_aload_n hx hb d_MO_lineEnds_4 rfl (lv_at hl 0 rfl) ?_
  refine lv_aload_n hx hb d_MO_lineEnds_5 rfl (lv_at hl 0 rfl) ?_
  refine mz_get E w 0 62 (v := .int (mz_gI q1 0 62)) (by decide) rfl rfl ii_11 (by decide) (Nat.le_of_ble_eq_true rfl) k_1245 rfl d_MO_lineEnds_6 ?_
  refine lv_if_eq (tgt := 27) hx hb d_MO_lineEnds_9 (by decide) (fun hc3 => ?_) (fun hc3 => ?_)
  · have hf := mz_t hc3 hf
    exact b_MO_lineEnds_27 E n  q1 hf _ _ _ w (lv_sub hl [] rfl)
  · have hf := mz_f hc3 hf
    refine lv_aload_n hx hb d_MO_lineEnds_12 rfl (lv_at hl 0 rfl) ?_
    refine mz_get E w 0 61 (v := .int (mz_gI q1 0 61)) (by decide) rfl rfl ii_11 (by decide) (Nat.le_of_ble_eq_true rfl) k_1244 rfl d_MO_lineEnds_13 ?_
    refine lv_aload_n hx hb d_MO_lineEnds_16 rfl (lv_at hl 0 rfl) ?_
    refine mz_get E w 0 60 (v := .int (mz_gI q1 0 60)) (by decide) rfl rfl ii_11 (by decide) (Nat.le_of_ble_eq_true rfl) k_1243 rfl d_MO_lineEnds_17 ?_
    refine lv_icmp_lt (tgt := 27) hx hb d_MO_lineEnds_20 (by decide) (fun hc6 => ?_) (fun hc6 => ?_)
    · have hf := mz_t hc6 hf
      exact b_MO_lineEnds_27 E n  q1 hf _ _ _ w (lv_sub hl [] rfl)
    · have hf := mz_f hc6 hf
      refine lv_iconst (v := (1 : Int32)) hx hb d_MO_lineEnds_23 (by decide) ?_
      refine lv_goto (tgt := 28) hx hb d_MO_lineEnds_24 (by decide) ?_
      exact b_MO_lineEnds_28 E n (1 : Int32) q1 hf _ _ _ w (lv_sub hl [] rfl)

/-! MacroHouseModel.wholeValue()I -/
abbrev r_MO_wholeValue : Room := { frames := 4, cells := 0, slots := 0, locals := 93 }
def f_MO_wholeValue (n : Nat) (t : mz_St) : Option (Int32 × mz_St) := (f_MO_value n t).bind fun q1 => (f_MO_lineEnds n q1.2).bind fun q3 => if (mz_gI q3 0 62) = 0 then ((f_MO_fail n (1 : Int32) (mz_gI q3 0 63) q3).bind fun q9 => some (q1.1, q9)) else (if (mz_gI q3 0 64) ≤ 0 then (some (q1.1, q3)) else ((f_MO_fail n (mz_gI q3 0 64) (mz_gI q3 0 63) q3).bind fun q7 => some (q1.1, q7)))
set_option maxRecDepth 100000 in
set_option maxHeartbeats 4000000 in
theorem c_MO_wholeValue {SX : State → Heap → Prop} {dC : Nat → ClassId} {dI : Nat → Nat → Nat} {ad en : Nat → Nat} {ca : Nat → ClassId} (hSK : mz_SK SX ad 55) (l : Launch) (n : Nat) (t : mz_St) (res : (Int32 × mz_St)) (hf : f_MO_wholeValue n t = some res) : mz_C SX mz_tM 55 mz_cl dC dI ad en ca l y_MO_wholeValue prog_15_method_37_code 2 (some (.int)) (r_MO_wholeValue) [.ref (ad 0)] t (some (.int res.1)) res.2 := by
  unfold f_MO_wholeValue at hf
  refine mz_met hSK (by decide) (Nat.le_of_ble_eq_true rfl) ?_
  intro p e s m args below meth c ls E w hl
  obtain ⟨hx, hb, hml, hown, hcx, -, -, hSX, -, -, -⟩ := id E
  have hl : lv_has ls 2 [(0, .ref (ad 0))] := hl
  refine lv_aload_n hx hb d_MO_wholeValue_0 rfl (lv_at hl 0 rfl) ?_
  obtain ⟨q1, hq2, hf⟩ := mz_bd hf
  refine mz_callV E w (k := 0) (As := []) (rest := []) (c_MO_value hSK l n t q1 hq2) (by decide) rfl rfl k_1565 k_15 k_1562 k_1564 ks_71 hm_MO_value ⟨⟨rfl, rfl⟩, Nat.le_of_ble_eq_true rfl, Nat.le_of_ble_eq_true rfl⟩ rfl hl.1 rfl (Nat.le_of_ble_eq_true rfl) d_MO_wholeValue_1 ⟨Nat.zero_le _, Nat.zero_le _⟩ (st1 := [.int q1.1]) rfl (fun H locs w => ?_)
  refine lv_istore_n (lv' := [(1, .int q1.1), (0, .ref (ad 0))]) hx hb d_MO_wholeValue_4 rfl hl (by decide) rfl (fun ls hl => ?_)
  refine lv_aload_n hx hb d_MO_wholeValue_5 rfl (lv_at hl 1 rfl) ?_
  obtain ⟨q3, hq4, hf⟩ := mz_bd hf
  refine mz_callV E w (k := 0) (As := []) (rest := []) (c_MO_lineEnds hSK l n q1.2 q3 hq4) (by decide) rfl rfl k_1608 k_15 k_1605 k_1607 ks_81 hm_MO_lineEnds ⟨⟨rfl, rfl⟩, Nat.le_of_ble_eq_true rfl, Nat.le_of_ble_eq_true rfl⟩ rfl hl.1 rfl (Nat.le_of_ble_eq_true rfl) d_MO_wholeValue_6 ⟨Nat.zero_le _, Nat.zero_le _⟩ (st1 := []) rfl (fun H locs w => ?_)
  refine lv_aload_n hx hb d_MO_wholeValue_9 rfl (lv_at hl 1 rfl) ?_
  refine mz_get E w 0 62 (v := .int (mz_gI q3 0 62)) (by decide) rfl rfl ii_11 (by decide) (Nat.le_of_ble_eq_true rfl) k_1245 rfl d_MO_wholeValue_10 ?_
  refine lv_if_ne (tgt := 28) hx hb d_MO_wholeValue_13 (by decide) (fun hc5 => ?_) (fun hc5 => ?_)
  · have hf := mz_f hc5 hf
    refine lv_aload_n hx hb d_MO_wholeValue_28 rfl (lv_at hl 1 rfl) ?_
    refine mz_get E w 0 64 (v := .int (mz_gI q3 0 64)) (by decide) rfl rfl ii_11 (by decide) (Nat.le_of_ble_eq_true rfl) k_1247 rfl d_MO_wholeValue_29 ?_
    refine lv_if_le (tgt := 47) hx hb d_MO_wholeValue_32 (by decide) (fun hc6 => ?_) (fun hc6 => ?_)
    · have hf := mz_t hc6 hf
      refine lv_iload_n hx hb d_MO_wholeValue_47 rfl (lv_at hl 0 rfl) ?_
      obtain rfl := Option.some.inj hf
      exact mz_iret E w rfl d_MO_wholeValue_48
    · have hf := mz_f hc6 hf
      refine lv_aload_n hx hb d_MO_wholeValue_35 rfl (lv_at hl 1 rfl) ?_
      refine lv_aload_n hx hb d_MO_wholeValue_36 rfl (lv_at hl 1 rfl) ?_
      refine mz_get E w 0 64 (v := .int (mz_gI q3 0 64)) (by decide) rfl rfl ii_11 (by decide) (Nat.le_of_ble_eq_true rfl) k_1247 rfl d_MO_wholeValue_37 ?_
      refine lv_aload_n hx hb d_MO_wholeValue_40 rfl (lv_at hl 1 rfl) ?_
      refine mz_get E w 0 63 (v := .int (mz_gI q3 0 63)) (by decide) rfl rfl ii_11 (by decide) (Nat.le_of_ble_eq_true rfl) k_1246 rfl d_MO_wholeValue_41 ?_
      obtain ⟨q7, hq8, hf⟩ := mz_bd hf
      refine mz_callV E w (k := 0) (As := [.int (mz_gI q3 0 64), .int (mz_gI q3 0 63)]) (rest := []) (c_MO_fail hSK l n (mz_gI q3 0 64) (mz_gI q3 0 63) q3 q7 hq8) (by decide) rfl rfl k_1467 k_15 k_1464 k_1466 ks_53 hm_MO_fail ⟨⟨rfl, rfl⟩, Nat.le_of_ble_eq_true rfl, Nat.le_of_ble_eq_true rfl⟩ rfl hl.1 rfl (Nat.le_of_ble_eq_true rfl) d_MO_wholeValue_44 ⟨Nat.zero_le _, Nat.zero_le _⟩ (st1 := []) rfl (fun H locs w => ?_)
      refine lv_iload_n hx hb d_MO_wholeValue_47 rfl (lv_at hl 0 rfl) ?_
      obtain rfl := Option.some.inj hf
      exact mz_iret E w rfl d_MO_wholeValue_48
  · have hf := mz_t hc5 hf
    refine lv_aload_n hx hb d_MO_wholeValue_16 rfl (lv_at hl 1 rfl) ?_
    refine lv_iconst (v := (1 : Int32)) hx hb d_MO_wholeValue_17 (by decide) ?_
    refine lv_aload_n hx hb d_MO_wholeValue_18 rfl (lv_at hl 1 rfl) ?_
    refine mz_get E w 0 63 (v := .int (mz_gI q3 0 63)) (by decide) rfl rfl ii_11 (by decide) (Nat.le_of_ble_eq_true rfl) k_1246 rfl d_MO_wholeValue_19 ?_
    obtain ⟨q9, hq10, hf⟩ := mz_bd hf
    refine mz_callV E w (k := 0) (As := [.int (1 : Int32), .int (mz_gI q3 0 63)]) (rest := []) (c_MO_fail hSK l n (1 : Int32) (mz_gI q3 0 63) q3 q9 hq10) (by decide) rfl rfl k_1467 k_15 k_1464 k_1466 ks_53 hm_MO_fail ⟨⟨rfl, rfl⟩, Nat.le_of_ble_eq_true rfl, Nat.le_of_ble_eq_true rfl⟩ rfl hl.1 rfl (Nat.le_of_ble_eq_true rfl) d_MO_wholeValue_22 ⟨Nat.zero_le _, Nat.zero_le _⟩ (st1 := []) rfl (fun H locs w => ?_)
    refine lv_goto (tgt := 47) hx hb d_MO_wholeValue_25 (by decide) ?_
    refine lv_iload_n hx hb d_MO_wholeValue_47 rfl (lv_at hl 0 rfl) ?_
    obtain rfl := Option.some.inj hf
    exact mz_iret E w rfl d_MO_wholeValue_48

/-! MacroHouseModel.turn(II)V -/
abbrev r_MO_turn : Room := { frames := 5, cells := 0, slots := 0, locals := 114 }
def f_MO_turn_40 (n : Nat) (t : mz_St) : Option mz_St := (f_MO_fail n (5 : Int32) (mz_gI t 0 63) t).bind fun q3 => some q3
def f_MO_turn_195 (n : Nat) (x3 : Int32) (x6 : Int32) (s1 : Int32) (s2 : Int32) (t : mz_St) : Option mz_St := if ¬ (s1 < 0 ∨ 9 ≤ s1.toNatClampNeg) then (mz_let (mz_pI t 38 s1.toNatClampNeg (vp_nar .boolean s2)) fun t25 => if x6 = 0 then (if ¬ (x3 < 0 ∨ 9 ≤ x3.toNatClampNeg) then (mz_let (mz_pI t25 39 x3.toNatClampNeg (vp_nar .boolean (0 : Int32))) fun t28 => some t28) else none) else (if ¬ (x3 < 0 ∨ 9 ≤ x3.toNatClampNeg) then (mz_let (mz_pI t25 39 x3.toNatClampNeg (vp_nar .boolean (1 : Int32))) fun t30 => some t30) else none)) else none
def f_MO_turn_90 (n : Nat) (x1 : Int32) (x2 : Int32) (x3 : Int32) (s0 : Int32) (t : mz_St) : Option mz_St := if x1 = (5 : Int32) then (if ¬ (x3 < 0 ∨ 9 ≤ x3.toNatClampNeg) then (mz_let (mz_pI t 41 x3.toNatClampNeg (vp_nar .boolean (1 : Int32))) fun t34 => if ¬ (x3 < 0 ∨ 9 ≤ x3.toNatClampNeg) then (mz_let (mz_pI t34 38 x3.toNatClampNeg (vp_nar .boolean s0)) fun t36 => if ¬ (x3 < 0 ∨ 9 ≤ x3.toNatClampNeg) then (mz_let (mz_pI t36 39 x3.toNatClampNeg (vp_nar .boolean (1 : Int32))) fun t38 => some t38) else none) else none) else none) else (if ¬ (x3 < 0 ∨ 9 ≤ x3.toNatClampNeg) then (mz_let (mz_pI t 38 x3.toNatClampNeg (vp_nar .boolean (0 : Int32))) fun t11 => if s0 = 0 then (some t11) else ((f_MO_takeLine n x2 t11).bind fun q13 => if q13.1 ≤ 0 then ((f_MO_beginLine n q13.2).bind fun q16 => mz_let (mz_pI q16 0 61 ((mz_gI q16 0 61) + (1 : Int32))) fun t18 => (f_MO_word n t18).bind fun q19 => (f_MO_wholeValue n q19).bind fun q21 => if q21.1 = 0 then (f_MO_turn_195 n x3 q21.1 x3 (0 : Int32) q21.2) else (f_MO_turn_195 n x3 q21.1 x3 (1 : Int32) q21.2)) else ((f_MO_fail n q13.1 (mz_gI q13.2 0 63) q13.2).bind fun q31 => some q31))) else none)
def f_MO_turn_89 (n : Nat) (x1 : Int32) (x2 : Int32) (x3 : Int32) (t : mz_St) : Option mz_St := f_MO_turn_90 n x1 x2 x3 (0 : Int32) t
def f_MO_turn_50 (n : Nat) (x1 : Int32) (x2 : Int32) (x3 : Int32) (t : mz_St) : Option mz_St := if x1 = (7 : Int32) then (mz_let (mz_pI t 0 53 ((mz_gI t 0 53) - (1 : Int32))) fun t41 => some t41) else (if ¬ (x3 < 0 ∨ 9 ≤ x3.toNatClampNeg) then (if (mz_gI t 40 x3.toNatClampNeg) = 0 then (if ¬ (x3 < 0 ∨ 9 ≤ x3.toNatClampNeg) then (if (mz_gI t 39 x3.toNatClampNeg) = 0 then (f_MO_turn_90 n x1 x2 x3 (1 : Int32) t) else (f_MO_turn_89 n x1 x2 x3 t)) else none) else (f_MO_turn_89 n x1 x2 x3 t)) else none)
def f_MO_turn (n : Nat) (x1 : Int32) (x2 : Int32) (t : mz_St) : Option mz_St := if ¬ (((mz_gI t 0 34) - (1 : Int32)) < 0 ∨ 14 ≤ ((mz_gI t 0 34) - (1 : Int32)).toNatClampNeg) then (if (mz_gI t 0 53) = (mz_gI t 30 ((mz_gI t 0 34) - (1 : Int32)).toNatClampNeg) then (f_MO_turn_40 n  t) else (if x1 = (7 : Int32) then (f_MO_turn_50 n x1 x2 ((mz_gI t 0 53) - (1 : Int32)) t) else (if ¬ (((mz_gI t 0 53) - (1 : Int32)) < 0 ∨ 9 ≤ ((mz_gI t 0 53) - (1 : Int32)).toNatClampNeg) then (if (mz_gI t 41 ((mz_gI t 0 53) - (1 : Int32)).toNatClampNeg) = 0 then (f_MO_turn_50 n x1 x2 ((mz_gI t 0 53) - (1 : Int32)) t) else (f_MO_turn_40 n  t)) else none))) else none
set_option maxRecDepth 100000 in
set_option maxHeartbeats 4000000 in
theorem b_MO_turn_40 {SX : State → Heap → Prop} {dC : Nat → ClassId} {dI : Nat → Nat → Nat} {ad en : Nat → Nat} {ca : Nat → ClassId} {p : Program} {l : Launch} {e : Env} {s : State} {m : MethodId} {args : Array Value} {below : List Frame} {meth : Method} {c : Code} {res : mz_St} (E : mz_En SX 55 mz_cl dC dI ad ca p s m meth c prog_15_method_53_code 7 "MacroHouseModel" none) (n : Nat) : ∀ (t : mz_St), f_MO_turn_40 n t = some res → ∀ (H : Heap) (locs : List Loc) (ls : Array Slot), mz_Wd mz_tM 55 mz_cl dC dI ad en ca s t H locs → lv_has ls 7 [(0, .ref (ad 0))] → W p l e (r_MO_turn) s m args below meth c H locs 0 0 (MQ below (mz_Q SX mz_tM 55 mz_cl dC dI ad en ca none res) args s 0 0 (mz_A ad 55)) (F0 m 40 ls []) := by
  obtain ⟨hx, hb, hml, hown, hcx, -, -, hSX, -, -, hSK⟩ := id E
  intro t hf H locs ls w hl
  unfold f_MO_turn_40 at hf
  refine lv_aload_n hx hb d_MO_turn_40 rfl (lv_at hl 0 rfl) ?_
  refine lv_iconst (v := (5 : Int32)) hx hb d_MO_turn_41 (by decide) ?_
  refine lv_aload_n hx hb d_MO_turn_42 rfl (lv_at hl 0 rfl) ?_
  refine mz_get E w 0 63 (v := .int (mz_gI t 0 63)) (by decide) rfl rfl ii_11 (by decide) (Nat.le_of_ble_eq_true rfl) k_1246 rfl d_MO_turn_43 ?_
  obtain ⟨q3, hq4, hf⟩ := mz_bd hf
  refine mz_callV E w (k := 0) (As := [.int (5 : Int32), .int (mz_gI t 0 63)]) (rest := []) (c_MO_fail hSK l n (5 : Int32) (mz_gI t 0 63) t q3 hq4) (by decide) rfl rfl k_1467 k_15 k_1464 k_1466 ks_53 hm_MO_fail ⟨⟨rfl, rfl⟩, Nat.le_of_ble_eq_true rfl, Nat.le_of_ble_eq_true rfl⟩ rfl hl.1 rfl (Nat.le_of_ble_eq_true rfl) d_MO_turn_46 ⟨Nat.zero_le _, Nat.zero_le _⟩ (st1 := []) rfl (fun H locs w => ?_)
  obtain rfl := Option.some.inj hf
  exact mz_vret E w rfl d_MO_turn_49
set_option maxRecDepth 100000 in
set_option maxHeartbeats 4000000 in
theorem b_MO_turn_195 {SX : State → Heap → Prop} {dC : Nat → ClassId} {dI : Nat → Nat → Nat} {ad en : Nat → Nat} {ca : Nat → ClassId} {p : Program} {l : Launch} {e : Env} {s : State} {m : MethodId} {args : Array Value} {below : List Frame} {meth : Method} {c : Code} {res : mz_St} (E : mz_En SX 55 mz_cl dC dI ad ca p s m meth c prog_15_method_53_code 7 "MacroHouseModel" none) (n : Nat) : ∀ (x3 : Int32) (x6 : Int32) (s1 : Int32) (s2 : Int32) (t : mz_St), f_MO_turn_195 n x3 x6 s1 s2 t = some res → ∀ (H : Heap) (locs : List Loc) (ls : Array Slot), mz_Wd mz_tM 55 mz_cl dC dI ad en ca s t H locs → lv_has ls 7 [(0, .ref (ad 0)), (3, .int x3), (6, .int x6)] → W p l e (r_MO_turn) s m args below meth c H locs 0 0 (MQ below (mz_Q SX mz_tM 55 mz_cl dC dI ad en ca none res) args s 0 0 (mz_A ad 55)) (F0 m 195 ls [.int s2, .int s1, .ref (ad 38)]) := by
  obtain ⟨hx, hb, hml, hown, hcx, -, -, hSX, -, -, hSK⟩ := id E
  intro x3 x6 s1 s2 t hf H locs ls w hl
  unfold f_MO_turn_195 at hf
  obtain ⟨hi24, hf⟩ := mz_gd hf
  refine mz_zast E w 38 (x := s2) (by decide) rfl hi24 d_MO_turn_195 (fun H locs w => ?_)
  obtain ⟨t25, e_t25, hf⟩ := mz_lt hf
  rw [← e_t25] at w
  refine lv_aload_n hx hb d_MO_turn_196 rfl (lv_at hl 0 rfl) ?_
  refine mz_get E w 0 55 (v := .ref (ad 39)) (by decide) rfl rfl ii_11 (by decide) (Nat.le_of_ble_eq_true rfl) k_1238 rfl d_MO_turn_197 ?_
  refine lv_iload_n hx hb d_MO_turn_200 rfl (lv_at hl 1 rfl) ?_
  refine lv_iload hx hb d_MO_turn_201 (lv_at hl 2 rfl) ?_
  refine lv_if_eq (tgt := 210) hx hb d_MO_turn_203 (by decide) (fun hc26 => ?_) (fun hc26 => ?_)
  · have hf := mz_t hc26 hf
    refine lv_iconst (v := (0 : Int32)) hx hb d_MO_turn_210 (by decide) ?_
    obtain ⟨hi27, hf⟩ := mz_gd hf
    refine mz_zast E w 39 (x := (0 : Int32)) (by decide) rfl hi27 d_MO_turn_211 (fun H locs w => ?_)
    obtain ⟨t28, e_t28, hf⟩ := mz_lt hf
    rw [← e_t28] at w
    obtain rfl := Option.some.inj hf
    exact mz_vret E w rfl d_MO_turn_212
  · have hf := mz_f hc26 hf
    refine lv_iconst (v := (1 : Int32)) hx hb d_MO_turn_206 (by decide) ?_
    refine lv_goto (tgt := 211) hx hb d_MO_turn_207 (by decide) ?_
    obtain ⟨hi29, hf⟩ := mz_gd hf
    refine mz_zast E w 39 (x := (1 : Int32)) (by decide) rfl hi29 d_MO_turn_211 (fun H locs w => ?_)
    obtain ⟨t30, e_t30, hf⟩ := mz_lt hf
    rw [← e_t30] at w
    obtain rfl := Option.some.inj hf
    exact mz_vret E w rfl d_MO_turn_212
set_option maxRecDepth 100000 in
set_option maxHeartbeats 4000000 in
theorem b_MO_turn_90 {SX : State → Heap → Prop} {dC : Nat → ClassId} {dI : Nat → Nat → Nat} {ad en : Nat → Nat} {ca : Nat → ClassId} {p : Program} {l : Launch} {e : Env} {s : State} {m : MethodId} {args : Array Value} {below : List Frame} {meth : Method} {c : Code} {res : mz_St} (E : mz_En SX 55 mz_cl dC dI ad ca p s m meth c prog_15_method_53_code 7 "MacroHouseModel" none) (n : Nat) : ∀ (x1 : Int32) (x2 : Int32) (x3 : Int32) (s0 : Int32) (t : mz_St), f_MO_turn_90 n x1 x2 x3 s0 t = some res → ∀ (H : Heap) (locs : List Loc) (ls : Array Slot), mz_Wd mz_tM 55 mz_cl dC dI ad en ca s t H locs → lv_has ls 7 [(0, .ref (ad 0)), (1, .int x1), (2, .int x2), (3, .int x3)] → W p l e (r_MO_turn) s m args below meth c H locs 0 0 (MQ below (mz_Q SX mz_tM 55 mz_cl dC dI ad en ca none res) args s 0 0 (mz_A ad 55)) (F0 m 90 ls [.int s0]) := by
  obtain ⟨hx, hb, hml, hown, hcx, -, -, hSX, -, -, hSK⟩ := id E
  intro x1 x2 x3 s0 t hf H locs ls w hl
  unfold f_MO_turn_90 at hf
  refine lv_istore (lv' := [(4, .int s0), (0, .ref (ad 0)), (1, .int x1), (2, .int x2), (3, .int x3)]) hx hb d_MO_turn_90 hl (by decide) rfl (fun ls hl => ?_)
  refine lv_iload_n hx hb d_MO_turn_92 rfl (lv_at hl 2 rfl) ?_
  refine lv_iconst (v := (5 : Int32)) hx hb d_MO_turn_93 (by decide) ?_
  refine lv_icmp_ne (tgt := 120) hx hb d_MO_turn_94 (by decide) (fun hc9 => ?_) (fun hc9 => ?_)
  · have hf := mz_f hc9 hf
    refine lv_aload_n hx hb d_MO_turn_120 rfl (lv_at hl 1 rfl) ?_
    refine mz_get E w 0 54 (v := .ref (ad 38)) (by decide) rfl rfl ii_11 (by decide) (Nat.le_of_ble_eq_true rfl) k_1237 rfl d_MO_turn_121 ?_
    refine lv_iload_n hx hb d_MO_turn_124 rfl (lv_at hl 4 rfl) ?_
    refine lv_iconst (v := (0 : Int32)) hx hb d_MO_turn_125 (by decide) ?_
    obtain ⟨hi10, hf⟩ := mz_gd hf
    refine mz_zast E w 38 (x := (0 : Int32)) (by decide) rfl hi10 d_MO_turn_126 (fun H locs w => ?_)
    obtain ⟨t11, e_t11, hf⟩ := mz_lt hf
    rw [← e_t11] at w
    refine lv_iload hx hb d_MO_turn_127 (lv_at hl 0 rfl) ?_
    refine lv_if_ne (tgt := 133) hx hb d_MO_turn_129 (by decide) (fun hc12 => ?_) (fun hc12 => ?_)
    · have hf := mz_f hc12 hf
      refine lv_aload_n hx hb d_MO_turn_133 rfl (lv_at hl 1 rfl) ?_
      refine lv_iload_n hx hb d_MO_turn_134 rfl (lv_at hl 3 rfl) ?_
      obtain ⟨q13, hq14, hf⟩ := mz_bd hf
      refine mz_callV E w (k := 0) (As := [.int x2]) (rest := []) (c_MO_takeLine hSK l n x2 t11 q13 hq14) (by decide) rfl rfl k_1517 k_15 k_1514 k_1516 ks_59 hm_MO_takeLine ⟨⟨rfl, rfl⟩, Nat.le_of_ble_eq_true rfl, Nat.le_of_ble_eq_true rfl⟩ rfl hl.1 rfl (Nat.le_of_ble_eq_true rfl) d_MO_turn_135 ⟨Nat.zero_le _, Nat.zero_le _⟩ (st1 := [.int q13.1]) rfl (fun H locs w => ?_)
      refine lv_istore (lv' := [(5, .int q13.1), (4, .int s0), (0, .ref (ad 0)), (1, .int x1), (2, .int x2), (3, .int x3)]) hx hb d_MO_turn_138 hl (by decide) rfl (fun ls hl => ?_)
      refine lv_iload hx hb d_MO_turn_140 (lv_at hl 0 rfl) ?_
      refine lv_if_le (tgt := 156) hx hb d_MO_turn_142 (by decide) (fun hc15 => ?_) (fun hc15 => ?_)
      · have hf := mz_t hc15 hf
        refine lv_aload_n hx hb d_MO_turn_156 rfl (lv_at hl 2 rfl) ?_
        obtain ⟨q16, hq17, hf⟩ := mz_bd hf
        refine mz_callV E w (k := 0) (As := []) (rest := []) (c_MO_beginLine hSK l n q13.2 q16 hq17) (by decide) rfl rfl k_1545 k_15 k_1542 k_1544 ks_66 hm_MO_beginLine ⟨⟨rfl, rfl⟩, Nat.le_of_ble_eq_true rfl, Nat.le_of_ble_eq_true rfl⟩ rfl hl.1 rfl (Nat.le_of_ble_eq_true rfl) d_MO_turn_157 ⟨Nat.zero_le _, Nat.zero_le _⟩ (st1 := []) rfl (fun H locs w => ?_)
        refine lv_aload_n hx hb d_MO_turn_160 rfl (lv_at hl 2 rfl) ?_
        refine lv_dup hx hb d_MO_turn_161 rfl ?_
        refine mz_get E w 0 61 (v := .int (mz_gI q16 0 61)) (by decide) rfl rfl ii_11 (by decide) (Nat.le_of_ble_eq_true rfl) k_1244 rfl d_MO_turn_162 ?_
        refine lv_iconst (v := (1 : Int32)) hx hb d_MO_turn_165 (by decide) ?_
        refine lv_iadd hx hb d_MO_turn_166 ?_
        refine mz_put E w 0 61 (v := ((mz_gI q16 0 61) + (1 : Int32))) (by decide) rfl rfl ii_11 tk_11 nm_11 (by decide) (Nat.le_of_ble_eq_true rfl) k_1244 rfl (tk_11 61 (by decide)) rfl rfl rfl d_MO_turn_167 (fun H locs w => ?_)
        obtain ⟨t18, e_t18, hf⟩ := mz_lt hf
        rw [← e_t18] at w
        refine lv_aload_n hx hb d_MO_turn_170 rfl (lv_at hl 2 rfl) ?_
        obtain ⟨q19, hq20, hf⟩ := mz_bd hf
        refine mz_callV E w (k := 0) (As := []) (rest := []) (c_MO_word hSK l n t18 q19 hq20) (by decide) rfl rfl k_1557 k_15 k_1554 k_1556 ks_69 hm_MO_word ⟨⟨rfl, rfl⟩, Nat.le_of_ble_eq_true rfl, Nat.le_of_ble_eq_true rfl⟩ rfl hl.1 rfl (Nat.le_of_ble_eq_true rfl) d_MO_turn_171 ⟨Nat.zero_le _, Nat.zero_le _⟩ (st1 := []) rfl (fun H locs w => ?_)
        refine lv_aload_n hx hb d_MO_turn_174 rfl (lv_at hl 2 rfl) ?_
        obtain ⟨q21, hq22, hf⟩ := mz_bd hf
        refine mz_callV E w (k := 0) (As := []) (rest := []) (c_MO_wholeValue hSK l n q19 q21 hq22) (by decide) rfl rfl k_1561 k_15 k_1558 k_1560 ks_70 hm_MO_wholeValue ⟨⟨rfl, rfl⟩, Nat.le_of_ble_eq_true rfl, Nat.le_of_ble_eq_true rfl⟩ rfl hl.1 rfl (Nat.le_of_ble_eq_true rfl) d_MO_turn_175 ⟨Nat.zero_le _, Nat.zero_le _⟩ (st1 := [.int q21.1]) rfl (fun H locs w => ?_)
        refine lv_istore (lv' := [(6, .int q21.1), (5, .int q13.1), (4, .int s0), (0, .ref (ad 0)), (1, .int x1), (2, .int x2), (3, .int x3)]) hx hb d_MO_turn_178 hl (by decide) rfl (fun ls hl => ?_)
        refine lv_aload_n hx hb d_MO_turn_180 rfl (lv_at hl 3 rfl) ?_
        refine mz_get E w 0 54 (v := .ref (ad 38)) (by decide) rfl rfl ii_11 (by decide) (Nat.le_of_ble_eq_true rfl) k_1237 rfl d_MO_turn_181 ?_
        refine lv_iload_n hx hb d_MO_turn_184 rfl (lv_at hl 6 rfl) ?_
        refine lv_iload hx hb d_MO_turn_185 (lv_at hl 0 rfl) ?_
        refine lv_if_eq (tgt := 194) hx hb d_MO_turn_187 (by decide) (fun hc23 => ?_) (fun hc23 => ?_)
        · have hf := mz_t hc23 hf
          refine lv_iconst (v := (0 : Int32)) hx hb d_MO_turn_194 (by decide) ?_
          exact b_MO_turn_195 E n x3 q21.1 x3 (0 : Int32) q21.2 hf _ _ _ w (lv_sub hl [3, 6, 0] rfl)
        · have hf := mz_f hc23 hf
          refine lv_iconst (v := (1 : Int32)) hx hb d_MO_turn_190 (by decide) ?_
          refine lv_goto (tgt := 195) hx hb d_MO_turn_191 (by decide) ?_
          exact b_MO_turn_195 E n x3 q21.1 x3 (1 : Int32) q21.2 hf _ _ _ w (lv_sub hl [3, 6, 0] rfl)
      · have hf := mz_f hc15 hf
        refine lv_aload_n hx hb d_MO_turn_145 rfl (lv_at hl 2 rfl) ?_
        refine lv_iload hx hb d_MO_turn_146 (lv_at hl 0 rfl) ?_
        refine lv_aload_n hx hb d_MO_turn_148 rfl (lv_at hl 2 rfl) ?_
        refine mz_get E w 0 63 (v := .int (mz_gI q13.2 0 63)) (by decide) rfl rfl ii_11 (by decide) (Nat.le_of_ble_eq_true rfl) k_1246 rfl d_MO_turn_149 ?_
        obtain ⟨q31, hq32, hf⟩ := mz_bd hf
        refine mz_callV E w (k := 0) (As := [.int q13.1, .int (mz_gI q13.2 0 63)]) (rest := []) (c_MO_fail hSK l n q13.1 (mz_gI q13.2 0 63) q13.2 q31 hq32) (by decide) rfl rfl k_1467 k_15 k_1464 k_1466 ks_53 hm_MO_fail ⟨⟨rfl, rfl⟩, Nat.le_of_ble_eq_true rfl, Nat.le_of_ble_eq_true rfl⟩ rfl hl.1 rfl (Nat.le_of_ble_eq_true rfl) d_MO_turn_152 ⟨Nat.zero_le _, Nat.zero_le _⟩ (st1 := []) rfl (fun H locs w => ?_)
        obtain rfl := Option.some.inj hf
        exact mz_vret E w rfl d_MO_turn_155
    · have hf := mz_t hc12 hf
      obtain rfl := Option.some.inj hf
      exact mz_vret E w rfl d_MO_turn_132
  · have hf := mz_t hc9 hf
    refine lv_aload_n hx hb d_MO_turn_97 rfl (lv_at hl 1 rfl) ?_
    refine mz_get E w 0 57 (v := .ref (ad 41)) (by decide) rfl rfl ii_11 (by decide) (Nat.le_of_ble_eq_true rfl) k_1240 rfl d_MO_turn_98 ?_
    refine lv_iload_n hx hb d_MO_turn_101 rfl (lv_at hl 4 rfl) ?_
    refine lv_iconst (v := (1 : Int32)) hx hb d_MO_turn_102 (by decide) ?_
    obtain ⟨hi33, hf⟩ := mz_gd hf
    refine mz_zast E w 41 (x := (1 : Int32)) (by decide) rfl hi33 d_MO_turn_103 (fun H locs w => ?_)
    obtain ⟨t34, e_t34, hf⟩ := mz_lt hf
    rw [← e_t34] at w
    refine lv_aload_n hx hb d_MO_turn_104 rfl (lv_at hl 1 rfl) ?_
    refine mz_get E w 0 54 (v := .ref (ad 38)) (by decide) rfl rfl ii_11 (by decide) (Nat.le_of_ble_eq_true rfl) k_1237 rfl d_MO_turn_105 ?_
    refine lv_iload_n hx hb d_MO_turn_108 rfl (lv_at hl 4 rfl) ?_
    refine lv_iload hx hb d_MO_turn_109 (lv_at hl 0 rfl) ?_
    obtain ⟨hi35, hf⟩ := mz_gd hf
    refine mz_zast E w 38 (x := s0) (by decide) rfl hi35 d_MO_turn_111 (fun H locs w => ?_)
    obtain ⟨t36, e_t36, hf⟩ := mz_lt hf
    rw [← e_t36] at w
    refine lv_aload_n hx hb d_MO_turn_112 rfl (lv_at hl 1 rfl) ?_
    refine mz_get E w 0 55 (v := .ref (ad 39)) (by decide) rfl rfl ii_11 (by decide) (Nat.le_of_ble_eq_true rfl) k_1238 rfl d_MO_turn_113 ?_
    refine lv_iload_n hx hb d_MO_turn_116 rfl (lv_at hl 4 rfl) ?_
    refine lv_iconst (v := (1 : Int32)) hx hb d_MO_turn_117 (by decide) ?_
    obtain ⟨hi37, hf⟩ := mz_gd hf
    refine mz_zast E w 39 (x := (1 : Int32)) (by decide) rfl hi37 d_MO_turn_118 (fun H locs w => ?_)
    obtain ⟨t38, e_t38, hf⟩ := mz_lt hf
    rw [← e_t38] at w
    obtain rfl := Option.some.inj hf
    exact mz_vret E w rfl d_MO_turn_119
set_option maxRecDepth 100000 in
set_option maxHeartbeats 4000000 in
theorem b_MO_turn_89 {SX : State → Heap → Prop} {dC : Nat → ClassId} {dI : Nat → Nat → Nat} {ad en : Nat → Nat} {ca : Nat → ClassId} {p : Program} {l : Launch} {e : Env} {s : State} {m : MethodId} {args : Array Value} {below : List Frame} {meth : Method} {c : Code} {res : mz_St} (E : mz_En SX 55 mz_cl dC dI ad ca p s m meth c prog_15_method_53_code 7 "MacroHouseModel" none) (n : Nat) : ∀ (x1 : Int32) (x2 : Int32) (x3 : Int32) (t : mz_St), f_MO_turn_89 n x1 x2 x3 t = some res → ∀ (H : Heap) (locs : List Loc) (ls : Array Slot), mz_Wd mz_tM 55 mz_cl dC dI ad en ca s t H locs → lv_has ls 7 [(0, .ref (ad 0)), (1, .int x1), (2, .int x2), (3, .int x3)] → W p l e (r_MO_turn) s m args below meth c H locs 0 0 (MQ below (mz_Q SX mz_tM 55 mz_cl dC dI ad en ca none res) args s 0 0 (mz_A ad 55)) (F0 m 89 ls []) := by
  obtain ⟨hx, hb, hml, hown, hcx, -, -, hSX, -, -, hSK⟩ := id E
  intro x1 x2 x3 t hf H locs ls w hl
  unfold f_MO_turn_89 at hf
  refine lv_iconst (v := (0 : Int32)) hx hb d_MO_turn_89 (by decide) ?_
  exact b_MO_turn_90 E n x1 x2 x3 (0 : Int32) t hf _ _ _ w (lv_sub hl [0, 1, 2, 3] rfl)
set_option maxRecDepth 100000 in
set_option maxHeartbeats 4000000 in
theorem b_MO_turn_50 {SX : State → Heap → Prop} {dC : Nat → ClassId} {dI : Nat → Nat → Nat} {ad en : Nat → Nat} {ca : Nat → ClassId} {p : Program} {l : Launch} {e : Env} {s : State} {m : MethodId} {args : Array Value} {below : List Frame} {meth : Method} {c : Code} {res : mz_St} (E : mz_En SX 55 mz_cl dC dI ad ca p s m meth c prog_15_method_53_code 7 "MacroHouseModel" none) (n : Nat) : ∀ (x1 : Int32) (x2 : Int32) (x3 : Int32) (t : mz_St), f_MO_turn_50 n x1 x2 x3 t = some res → ∀ (H : Heap) (locs : List Loc) (ls : Array Slot), mz_Wd mz_tM 55 mz_cl dC dI ad en ca s t H locs → lv_has ls 7 [(0, .ref (ad 0)), (1, .int x1), (2, .int x2), (3, .int x3)] → W p l e (r_MO_turn) s m args below meth c H locs 0 0 (MQ below (mz_Q SX mz_tM 55 mz_cl dC dI ad en ca none res) args s 0 0 (mz_A ad 55)) (F0 m 50 ls []) := by
  obtain ⟨hx, hb, hml, hown, hcx, -, -, hSX, -, -, hSK⟩ := id E
  intro x1 x2 x3 t hf H locs ls w hl
  unfold f_MO_turn_50 at hf
  refine lv_iload_n hx hb d_MO_turn_50 rfl (lv_at hl 1 rfl) ?_
  refine lv_bipush (v := (7 : Int32)) hx hb d_MO_turn_51 (by decide) ?_
  refine lv_icmp_ne (tgt := 67) hx hb d_MO_turn_53 (by decide) (fun hc6 => ?_) (fun hc6 => ?_)
  · have hf := mz_f hc6 hf
    refine lv_aload_n hx hb d_MO_turn_67 rfl (lv_at hl 0 rfl) ?_
    refine mz_get E w 0 56 (v := .ref (ad 40)) (by decide) rfl rfl ii_11 (by decide) (Nat.le_of_ble_eq_true rfl) k_1239 rfl d_MO_turn_68 ?_
    refine lv_iload_n hx hb d_MO_turn_71 rfl (lv_at hl 3 rfl) ?_
    obtain ⟨hi7, hf⟩ := mz_gd hf
    refine mz_zald E w 40 (by decide) rfl hi7 d_MO_turn_72 ?_
    refine lv_if_ne (tgt := 89) hx hb d_MO_turn_73 (by decide) (fun hc8 => ?_) (fun hc8 => ?_)
    · have hf := mz_f hc8 hf
      exact b_MO_turn_89 E n x1 x2 x3 t hf _ _ _ w (lv_sub hl [0, 1, 2, 3] rfl)
    · have hf := mz_t hc8 hf
      refine lv_aload_n hx hb d_MO_turn_76 rfl (lv_at hl 0 rfl) ?_
      refine mz_get E w 0 55 (v := .ref (ad 39)) (by decide) rfl rfl ii_11 (by decide) (Nat.le_of_ble_eq_true rfl) k_1238 rfl d_MO_turn_77 ?_
      refine lv_iload_n hx hb d_MO_turn_80 rfl (lv_at hl 3 rfl) ?_
      obtain ⟨hi39, hf⟩ := mz_gd hf
      refine mz_zald E w 39 (by decide) rfl hi39 d_MO_turn_81 ?_
      refine lv_if_ne (tgt := 89) hx hb d_MO_turn_82 (by decide) (fun hc40 => ?_) (fun hc40 => ?_)
      · have hf := mz_f hc40 hf
        exact b_MO_turn_89 E n x1 x2 x3 t hf _ _ _ w (lv_sub hl [0, 1, 2, 3] rfl)
      · have hf := mz_t hc40 hf
        refine lv_iconst (v := (1 : Int32)) hx hb d_MO_turn_85 (by decide) ?_
        refine lv_goto (tgt := 90) hx hb d_MO_turn_86 (by decide) ?_
        exact b_MO_turn_90 E n x1 x2 x3 (1 : Int32) t hf _ _ _ w (lv_sub hl [0, 1, 2, 3] rfl)
  · have hf := mz_t hc6 hf
    refine lv_aload_n hx hb d_MO_turn_56 rfl (lv_at hl 0 rfl) ?_
    refine lv_dup hx hb d_MO_turn_57 rfl ?_
    refine mz_get E w 0 53 (v := .int (mz_gI t 0 53)) (by decide) rfl rfl ii_11 (by decide) (Nat.le_of_ble_eq_true rfl) k_1236 rfl d_MO_turn_58 ?_
    refine lv_iconst (v := (1 : Int32)) hx hb d_MO_turn_61 (by decide) ?_
    refine lv_isub hx hb d_MO_turn_62 ?_
    refine mz_put E w 0 53 (v := ((mz_gI t 0 53) - (1 : Int32))) (by decide) rfl rfl ii_11 tk_11 nm_11 (by decide) (Nat.le_of_ble_eq_true rfl) k_1236 rfl (tk_11 53 (by decide)) rfl rfl rfl d_MO_turn_63 (fun H locs w => ?_)
    obtain ⟨t41, e_t41, hf⟩ := mz_lt hf
    rw [← e_t41] at w
    obtain rfl := Option.some.inj hf
    exact mz_vret E w rfl d_MO_turn_66
set_option maxRecDepth 100000 in
set_option maxHeartbeats 4000000 in
theorem c_MO_turn {SX : State → Heap → Prop} {dC : Nat → ClassId} {dI : Nat → Nat → Nat} {ad en : Nat → Nat} {ca : Nat → ClassId} (hSK : mz_SK SX ad 55) (l : Launch) (n : Nat) (x1 : Int32) (x2 : Int32) (t : mz_St) (res : mz_St) (hf : f_MO_turn n x1 x2 t = some res) : mz_C SX mz_tM 55 mz_cl dC dI ad en ca l y_MO_turn prog_15_method_53_code 7 none (r_MO_turn) [.ref (ad 0), .int x1, .int x2] t none res := by
  unfold f_MO_turn at hf
  refine mz_met hSK (by decide) (Nat.le_of_ble_eq_true rfl) ?_
  intro p e s m args below meth c ls E w hl
  obtain ⟨hx, hb, hml, hown, hcx, -, -, hSX, -, -, -⟩ := id E
  have hl : lv_has ls 7 [(0, .ref (ad 0)), (1, .int x1), (2, .int x2)] := hl
  refine lv_aload_n hx hb d_MO_turn_0 rfl (lv_at hl 0 rfl) ?_
  refine mz_get E w 0 53 (v := .int (mz_gI t 0 53)) (by decide) rfl rfl ii_11 (by decide) (Nat.le_of_ble_eq_true rfl) k_1236 rfl d_MO_turn_1 ?_
  refine lv_iconst (v := (1 : Int32)) hx hb d_MO_turn_4 (by decide) ?_
  refine lv_isub hx hb d_MO_turn_5 ?_
  refine lv_istore_n (lv' := [(3, .int ((mz_gI t 0 53) - (1 : Int32))), (0, .ref (ad 0)), (1, .int x1), (2, .int x2)]) hx hb d_MO_turn_6 rfl hl (by decide) rfl (fun ls hl => ?_)
  refine lv_aload_n hx hb d_MO_turn_7 rfl (lv_at hl 1 rfl) ?_
  refine mz_get E w 0 53 (v := .int (mz_gI t 0 53)) (by decide) rfl rfl ii_11 (by decide) (Nat.le_of_ble_eq_true rfl) k_1236 rfl d_MO_turn_8 ?_
  refine lv_aload_n hx hb d_MO_turn_11 rfl (lv_at hl 1 rfl) ?_
  refine mz_get E w 0 43 (v := .ref (ad 30)) (by decide) rfl rfl ii_11 (by decide) (Nat.le_of_ble_eq_true rfl) k_1226 rfl d_MO_turn_12 ?_
  refine lv_aload_n hx hb d_MO_turn_15 rfl (lv_at hl 1 rfl) ?_
  refine mz_get E w 0 34 (v := .int (mz_gI t 0 34)) (by decide) rfl rfl ii_11 (by decide) (Nat.le_of_ble_eq_true rfl) k_1217 rfl d_MO_turn_16 ?_
  refine lv_iconst (v := (1 : Int32)) hx hb d_MO_turn_19 (by decide) ?_
  refine lv_isub hx hb d_MO_turn_20 ?_
  obtain ⟨hi1, hf⟩ := mz_gd hf
  refine mz_iald E w 30 (by decide) rfl hi1 d_MO_turn_21 ?_
  refine lv_icmp_eq (tgt := 40) hx hb d_MO_turn_22 (by decide) (fun hc2 => ?_) (fun hc2 => ?_)
  · have hf := mz_t hc2 hf
    exact b_MO_turn_40 E n  t hf _ _ _ w (lv_sub hl [1] rfl)
  · have hf := mz_f hc2 hf
    refine lv_iload_n hx hb d_MO_turn_25 rfl (lv_at hl 2 rfl) ?_
    refine lv_bipush (v := (7 : Int32)) hx hb d_MO_turn_26 (by decide) ?_
    refine lv_icmp_eq (tgt := 50) hx hb d_MO_turn_28 (by decide) (fun hc5 => ?_) (fun hc5 => ?_)
    · have hf := mz_t hc5 hf
      exact b_MO_turn_50 E n x1 x2 ((mz_gI t 0 53) - (1 : Int32)) t hf _ _ _ w (lv_sub hl [1, 2, 3, 0] rfl)
    · have hf := mz_f hc5 hf
      refine lv_aload_n hx hb d_MO_turn_31 rfl (lv_at hl 1 rfl) ?_
      refine mz_get E w 0 57 (v := .ref (ad 41)) (by decide) rfl rfl ii_11 (by decide) (Nat.le_of_ble_eq_true rfl) k_1240 rfl d_MO_turn_32 ?_
      refine lv_iload_n hx hb d_MO_turn_35 rfl (lv_at hl 0 rfl) ?_
      obtain ⟨hi42, hf⟩ := mz_gd hf
      refine mz_zald E w 41 (by decide) rfl hi42 d_MO_turn_36 ?_
      refine lv_if_eq (tgt := 50) hx hb d_MO_turn_37 (by decide) (fun hc43 => ?_) (fun hc43 => ?_)
      · have hf := mz_t hc43 hf
        exact b_MO_turn_50 E n x1 x2 ((mz_gI t 0 53) - (1 : Int32)) t hf _ _ _ w (lv_sub hl [1, 2, 3, 0] rfl)
      · have hf := mz_f hc43 hf
        exact b_MO_turn_40 E n  t hf _ _ _ w (lv_sub hl [1] rfl)

/-! MacroHouseModel.setConstant()V -/
abbrev r_MO_setConstant : Room := { frames := 5, cells := 0, slots := 0, locals := 114 }
def f_MO_setConstant_88 (n : Nat) (x1 : Int64) (x3 : Int64) (x5 : Int32) (x6 : Int32) (t : mz_St) : Option mz_St := if ¬ (x6 < 0 ∨ 64 ≤ x6.toNatClampNeg) then (mz_let (mz_pL t 15 x6.toNatClampNeg x1) fun t13 => if ¬ (x6 < 0 ∨ 64 ≤ x6.toNatClampNeg) then (mz_let (mz_pL t13 16 x6.toNatClampNeg x3) fun t15 => if ¬ (x6 < 0 ∨ 64 ≤ x6.toNatClampNeg) then (mz_let (mz_pI t15 17 x6.toNatClampNeg x5) fun t17 => some t17) else none) else none) else none
def f_MO_setConstant_67 (n : Nat) (x1 : Int64) (x3 : Int64) (x5 : Int32) (x6 : Int32) (t : mz_St) : Option mz_St := if 0 ≤ x6 then (f_MO_setConstant_88 n x1 x3 x5 x6 t) else (mz_let (mz_pI t 0 24 ((mz_gI t 0 24) + (1 : Int32))) fun t18 => f_MO_setConstant_88 n x1 x3 x5 (mz_gI t 0 24) t18)
def f_MO_setConstant (n : Nat) (t : mz_St) : Option mz_St := (f_MO_word n t).bind fun q1 => (f_MO_sign n (44 : Int32) q1).bind fun q3 => (f_MO_wholeValue n q3).bind fun q5 => if (mz_gI q5.2 0 6) ≤ 0 then ((f_MO_constantOf n (mz_gL q1 0 65) (mz_gL q1 0 66) q5.2).bind fun q8 => if 0 ≤ q8.1 then (f_MO_setConstant_67 n (mz_gL q1 0 65) (mz_gL q1 0 66) q5.1 q8.1 q8.2) else (if (mz_gI q8.2 0 24) = (64 : Int32) then ((f_MO_fail n (6 : Int32) (mz_gI q8.2 0 63) q8.2).bind fun q20 => some q20) else (f_MO_setConstant_67 n (mz_gL q1 0 65) (mz_gL q1 0 66) q5.1 q8.1 q8.2))) else (some q5.2)
set_option maxRecDepth 100000 in
set_option maxHeartbeats 4000000 in
theorem b_MO_setConstant_88 {SX : State → Heap → Prop} {dC : Nat → ClassId} {dI : Nat → Nat → Nat} {ad en : Nat → Nat} {ca : Nat → ClassId} {p : Program} {l : Launch} {e : Env} {s : State} {m : MethodId} {args : Array Value} {below : List Frame} {meth : Method} {c : Code} {res : mz_St} (E : mz_En SX 55 mz_cl dC dI ad ca p s m meth c prog_15_method_55_code 7 "MacroHouseModel" none) (n : Nat) : ∀ (x1 : Int64) (x3 : Int64) (x5 : Int32) (x6 : Int32) (t : mz_St), f_MO_setConstant_88 n x1 x3 x5 x6 t = some res → ∀ (H : Heap) (locs : List Loc) (ls : Array Slot), mz_Wd mz_tM 55 mz_cl dC dI ad en ca s t H locs → lv_has ls 7 [(0, .ref (ad 0)), (1, .long x1), (3, .long x3), (5, .int x5), (6, .int x6)] → W p l e (r_MO_setConstant) s m args below meth c H locs 0 0 (MQ below (mz_Q SX mz_tM 55 mz_cl dC dI ad en ca none res) args s 0 0 (mz_A ad 55)) (F0 m 88 ls []) := by
  obtain ⟨hx, hb, hml, hown, hcx, -, -, hSX, -, -, hSK⟩ := id E
  intro x1 x3 x5 x6 t hf H locs ls w hl
  unfold f_MO_setConstant_88 at hf
  refine lv_aload_n hx hb d_MO_setConstant_88 rfl (lv_at hl 0 rfl) ?_
  refine mz_get E w 0 25 (v := .ref (ad 15)) (by decide) rfl rfl ii_11 (by decide) (Nat.le_of_ble_eq_true rfl) k_1208 rfl d_MO_setConstant_89 ?_
  refine lv_iload hx hb d_MO_setConstant_92 (lv_at hl 4 rfl) ?_
  refine lv_lload_n hx hb d_MO_setConstant_94 rfl (lv_at hl 1 rfl) ?_
  obtain ⟨hi12, hf⟩ := mz_gd hf
  refine mz_last E w 15 (x := x1) (by decide) rfl hi12 d_MO_setConstant_95 (fun H locs w => ?_)
  obtain ⟨t13, e_t13, hf⟩ := mz_lt hf
  rw [← e_t13] at w
  refine lv_aload_n hx hb d_MO_setConstant_96 rfl (lv_at hl 0 rfl) ?_
  refine mz_get E w 0 26 (v := .ref (ad 16)) (by decide) rfl rfl ii_11 (by decide) (Nat.le_of_ble_eq_true rfl) k_1209 rfl d_MO_setConstant_97 ?_
  refine lv_iload hx hb d_MO_setConstant_100 (lv_at hl 4 rfl) ?_
  refine lv_lload_n hx hb d_MO_setConstant_102 rfl (lv_at hl 2 rfl) ?_
  obtain ⟨hi14, hf⟩ := mz_gd hf
  refine mz_last E w 16 (x := x3) (by decide) rfl hi14 d_MO_setConstant_103 (fun H locs w => ?_)
  obtain ⟨t15, e_t15, hf⟩ := mz_lt hf
  rw [← e_t15] at w
  refine lv_aload_n hx hb d_MO_setConstant_104 rfl (lv_at hl 0 rfl) ?_
  refine mz_get E w 0 27 (v := .ref (ad 17)) (by decide) rfl rfl ii_11 (by decide) (Nat.le_of_ble_eq_true rfl) k_1210 rfl d_MO_setConstant_105 ?_
  refine lv_iload hx hb d_MO_setConstant_108 (lv_at hl 4 rfl) ?_
  refine lv_iload hx hb d_MO_setConstant_110 (lv_at hl 3 rfl) ?_
  obtain ⟨hi16, hf⟩ := mz_gd hf
  refine mz_iast E w 17 (x := x5) (by decide) rfl hi16 d_MO_setConstant_112 (fun H locs w => ?_)
  obtain ⟨t17, e_t17, hf⟩ := mz_lt hf
  rw [← e_t17] at w
  obtain rfl := Option.some.inj hf
  exact mz_vret E w rfl d_MO_setConstant_113
set_option maxRecDepth 100000 in
set_option maxHeartbeats 4000000 in
theorem b_MO_setConstant_67 {SX : State → Heap → Prop} {dC : Nat → ClassId} {dI : Nat → Nat → Nat} {ad en : Nat → Nat} {ca : Nat → ClassId} {p : Program} {l : Launch} {e : Env} {s : State} {m : MethodId} {args : Array Value} {below : List Frame} {meth : Method} {c : Code} {res : mz_St} (E : mz_En SX 55 mz_cl dC dI ad ca p s m meth c prog_15_method_55_code 7 "MacroHouseModel" none) (n : Nat) : ∀ (x1 : Int64) (x3 : Int64) (x5 : Int32) (x6 : Int32) (t : mz_St), f_MO_setConstant_67 n x1 x3 x5 x6 t = some res → ∀ (H : Heap) (locs : List Loc) (ls : Array Slot), mz_Wd mz_tM 55 mz_cl dC dI ad en ca s t H locs → lv_has ls 7 [(0, .ref (ad 0)), (1, .long x1), (3, .long x3), (5, .int x5), (6, .int x6)] → W p l e (r_MO_setConstant) s m args below meth c H locs 0 0 (MQ below (mz_Q SX mz_tM 55 mz_cl dC dI ad en ca none res) args s 0 0 (mz_A ad 55)) (F0 m 67 ls []) := by
  obtain ⟨hx, hb, hml, hown, hcx, -, -, hSX, -, -, hSK⟩ := id E
  intro x1 x3 x5 x6 t hf H locs ls w hl
  unfold f_MO_setConstant_67 at hf
  refine lv_iload hx hb d_MO_setConstant_67 (lv_at hl 4 rfl) ?_
  refine lv_if_ge (tgt := 88) hx hb d_MO_setConstant_69 (by decide) (fun hc11 => ?_) (fun hc11 => ?_)
  · have hf := mz_t hc11 hf
    exact b_MO_setConstant_88 E n x1 x3 x5 x6 t hf _ _ _ w (lv_sub hl [0, 1, 2, 3, 4] rfl)
  · have hf := mz_f hc11 hf
    refine lv_aload_n hx hb d_MO_setConstant_72 rfl (lv_at hl 0 rfl) ?_
    refine mz_get E w 0 24 (v := .int (mz_gI t 0 24)) (by decide) rfl rfl ii_11 (by decide) (Nat.le_of_ble_eq_true rfl) k_1207 rfl d_MO_setConstant_73 ?_
    refine lv_istore (lv' := [(6, .int (mz_gI t 0 24)), (0, .ref (ad 0)), (1, .long x1), (3, .long x3), (5, .int x5)]) hx hb d_MO_setConstant_76 hl (by decide) rfl (fun ls hl => ?_)
    refine lv_aload_n hx hb d_MO_setConstant_78 rfl (lv_at hl 1 rfl) ?_
    refine lv_dup hx hb d_MO_setConstant_79 rfl ?_
    refine mz_get E w 0 24 (v := .int (mz_gI t 0 24)) (by decide) rfl rfl ii_11 (by decide) (Nat.le_of_ble_eq_true rfl) k_1207 rfl d_MO_setConstant_80 ?_
    refine lv_iconst (v := (1 : Int32)) hx hb d_MO_setConstant_83 (by decide) ?_
    refine lv_iadd hx hb d_MO_setConstant_84 ?_
    refine mz_put E w 0 24 (v := ((mz_gI t 0 24) + (1 : Int32))) (by decide) rfl rfl ii_11 tk_11 nm_11 (by decide) (Nat.le_of_ble_eq_true rfl) k_1207 rfl (tk_11 24 (by decide)) rfl rfl rfl d_MO_setConstant_85 (fun H locs w => ?_)
    obtain ⟨t18, e_t18, hf⟩ := mz_lt hf
    rw [← e_t18] at w
    exact b_MO_setConstant_88 E n x1 x3 x5 (mz_gI t 0 24) t18 hf _ _ _ w (lv_sub hl [1, 2, 3, 4, 0] rfl)
set_option maxRecDepth 100000 in
set_option maxHeartbeats 4000000 in
theorem c_MO_setConstant {SX : State → Heap → Prop} {dC : Nat → ClassId} {dI : Nat → Nat → Nat} {ad en : Nat → Nat} {ca : Nat → ClassId} (hSK : mz_SK SX ad 55) (l : Launch) (n : Nat) (t : mz_St) (res : mz_St) (hf : f_MO_setConstant n t = some res) : mz_C SX mz_tM 55 mz_cl dC dI ad en ca l y_MO_setConstant prog_15_method_55_code 7 none (r_MO_setConstant) [.ref (ad 0)] t none res := by
  unfold f_MO_setConstant at hf
  refine mz_met hSK (by decide) (Nat.le_of_ble_eq_true rfl) ?_
  intro p e s m args below meth c ls E w hl
  obtain ⟨hx, hb, hml, hown, hcx, -, -, hSX, -, -, -⟩ := id E
  have hl : lv_has ls 7 [(0, .ref (ad 0))] := hl
  refine lv_aload_n hx hb d_MO_setConstant_0 rfl (lv_at hl 0 rfl) ?_
  obtain ⟨q1, hq2, hf⟩ := mz_bd hf
  refine mz_callV E w (k := 0) (As := []) (rest := []) (c_MO_word hSK l n t q1 hq2) (by decide) rfl rfl k_1557 k_15 k_1554 k_1556 ks_69 hm_MO_word ⟨⟨rfl, rfl⟩, Nat.le_of_ble_eq_true rfl, Nat.le_of_ble_eq_true rfl⟩ rfl hl.1 rfl (Nat.le_of_ble_eq_true rfl) d_MO_setConstant_1 ⟨Nat.zero_le _, Nat.zero_le _⟩ (st1 := []) rfl (fun H locs w => ?_)
  refine lv_aload_n hx hb d_MO_setConstant_4 rfl (lv_at hl 0 rfl) ?_
  refine mz_get E w 0 65 (v := .long (mz_gL q1 0 65)) (by decide) rfl rfl ii_11 (by decide) (Nat.le_of_ble_eq_true rfl) k_1248 rfl d_MO_setConstant_5 ?_
  refine lv_lstore_n (lv' := [(1, .long (mz_gL q1 0 65)), (0, .ref (ad 0))]) hx hb d_MO_setConstant_8 rfl hl (by decide) rfl (fun ls hl => ?_)
  refine lv_aload_n hx hb d_MO_setConstant_9 rfl (lv_at hl 1 rfl) ?_
  refine mz_get E w 0 66 (v := .long (mz_gL q1 0 66)) (by decide) rfl rfl ii_11 (by decide) (Nat.le_of_ble_eq_true rfl) k_1249 rfl d_MO_setConstant_10 ?_
  refine lv_lstore_n (lv' := [(3, .long (mz_gL q1 0 66)), (1, .long (mz_gL q1 0 65)), (0, .ref (ad 0))]) hx hb d_MO_setConstant_13 rfl hl (by decide) rfl (fun ls hl => ?_)
  refine lv_aload_n hx hb d_MO_setConstant_14 rfl (lv_at hl 2 rfl) ?_
  refine lv_bipush (v := (44 : Int32)) hx hb d_MO_setConstant_15 (by decide) ?_
  obtain ⟨q3, hq4, hf⟩ := mz_bd hf
  refine mz_callV E w (k := 0) (As := [.int (44 : Int32)]) (rest := []) (c_MO_sign hSK l n (44 : Int32) q1 q3 hq4) (by decide) rfl rfl k_1604 k_15 k_1601 k_1603 ks_80 hm_MO_sign ⟨⟨rfl, rfl⟩, Nat.le_of_ble_eq_true rfl, Nat.le_of_ble_eq_true rfl⟩ rfl hl.1 rfl (Nat.le_of_ble_eq_true rfl) d_MO_setConstant_17 ⟨Nat.zero_le _, Nat.zero_le _⟩ (st1 := []) rfl (fun H locs w => ?_)
  refine lv_aload_n hx hb d_MO_setConstant_20 rfl (lv_at hl 2 rfl) ?_
  obtain ⟨q5, hq6, hf⟩ := mz_bd hf
  refine mz_callV E w (k := 0) (As := []) (rest := []) (c_MO_wholeValue hSK l n q3 q5 hq6) (by decide) rfl rfl k_1561 k_15 k_1558 k_1560 ks_70 hm_MO_wholeValue ⟨⟨rfl, rfl⟩, Nat.le_of_ble_eq_true rfl, Nat.le_of_ble_eq_true rfl⟩ rfl hl.1 rfl (Nat.le_of_ble_eq_true rfl) d_MO_setConstant_21 ⟨Nat.zero_le _, Nat.zero_le _⟩ (st1 := [.int q5.1]) rfl (fun H locs w => ?_)
  refine lv_istore (lv' := [(5, .int q5.1), (3, .long (mz_gL q1 0 66)), (1, .long (mz_gL q1 0 65)), (0, .ref (ad 0))]) hx hb d_MO_setConstant_24 hl (by decide) rfl (fun ls hl => ?_)
  refine lv_aload_n hx hb d_MO_setConstant_26 rfl (lv_at hl 3 rfl) ?_
  refine mz_get E w 0 6 (v := .int (mz_gI q5.2 0 6)) (by decide) rfl rfl ii_11 (by decide) (Nat.le_of_ble_eq_true rfl) k_1189 rfl d_MO_setConstant_27 ?_
  refine lv_if_le (tgt := 34) hx hb d_MO_setConstant_30 (by decide) (fun hc7 => ?_) (fun hc7 => ?_)
  · have hf := mz_t hc7 hf
    refine lv_aload_n hx hb d_MO_setConstant_34 rfl (lv_at hl 3 rfl) ?_
    refine lv_lload_n hx hb d_MO_setConstant_35 rfl (lv_at hl 2 rfl) ?_
    refine lv_lload_n hx hb d_MO_setConstant_36 rfl (lv_at hl 1 rfl) ?_
    obtain ⟨q8, hq9, hf⟩ := mz_bd hf
    refine mz_callV E w (k := 0) (As := [.long (mz_gL q1 0 65), .long (mz_gL q1 0 66)]) (rest := []) (c_MO_constantOf hSK l n (mz_gL q1 0 65) (mz_gL q1 0 66) q5.2 q8 hq9) (by decide) rfl rfl k_1577 k_15 k_1574 k_1576 ks_74 hm_MO_constantOf ⟨⟨rfl, rfl⟩, Nat.le_of_ble_eq_true rfl, Nat.le_of_ble_eq_true rfl⟩ rfl hl.1 rfl (Nat.le_of_ble_eq_true rfl) d_MO_setConstant_37 ⟨Nat.zero_le _, Nat.zero_le _⟩ (st1 := [.int q8.1]) rfl (fun H locs w => ?_)
    refine lv_istore (lv' := [(6, .int q8.1), (5, .int q5.1), (3, .long (mz_gL q1 0 66)), (1, .long (mz_gL q1 0 65)), (0, .ref (ad 0))]) hx hb d_MO_setConstant_40 hl (by decide) rfl (fun ls hl => ?_)
    refine lv_iload hx hb d_MO_setConstant_42 (lv_at hl 0 rfl) ?_
    refine lv_if_ge (tgt := 67) hx hb d_MO_setConstant_44 (by decide) (fun hc10 => ?_) (fun hc10 => ?_)
    · have hf := mz_t hc10 hf
      exact b_MO_setConstant_67 E n (mz_gL q1 0 65) (mz_gL q1 0 66) q5.1 q8.1 q8.2 hf _ _ _ w (lv_sub hl [4, 3, 2, 1, 0] rfl)
    · have hf := mz_f hc10 hf
      refine lv_aload_n hx hb d_MO_setConstant_47 rfl (lv_at hl 4 rfl) ?_
      refine mz_get E w 0 24 (v := .int (mz_gI q8.2 0 24)) (by decide) rfl rfl ii_11 (by decide) (Nat.le_of_ble_eq_true rfl) k_1207 rfl d_MO_setConstant_48 ?_
      refine lv_bipush (v := (64 : Int32)) hx hb d_MO_setConstant_51 (by decide) ?_
      refine lv_icmp_ne (tgt := 67) hx hb d_MO_setConstant_53 (by decide) (fun hc19 => ?_) (fun hc19 => ?_)
      · have hf := mz_f hc19 hf
        exact b_MO_setConstant_67 E n (mz_gL q1 0 65) (mz_gL q1 0 66) q5.1 q8.1 q8.2 hf _ _ _ w (lv_sub hl [4, 3, 2, 1, 0] rfl)
      · have hf := mz_t hc19 hf
        refine lv_aload_n hx hb d_MO_setConstant_56 rfl (lv_at hl 4 rfl) ?_
        refine lv_bipush (v := (6 : Int32)) hx hb d_MO_setConstant_57 (by decide) ?_
        refine lv_aload_n hx hb d_MO_setConstant_59 rfl (lv_at hl 4 rfl) ?_
        refine mz_get E w 0 63 (v := .int (mz_gI q8.2 0 63)) (by decide) rfl rfl ii_11 (by decide) (Nat.le_of_ble_eq_true rfl) k_1246 rfl d_MO_setConstant_60 ?_
        obtain ⟨q20, hq21, hf⟩ := mz_bd hf
        refine mz_callV E w (k := 0) (As := [.int (6 : Int32), .int (mz_gI q8.2 0 63)]) (rest := []) (c_MO_fail hSK l n (6 : Int32) (mz_gI q8.2 0 63) q8.2 q20 hq21) (by decide) rfl rfl k_1467 k_15 k_1464 k_1466 ks_53 hm_MO_fail ⟨⟨rfl, rfl⟩, Nat.le_of_ble_eq_true rfl, Nat.le_of_ble_eq_true rfl⟩ rfl hl.1 rfl (Nat.le_of_ble_eq_true rfl) d_MO_setConstant_63 ⟨Nat.zero_le _, Nat.zero_le _⟩ (st1 := []) rfl (fun H locs w => ?_)
        obtain rfl := Option.some.inj hf
        exact mz_vret E w rfl d_MO_setConstant_66
  · have hf := mz_f hc7 hf
    obtain rfl := Option.some.inj hf
    exact mz_vret E w rfl d_MO_setConstant_33

/-! MacroHouseModel.forgetConstant()V -/
abbrev r_MO_forgetConstant : Room := { frames := 3, cells := 0, slots := 0, locals := 61 }
def f_MO_forgetConstant_45 (n : Nat) (s1 : Int32) (t : mz_St) : Option mz_St := (f_MO_fail n s1 (mz_gI t 0 63) t).bind fun q9 => some q9
def f_MO_forgetConstant_32 (n : Nat) (t : mz_St) : Option mz_St := if (mz_gI t 0 62) = 0 then (f_MO_forgetConstant_45 n (1 : Int32) t) else (f_MO_forgetConstant_45 n (3 : Int32) t)
def f_MO_forgetConstant_65 (n : Nat) : Nat → Int32 → mz_St → Option mz_St
  | 0, _, _ => none
  | k + 1, x2, t => if (mz_gI t 0 24) ≤ x2 then (some t) else (if ¬ ((x2 + (1 : Int32)) < 0 ∨ 64 ≤ (x2 + (1 : Int32)).toNatClampNeg) then (if ¬ (x2 < 0 ∨ 64 ≤ x2.toNatClampNeg) then (mz_let (mz_pL t 15 x2.toNatClampNeg (mz_gL t 15 (x2 + (1 : Int32)).toNatClampNeg)) fun t16 => if ¬ ((x2 + (1 : Int32)) < 0 ∨ 64 ≤ (x2 + (1 : Int32)).toNatClampNeg) then (if ¬ (x2 < 0 ∨ 64 ≤ x2.toNatClampNeg) then (mz_let (mz_pL t16 16 x2.toNatClampNeg (mz_gL t16 16 (x2 + (1 : Int32)).toNatClampNeg)) fun t19 => if ¬ ((x2 + (1 : Int32)) < 0 ∨ 64 ≤ (x2 + (1 : Int32)).toNatClampNeg) then (if ¬ (x2 < 0 ∨ 64 ≤ x2.toNatClampNeg) then (mz_let (mz_pI t19 17 x2.toNatClampNeg (mz_gI t19 17 (x2 + (1 : Int32)).toNatClampNeg)) fun t22 => (f_MO_forgetConstant_65 n k) (x2 + (1 : Int32)) t22) else none) else none) else none) else none) else none) else none)
def f_MO_forgetConstant (n : Nat) (t : mz_St) : Option mz_St := (f_MO_word n t).bind fun q1 => (f_MO_lineEnds n q1).bind fun q3 => (f_MO_constantOf n (mz_gL q3 0 65) (mz_gL q3 0 66) q3).bind fun q5 => if (mz_gI q5.2 0 62) = 0 then (f_MO_forgetConstant_32 n  q5.2) else (if 0 ≤ q5.1 then (mz_let (mz_pI q5.2 0 24 ((mz_gI q5.2 0 24) - (1 : Int32))) fun t12 => f_MO_forgetConstant_65 n n q5.1 t12) else (f_MO_forgetConstant_32 n  q5.2))
set_option maxRecDepth 100000 in
set_option maxHeartbeats 4000000 in
theorem b_MO_forgetConstant_45 {SX : State → Heap → Prop} {dC : Nat → ClassId} {dI : Nat → Nat → Nat} {ad en : Nat → Nat} {ca : Nat → ClassId} {p : Program} {l : Launch} {e : Env} {s : State} {m : MethodId} {args : Array Value} {below : List Frame} {meth : Method} {c : Code} {res : mz_St} (E : mz_En SX 55 mz_cl dC dI ad ca p s m meth c prog_15_method_56_code 3 "MacroHouseModel" none) (n : Nat) : ∀ (s1 : Int32) (t : mz_St), f_MO_forgetConstant_45 n s1 t = some res → ∀ (H : Heap) (locs : List Loc) (ls : Array Slot), mz_Wd mz_tM 55 mz_cl dC dI ad en ca s t H locs → lv_has ls 3 [(0, .ref (ad 0))] → W p l e (r_MO_forgetConstant) s m args below meth c H locs 0 0 (MQ below (mz_Q SX mz_tM 55 mz_cl dC dI ad en ca none res) args s 0 0 (mz_A ad 55)) (F0 m 45 ls [.int s1, .ref (ad 0)]) := by
  obtain ⟨hx, hb, hml, hown, hcx, -, -, hSX, -, -, hSK⟩ := id E
  intro s1 t hf H locs ls w hl
  unfold f_MO_forgetConstant_45 at hf
  refine lv_aload_n hx hb d_MO_forgetConstant_45 rfl (lv_at hl 0 rfl) ?_
  refine mz_get E w 0 63 (v := .int (mz_gI t 0 63)) (by decide) rfl rfl ii_11 (by decide) (Nat.le_of_ble_eq_true rfl) k_1246 rfl d_MO_forgetConstant_46 ?_
  obtain ⟨q9, hq10, hf⟩ := mz_bd hf
  refine mz_callV E w (k := 0) (As := [.int s1, .int (mz_gI t 0 63)]) (rest := []) (c_MO_fail hSK l n s1 (mz_gI t 0 63) t q9 hq10) (by decide) rfl rfl k_1467 k_15 k_1464 k_1466 ks_53 hm_MO_fail ⟨⟨rfl, rfl⟩, Nat.le_of_ble_eq_true rfl, Nat.le_of_ble_eq_true rfl⟩ rfl hl.1 rfl (Nat.le_of_ble_eq_true rfl) d_MO_forgetConstant_49 ⟨Nat.zero_le _, Nat.zero_le _⟩ (st1 := []) rfl (fun H locs w => ?_)
  obtain rfl := Option.some.inj hf
  exact mz_vret E w rfl d_MO_forgetConstant_52
set_option maxRecDepth 100000 in
set_option maxHeartbeats 4000000 in
theorem b_MO_forgetConstant_32 {SX : State → Heap → Prop} {dC : Nat → ClassId} {dI : Nat → Nat → Nat} {ad en : Nat → Nat} {ca : Nat → ClassId} {p : Program} {l : Launch} {e : Env} {s : State} {m : MethodId} {args : Array Value} {below : List Frame} {meth : Method} {c : Code} {res : mz_St} (E : mz_En SX 55 mz_cl dC dI ad ca p s m meth c prog_15_method_56_code 3 "MacroHouseModel" none) (n : Nat) : ∀ (t : mz_St), f_MO_forgetConstant_32 n t = some res → ∀ (H : Heap) (locs : List Loc) (ls : Array Slot), mz_Wd mz_tM 55 mz_cl dC dI ad en ca s t H locs → lv_has ls 3 [(0, .ref (ad 0))] → W p l e (r_MO_forgetConstant) s m args below meth c H locs 0 0 (MQ below (mz_Q SX mz_tM 55 mz_cl dC dI ad en ca none res) args s 0 0 (mz_A ad 55)) (F0 m 32 ls []) := by
  obtain ⟨hx, hb, hml, hown, hcx, -, -, hSX, -, -, hSK⟩ := id E
  intro t hf H locs ls w hl
  unfold f_MO_forgetConstant_32 at hf
  refine lv_aload_n hx hb d_MO_forgetConstant_32 rfl (lv_at hl 0 rfl) ?_
  refine lv_aload_n hx hb d_MO_forgetConstant_33 rfl (lv_at hl 0 rfl) ?_
  refine mz_get E w 0 62 (v := .int (mz_gI t 0 62)) (by decide) rfl rfl ii_11 (by decide) (Nat.le_of_ble_eq_true rfl) k_1245 rfl d_MO_forgetConstant_34 ?_
  refine lv_if_eq (tgt := 44) hx hb d_MO_forgetConstant_37 (by decide) (fun hc8 => ?_) (fun hc8 => ?_)
  · have hf := mz_t hc8 hf
    refine lv_iconst (v := (1 : Int32)) hx hb d_MO_forgetConstant_44 (by decide) ?_
    exact b_MO_forgetConstant_45 E n (1 : Int32) t hf _ _ _ w (lv_sub hl [0] rfl)
  · have hf := mz_f hc8 hf
    refine lv_iconst (v := (3 : Int32)) hx hb d_MO_forgetConstant_40 (by decide) ?_
    refine lv_goto (tgt := 45) hx hb d_MO_forgetConstant_41 (by decide) ?_
    exact b_MO_forgetConstant_45 E n (3 : Int32) t hf _ _ _ w (lv_sub hl [0] rfl)
set_option maxRecDepth 100000 in
set_option maxHeartbeats 4000000 in
theorem b_MO_forgetConstant_65 {SX : State → Heap → Prop} {dC : Nat → ClassId} {dI : Nat → Nat → Nat} {ad en : Nat → Nat} {ca : Nat → ClassId} {p : Program} {l : Launch} {e : Env} {s : State} {m : MethodId} {args : Array Value} {below : List Frame} {meth : Method} {c : Code} {res : mz_St} (E : mz_En SX 55 mz_cl dC dI ad ca p s m meth c prog_15_method_56_code 3 "MacroHouseModel" none) (n : Nat) (k : Nat) : ∀ (x2 : Int32) (t : mz_St), f_MO_forgetConstant_65 n k x2 t = some res → ∀ (H : Heap) (locs : List Loc) (ls : Array Slot), mz_Wd mz_tM 55 mz_cl dC dI ad en ca s t H locs → lv_has ls 3 [(0, .ref (ad 0)), (2, .int x2)] → W p l e (r_MO_forgetConstant) s m args below meth c H locs 0 0 (MQ below (mz_Q SX mz_tM 55 mz_cl dC dI ad en ca none res) args s 0 0 (mz_A ad 55)) (F0 m 65 ls []) := by
  obtain ⟨hx, hb, hml, hown, hcx, -, -, hSX, -, -, hSK⟩ := id E
  induction k with
  | zero => intro x2 t hf; exact absurd hf (by unfold f_MO_forgetConstant_65; exact fun h => nomatch h)
  | succ k ih =>
    intro x2 t hf H locs ls w hl
    unfold f_MO_forgetConstant_65 at hf
    refine lv_iload_n hx hb d_MO_forgetConstant_65 rfl (lv_at hl 1 rfl) ?_
    refine lv_aload_n hx hb d_MO_forgetConstant_66 rfl (lv_at hl 0 rfl) ?_
    refine mz_get E w 0 24 (v := .int (mz_gI t 0 24)) (by decide) rfl rfl ii_11 (by decide) (Nat.le_of_ble_eq_true rfl) k_1207 rfl d_MO_forgetConstant_67 ?_
    refine lv_icmp_ge (tgt := 121) hx hb d_MO_forgetConstant_70 (by decide) (fun hc13 => ?_) (fun hc13 => ?_)
    · have hf := mz_t hc13 hf
      obtain rfl := Option.some.inj hf
      exact mz_vret E w rfl d_MO_forgetConstant_121
    · have hf := mz_f hc13 hf
      refine lv_aload_n hx hb d_MO_forgetConstant_73 rfl (lv_at hl 0 rfl) ?_
      refine mz_get E w 0 25 (v := .ref (ad 15)) (by decide) rfl rfl ii_11 (by decide) (Nat.le_of_ble_eq_true rfl) k_1208 rfl d_MO_forgetConstant_74 ?_
      refine lv_iload_n hx hb d_MO_forgetConstant_77 rfl (lv_at hl 1 rfl) ?_
      refine lv_aload_n hx hb d_MO_forgetConstant_78 rfl (lv_at hl 0 rfl) ?_
      refine mz_get E w 0 25 (v := .ref (ad 15)) (by decide) rfl rfl ii_11 (by decide) (Nat.le_of_ble_eq_true rfl) k_1208 rfl d_MO_forgetConstant_79 ?_
      refine lv_iload_n hx hb d_MO_forgetConstant_82 rfl (lv_at hl 1 rfl) ?_
      refine lv_iconst (v := (1 : Int32)) hx hb d_MO_forgetConstant_83 (by decide) ?_
      refine lv_iadd hx hb d_MO_forgetConstant_84 ?_
      obtain ⟨hi14, hf⟩ := mz_gd hf
      refine mz_lald E w 15 (by decide) rfl hi14 d_MO_forgetConstant_85 ?_
      obtain ⟨hi15, hf⟩ := mz_gd hf
      refine mz_last E w 15 (x := (mz_gL t 15 (x2 + (1 : Int32)).toNatClampNeg)) (by decide) rfl hi15 d_MO_forgetConstant_86 (fun H locs w => ?_)
      obtain ⟨t16, e_t16, hf⟩ := mz_lt hf
      rw [← e_t16] at w
      refine lv_aload_n hx hb d_MO_forgetConstant_87 rfl (lv_at hl 0 rfl) ?_
      refine mz_get E w 0 26 (v := .ref (ad 16)) (by decide) rfl rfl ii_11 (by decide) (Nat.le_of_ble_eq_true rfl) k_1209 rfl d_MO_forgetConstant_88 ?_
      refine lv_iload_n hx hb d_MO_forgetConstant_91 rfl (lv_at hl 1 rfl) ?_
      refine lv_aload_n hx hb d_MO_forgetConstant_92 rfl (lv_at hl 0 rfl) ?_
      refine mz_get E w 0 26 (v := .ref (ad 16)) (by decide) rfl rfl ii_11 (by decide) (Nat.le_of_ble_eq_true rfl) k_1209 rfl d_MO_forgetConstant_93 ?_
      refine lv_iload_n hx hb d_MO_forgetConstant_96 rfl (lv_at hl 1 rfl) ?_
      refine lv_iconst (v := (1 : Int32)) hx hb d_MO_forgetConstant_97 (by decide) ?_
      refine lv_iadd hx hb d_MO_forgetConstant_98 ?_
      obtain ⟨hi17, hf⟩ := mz_gd hf
      refine mz_lald E w 16 (by decide) rfl hi17 d_MO_forgetConstant_99 ?_
      obtain ⟨hi18, hf⟩ := mz_gd hf
      refine mz_last E w 16 (x := (mz_gL t16 16 (x2 + (1 : Int32)).toNatClampNeg)) (by decide) rfl hi18 d_MO_forgetConstant_100 (fun H locs w => ?_)
      obtain ⟨t19, e_t19, hf⟩ := mz_lt hf
      rw [← e_t19] at w
      refine lv_aload_n hx hb d_MO_forgetConstant_101 rfl (lv_at hl 0 rfl) ?_
      refine mz_get E w 0 27 (v := .ref (ad 17)) (by decide) rfl rfl ii_11 (by decide) (Nat.le_of_ble_eq_true rfl) k_1210 rfl d_MO_forgetConstant_102 ?_
      refine lv_iload_n hx hb d_MO_forgetConstant_105 rfl (lv_at hl 1 rfl) ?_
      refine lv_aload_n hx hb d_MO_forgetConstant_106 rfl (lv_at hl 0 rfl) ?_
      refine mz_get E w 0 27 (v := .ref (ad 17)) (by decide) rfl rfl ii_11 (by decide) (Nat.le_of_ble_eq_true rfl) k_1210 rfl d_MO_forgetConstant_107 ?_
      refine lv_iload_n hx hb d_MO_forgetConstant_110 rfl (lv_at hl 1 rfl) ?_
      refine lv_iconst (v := (1 : Int32)) hx hb d_MO_forgetConstant_111 (by decide) ?_
      refine lv_iadd hx hb d_MO_forgetConstant_112 ?_
      obtain ⟨hi20, hf⟩ := mz_gd hf
      refine mz_iald E w 17 (by decide) rfl hi20 d_MO_forgetConstant_113 ?_
      obtain ⟨hi21, hf⟩ := mz_gd hf
      refine mz_iast E w 17 (x := (mz_gI t19 17 (x2 + (1 : Int32)).toNatClampNeg)) (by decide) rfl hi21 d_MO_forgetConstant_114 (fun H locs w => ?_)
      obtain ⟨t22, e_t22, hf⟩ := mz_lt hf
      rw [← e_t22] at w
      refine lv_iinc (v := (x2 + (1 : Int32))) (lv' := [(2, .int (x2 + (1 : Int32))), (0, .ref (ad 0))]) hx hb d_MO_forgetConstant_115 hl (k := 1) rfl rfl (by decide) rfl (fun ls hl => ?_)
      refine lv_goto (tgt := 65) hx hb d_MO_forgetConstant_118 (by decide) ?_
      exact ih (x2 + (1 : Int32)) t22 hf _ _ _ w (lv_sub hl [1, 0] rfl)
set_option maxRecDepth 100000 in
set_option maxHeartbeats 4000000 in
theorem c_MO_forgetConstant {SX : State → Heap → Prop} {dC : Nat → ClassId} {dI : Nat → Nat → Nat} {ad en : Nat → Nat} {ca : Nat → ClassId} (hSK : mz_SK SX ad 55) (l : Launch) (n : Nat) (t : mz_St) (res : mz_St) (hf : f_MO_forgetConstant n t = some res) : mz_C SX mz_tM 55 mz_cl dC dI ad en ca l y_MO_forgetConstant prog_15_method_56_code 3 none (r_MO_forgetConstant) [.ref (ad 0)] t none res := by
  unfold f_MO_forgetConstant at hf
  refine mz_met hSK (by decide) (Nat.le_of_ble_eq_true rfl) ?_
  intro p e s m args below meth c ls E w hl
  obtain ⟨hx, hb, hml, hown, hcx, -, -, hSX, -, -, -⟩ := id E
  have hl : lv_has ls 3 [(0, .ref (ad 0))] := hl
  refine lv_aload_n hx hb d_MO_forgetConstant_0 rfl (lv_at hl 0 rfl) ?_
  obtain ⟨q1, hq2, hf⟩ := mz_bd hf
  refine mz_callV E w (k := 0) (As := []) (rest := []) (c_MO_word hSK l n t q1 hq2) (by decide) rfl rfl k_1557 k_15 k_1554 k_1556 ks_69 hm_MO_word ⟨⟨rfl, rfl⟩, Nat.le_of_ble_eq_true rfl, Nat.le_of_ble_eq_true rfl⟩ rfl hl.1 rfl (Nat.le_of_ble_eq_true rfl) d_MO_forgetConstant_1 ⟨Nat.zero_le _, Nat.zero_le _⟩ (st1 := []) rfl (fun H locs w => ?_)
  refine lv_aload_n hx hb d_MO_forgetConstant_4 rfl (lv_at hl 0 rfl) ?_
  obtain ⟨q3, hq4, hf⟩ := mz_bd hf
  refine mz_callV E w (k := 0) (As := []) (rest := []) (c_MO_lineEnds hSK l n q1 q3 hq4) (by decide) rfl rfl k_1608 k_15 k_1605 k_1607 ks_81 hm_MO_lineEnds ⟨⟨rfl, rfl⟩, Nat.le_of_ble_eq_true rfl, Nat.le_of_ble_eq_true rfl⟩ rfl hl.1 rfl (Nat.le_of_ble_eq_true rfl) d_MO_forgetConstant_5 ⟨Nat.zero_le _, Nat.zero_le _⟩ (st1 := []) rfl (fun H locs w => ?_)
  refine lv_aload_n hx hb d_MO_forgetConstant_8 rfl (lv_at hl 0 rfl) ?_
  refine lv_aload_n hx hb d_MO_forgetConstant_9 rfl (lv_at hl 0 rfl) ?_
  refine mz_get E w 0 65 (v := .long (mz_gL q3 0 65)) (by decide) rfl rfl ii_11 (by decide) (Nat.le_of_ble_eq_true rfl) k_1248 rfl d_MO_forgetConstant_10 ?_
  refine lv_aload_n hx hb d_MO_forgetConstant_13 rfl (lv_at hl 0 rfl) ?_
  refine mz_get E w 0 66 (v := .long (mz_gL q3 0 66)) (by decide) rfl rfl ii_11 (by decide) (Nat.le_of_ble_eq_true rfl) k_1249 rfl d_MO_forgetConstant_14 ?_
  obtain ⟨q5, hq6, hf⟩ := mz_bd hf
  refine mz_callV E w (k := 0) (As := [.long (mz_gL q3 0 65), .long (mz_gL q3 0 66)]) (rest := []) (c_MO_constantOf hSK l n (mz_gL q3 0 65) (mz_gL q3 0 66) q3 q5 hq6) (by decide) rfl rfl k_1577 k_15 k_1574 k_1576 ks_74 hm_MO_constantOf ⟨⟨rfl, rfl⟩, Nat.le_of_ble_eq_true rfl, Nat.le_of_ble_eq_true rfl⟩ rfl hl.1 rfl (Nat.le_of_ble_eq_true rfl) d_MO_forgetConstant_17 ⟨Nat.zero_le _, Nat.zero_le _⟩ (st1 := [.int q5.1]) rfl (fun H locs w => ?_)
  refine lv_istore_n (lv' := [(1, .int q5.1), (0, .ref (ad 0))]) hx hb d_MO_forgetConstant_20 rfl hl (by decide) rfl (fun ls hl => ?_)
  refine lv_aload_n hx hb d_MO_forgetConstant_21 rfl (lv_at hl 1 rfl) ?_
  refine mz_get E w 0 62 (v := .int (mz_gI q5.2 0 62)) (by decide) rfl rfl ii_11 (by decide) (Nat.le_of_ble_eq_true rfl) k_1245 rfl d_MO_forgetConstant_22 ?_
  refine lv_if_eq (tgt := 32) hx hb d_MO_forgetConstant_25 (by decide) (fun hc7 => ?_) (fun hc7 => ?_)
  · have hf := mz_t hc7 hf
    exact b_MO_forgetConstant_32 E n  q5.2 hf _ _ _ w (lv_sub hl [1] rfl)
  · have hf := mz_f hc7 hf
    refine lv_iload_n hx hb d_MO_forgetConstant_28 rfl (lv_at hl 0 rfl) ?_
    refine lv_if_ge (tgt := 53) hx hb d_MO_forgetConstant_29 (by decide) (fun hc11 => ?_) (fun hc11 => ?_)
    · have hf := mz_t hc11 hf
      refine lv_aload_n hx hb d_MO_forgetConstant_53 rfl (lv_at hl 1 rfl) ?_
      refine lv_dup hx hb d_MO_forgetConstant_54 rfl ?_
      refine mz_get E w 0 24 (v := .int (mz_gI q5.2 0 24)) (by decide) rfl rfl ii_11 (by decide) (Nat.le_of_ble_eq_true rfl) k_1207 rfl d_MO_forgetConstant_55 ?_
      refine lv_iconst (v := (1 : Int32)) hx hb d_MO_forgetConstant_58 (by decide) ?_
      refine lv_isub hx hb d_MO_forgetConstant_59 ?_
      refine mz_put E w 0 24 (v := ((mz_gI q5.2 0 24) - (1 : Int32))) (by decide) rfl rfl ii_11 tk_11 nm_11 (by decide) (Nat.le_of_ble_eq_true rfl) k_1207 rfl (tk_11 24 (by decide)) rfl rfl rfl d_MO_forgetConstant_60 (fun H locs w => ?_)
      obtain ⟨t12, e_t12, hf⟩ := mz_lt hf
      rw [← e_t12] at w
      refine lv_iload_n hx hb d_MO_forgetConstant_63 rfl (lv_at hl 0 rfl) ?_
      refine lv_istore_n (lv' := [(2, .int q5.1), (1, .int q5.1), (0, .ref (ad 0))]) hx hb d_MO_forgetConstant_64 rfl hl (by decide) rfl (fun ls hl => ?_)
      exact b_MO_forgetConstant_65 E n n q5.1 t12 hf _ _ _ w (lv_sub hl [2, 0] rfl)
    · have hf := mz_f hc11 hf
      exact b_MO_forgetConstant_32 E n  q5.2 hf _ _ _ w (lv_sub hl [1] rfl)

/-! MacroHouseModel.hold(II)V -/
abbrev r_MO_hold : Room := { frames := 0, cells := 0, slots := 0, locals := 0 }
def f_MO_hold_70 (n : Nat) : Nat → Int32 → Int32 → mz_St → Option mz_St
  | 0, _, _, _ => none
  | k + 1, x4, x5, t => if x4 ≤ x5 then (if ¬ ((mz_gI t 0 48) < 0 ∨ 24000 ≤ (mz_gI t 0 48).toNatClampNeg) then (mz_let (mz_pI t 36 (mz_gI t 0 48).toNatClampNeg (mz_gI t 0 51)) fun t7 => mz_let (mz_pI t7 0 48 ((mz_gI t7 0 48) + (1 : Int32))) fun t8 => some t8) else none) else (if ¬ (x5 < 0 ∨ 6000 ≤ x5.toNatClampNeg) then (if ¬ ((mz_gI t 0 51) < 0 ∨ 48000 ≤ (mz_gI t 0 51).toNatClampNeg) then (mz_let (mz_pI t 37 (mz_gI t 0 51).toNatClampNeg (mz_gI t 43 x5.toNatClampNeg)) fun t11 => mz_let (mz_pI t11 0 51 ((mz_gI t11 0 51) + (1 : Int32))) fun t12 => (f_MO_hold_70 n k) x4 (x5 + (1 : Int32)) t12) else none) else none)
def f_MO_hold_54 (n : Nat) (x3 : Int32) (x4 : Int32) (t : mz_St) : Option mz_St := if ¬ ((mz_gI t 0 48) < 0 ∨ 24000 ≤ (mz_gI t 0 48).toNatClampNeg) then (mz_let (mz_pI t 35 (mz_gI t 0 48).toNatClampNeg (mz_gI t 0 51)) fun t4 => f_MO_hold_70 n n x4 x3 t4) else none
def f_MO_hold_28 (n : Nat) : Nat → Int32 → Int32 → mz_St → Option mz_St
  | 0, _, _, _ => none
  | k + 1, x3, x4, t => if x4 ≤ x3 then (f_MO_hold_54 n x3 x4 t) else (if ¬ ((x4 - (1 : Int32)) < 0 ∨ 6000 ≤ (x4 - (1 : Int32)).toNatClampNeg) then (if (mz_gI t 43 (x4 - (1 : Int32)).toNatClampNeg) = (32 : Int32) then ((f_MO_hold_28 n k) x3 (x4 + (-1 : Int32)) t) else (f_MO_hold_54 n x3 x4 t)) else none)
def f_MO_hold_5 (n : Nat) : Nat → Int32 → Int32 → mz_St → Option mz_St
  | 0, _, _, _ => none
  | k + 1, x3, x4, t => if x4 ≤ x3 then (f_MO_hold_28 n n x3 x4 t) else (if ¬ (x3 < 0 ∨ 6000 ≤ x3.toNatClampNeg) then (if (mz_gI t 43 x3.toNatClampNeg) = (32 : Int32) then ((f_MO_hold_5 n k) (x3 + (1 : Int32)) x4 t) else (f_MO_hold_28 n n x3 x4 t)) else none)
def f_MO_hold (n : Nat) (x1 : Int32) (x2 : Int32) (t : mz_St) : Option mz_St := f_MO_hold_5 n n x1 x2 t
set_option maxRecDepth 100000 in
set_option maxHeartbeats 4000000 in
theorem b_MO_hold_70 {SX : State → Heap → Prop} {dC : Nat → ClassId} {dI : Nat → Nat → Nat} {ad en : Nat → Nat} {ca : Nat → ClassId} {p : Program} {l : Launch} {e : Env} {s : State} {m : MethodId} {args : Array Value} {below : List Frame} {meth : Method} {c : Code} {res : mz_St} (E : mz_En SX 55 mz_cl dC dI ad ca p s m meth c prog_15_method_38_code 6 "MacroHouseModel" none) (n : Nat) (k : Nat) : ∀ (x4 : Int32) (x5 : Int32) (t : mz_St), f_MO_hold_70 n k x4 x5 t = some res → ∀ (H : Heap) (locs : List Loc) (ls : Array Slot), mz_Wd mz_tM 55 mz_cl dC dI ad en ca s t H locs → lv_has ls 6 [(0, .ref (ad 0)), (4, .int x4), (5, .int x5)] → W p l e (r_MO_hold) s m args below meth c H locs 0 0 (MQ below (mz_Q SX mz_tM 55 mz_cl dC dI ad en ca none res) args s 0 0 (mz_A ad 55)) (F0 m 70 ls []) := by
  obtain ⟨hx, hb, hml, hown, hcx, -, -, hSX, -, -, hSK⟩ := id E
  induction k with
  | zero => intro x4 x5 t hf; exact absurd hf (by unfold f_MO_hold_70; exact fun h => nomatch h)
  | succ k ih =>
    intro x4 x5 t hf H locs ls w hl
    unfold f_MO_hold_70 at hf
    refine lv_iload hx hb d_MO_hold_70 (lv_at hl 2 rfl) ?_
    refine lv_iload hx hb d_MO_hold_72 (lv_at hl 1 rfl) ?_
    refine lv_icmp_ge (tgt := 109) hx hb d_MO_hold_74 (by decide) (fun hc5 => ?_) (fun hc5 => ?_)
    · have hf := mz_t hc5 hf
      refine lv_aload_n hx hb d_MO_hold_109 rfl (lv_at hl 0 rfl) ?_
      refine mz_get E w 0 50 (v := .ref (ad 36)) (by decide) rfl rfl ii_11 (by decide) (Nat.le_of_ble_eq_true rfl) k_1233 rfl d_MO_hold_110 ?_
      refine lv_aload_n hx hb d_MO_hold_113 rfl (lv_at hl 0 rfl) ?_
      refine mz_get E w 0 48 (v := .int (mz_gI t 0 48)) (by decide) rfl rfl ii_11 (by decide) (Nat.le_of_ble_eq_true rfl) k_1231 rfl d_MO_hold_114 ?_
      refine lv_aload_n hx hb d_MO_hold_117 rfl (lv_at hl 0 rfl) ?_
      refine mz_get E w 0 51 (v := .int (mz_gI t 0 51)) (by decide) rfl rfl ii_11 (by decide) (Nat.le_of_ble_eq_true rfl) k_1234 rfl d_MO_hold_118 ?_
      obtain ⟨hi6, hf⟩ := mz_gd hf
      refine mz_iast E w 36 (x := (mz_gI t 0 51)) (by decide) rfl hi6 d_MO_hold_121 (fun H locs w => ?_)
      obtain ⟨t7, e_t7, hf⟩ := mz_lt hf
      rw [← e_t7] at w
      refine lv_aload_n hx hb d_MO_hold_122 rfl (lv_at hl 0 rfl) ?_
      refine lv_dup hx hb d_MO_hold_123 rfl ?_
      refine mz_get E w 0 48 (v := .int (mz_gI t7 0 48)) (by decide) rfl rfl ii_11 (by decide) (Nat.le_of_ble_eq_true rfl) k_1231 rfl d_MO_hold_124 ?_
      refine lv_iconst (v := (1 : Int32)) hx hb d_MO_hold_127 (by decide) ?_
      refine lv_iadd hx hb d_MO_hold_128 ?_
      refine mz_put E w 0 48 (v := ((mz_gI t7 0 48) + (1 : Int32))) (by decide) rfl rfl ii_11 tk_11 nm_11 (by decide) (Nat.le_of_ble_eq_true rfl) k_1231 rfl (tk_11 48 (by decide)) rfl rfl rfl d_MO_hold_129 (fun H locs w => ?_)
      obtain ⟨t8, e_t8, hf⟩ := mz_lt hf
      rw [← e_t8] at w
      obtain rfl := Option.some.inj hf
      exact mz_vret E w rfl d_MO_hold_132
    · have hf := mz_f hc5 hf
      refine lv_aload_n hx hb d_MO_hold_77 rfl (lv_at hl 0 rfl) ?_
      refine mz_get E w 0 52 (v := .ref (ad 37)) (by decide) rfl rfl ii_11 (by decide) (Nat.le_of_ble_eq_true rfl) k_1235 rfl d_MO_hold_78 ?_
      refine lv_aload_n hx hb d_MO_hold_81 rfl (lv_at hl 0 rfl) ?_
      refine mz_get E w 0 51 (v := .int (mz_gI t 0 51)) (by decide) rfl rfl ii_11 (by decide) (Nat.le_of_ble_eq_true rfl) k_1234 rfl d_MO_hold_82 ?_
      refine lv_aload_n hx hb d_MO_hold_85 rfl (lv_at hl 0 rfl) ?_
      refine mz_get E w 0 59 (v := .ref (ad 43)) (by decide) rfl rfl ii_11 (by decide) (Nat.le_of_ble_eq_true rfl) k_1242 rfl d_MO_hold_86 ?_
      refine lv_iload hx hb d_MO_hold_89 (lv_at hl 2 rfl) ?_
      obtain ⟨hi9, hf⟩ := mz_gd hf
      refine mz_iald E w 43 (by decide) rfl hi9 d_MO_hold_91 ?_
      obtain ⟨hi10, hf⟩ := mz_gd hf
      refine mz_iast E w 37 (x := (mz_gI t 43 x5.toNatClampNeg)) (by decide) rfl hi10 d_MO_hold_92 (fun H locs w => ?_)
      obtain ⟨t11, e_t11, hf⟩ := mz_lt hf
      rw [← e_t11] at w
      refine lv_aload_n hx hb d_MO_hold_93 rfl (lv_at hl 0 rfl) ?_
      refine lv_dup hx hb d_MO_hold_94 rfl ?_
      refine mz_get E w 0 51 (v := .int (mz_gI t11 0 51)) (by decide) rfl rfl ii_11 (by decide) (Nat.le_of_ble_eq_true rfl) k_1234 rfl d_MO_hold_95 ?_
      refine lv_iconst (v := (1 : Int32)) hx hb d_MO_hold_98 (by decide) ?_
      refine lv_iadd hx hb d_MO_hold_99 ?_
      refine mz_put E w 0 51 (v := ((mz_gI t11 0 51) + (1 : Int32))) (by decide) rfl rfl ii_11 tk_11 nm_11 (by decide) (Nat.le_of_ble_eq_true rfl) k_1234 rfl (tk_11 51 (by decide)) rfl rfl rfl d_MO_hold_100 (fun H locs w => ?_)
      obtain ⟨t12, e_t12, hf⟩ := mz_lt hf
      rw [← e_t12] at w
      refine lv_iinc (v := (x5 + (1 : Int32))) (lv' := [(5, .int (x5 + (1 : Int32))), (0, .ref (ad 0)), (4, .int x4)]) hx hb d_MO_hold_103 hl (k := 2) rfl rfl (by decide) rfl (fun ls hl => ?_)
      refine lv_goto (tgt := 70) hx hb d_MO_hold_106 (by decide) ?_
      exact ih x4 (x5 + (1 : Int32)) t12 hf _ _ _ w (lv_sub hl [1, 2, 0] rfl)
set_option maxRecDepth 100000 in
set_option maxHeartbeats 4000000 in
theorem b_MO_hold_54 {SX : State → Heap → Prop} {dC : Nat → ClassId} {dI : Nat → Nat → Nat} {ad en : Nat → Nat} {ca : Nat → ClassId} {p : Program} {l : Launch} {e : Env} {s : State} {m : MethodId} {args : Array Value} {below : List Frame} {meth : Method} {c : Code} {res : mz_St} (E : mz_En SX 55 mz_cl dC dI ad ca p s m meth c prog_15_method_38_code 6 "MacroHouseModel" none) (n : Nat) : ∀ (x3 : Int32) (x4 : Int32) (t : mz_St), f_MO_hold_54 n x3 x4 t = some res → ∀ (H : Heap) (locs : List Loc) (ls : Array Slot), mz_Wd mz_tM 55 mz_cl dC dI ad en ca s t H locs → lv_has ls 6 [(0, .ref (ad 0)), (3, .int x3), (4, .int x4)] → W p l e (r_MO_hold) s m args below meth c H locs 0 0 (MQ below (mz_Q SX mz_tM 55 mz_cl dC dI ad en ca none res) args s 0 0 (mz_A ad 55)) (F0 m 54 ls []) := by
  obtain ⟨hx, hb, hml, hown, hcx, -, -, hSX, -, -, hSK⟩ := id E
  intro x3 x4 t hf H locs ls w hl
  unfold f_MO_hold_54 at hf
  refine lv_aload_n hx hb d_MO_hold_54 rfl (lv_at hl 0 rfl) ?_
  refine mz_get E w 0 49 (v := .ref (ad 35)) (by decide) rfl rfl ii_11 (by decide) (Nat.le_of_ble_eq_true rfl) k_1232 rfl d_MO_hold_55 ?_
  refine lv_aload_n hx hb d_MO_hold_58 rfl (lv_at hl 0 rfl) ?_
  refine mz_get E w 0 48 (v := .int (mz_gI t 0 48)) (by decide) rfl rfl ii_11 (by decide) (Nat.le_of_ble_eq_true rfl) k_1231 rfl d_MO_hold_59 ?_
  refine lv_aload_n hx hb d_MO_hold_62 rfl (lv_at hl 0 rfl) ?_
  refine mz_get E w 0 51 (v := .int (mz_gI t 0 51)) (by decide) rfl rfl ii_11 (by decide) (Nat.le_of_ble_eq_true rfl) k_1234 rfl d_MO_hold_63 ?_
  obtain ⟨hi3, hf⟩ := mz_gd hf
  refine mz_iast E w 35 (x := (mz_gI t 0 51)) (by decide) rfl hi3 d_MO_hold_66 (fun H locs w => ?_)
  obtain ⟨t4, e_t4, hf⟩ := mz_lt hf
  rw [← e_t4] at w
  refine lv_iload_n hx hb d_MO_hold_67 rfl (lv_at hl 1 rfl) ?_
  refine lv_istore (lv' := [(5, .int x3), (0, .ref (ad 0)), (3, .int x3), (4, .int x4)]) hx hb d_MO_hold_68 hl (by decide) rfl (fun ls hl => ?_)
  exact b_MO_hold_70 E n n x4 x3 t4 hf _ _ _ w (lv_sub hl [1, 3, 0] rfl)
set_option maxRecDepth 100000 in
set_option maxHeartbeats 4000000 in
theorem b_MO_hold_28 {SX : State → Heap → Prop} {dC : Nat → ClassId} {dI : Nat → Nat → Nat} {ad en : Nat → Nat} {ca : Nat → ClassId} {p : Program} {l : Launch} {e : Env} {s : State} {m : MethodId} {args : Array Value} {below : List Frame} {meth : Method} {c : Code} {res : mz_St} (E : mz_En SX 55 mz_cl dC dI ad ca p s m meth c prog_15_method_38_code 6 "MacroHouseModel" none) (n : Nat) (k : Nat) : ∀ (x3 : Int32) (x4 : Int32) (t : mz_St), f_MO_hold_28 n k x3 x4 t = some res → ∀ (H : Heap) (locs : List Loc) (ls : Array Slot), mz_Wd mz_tM 55 mz_cl dC dI ad en ca s t H locs → lv_has ls 6 [(0, .ref (ad 0)), (3, .int x3), (4, .int x4)] → W p l e (r_MO_hold) s m args below meth c H locs 0 0 (MQ below (mz_Q SX mz_tM 55 mz_cl dC dI ad en ca none res) args s 0 0 (mz_A ad 55)) (F0 m 28 ls []) := by
  obtain ⟨hx, hb, hml, hown, hcx, -, -, hSX, -, -, hSK⟩ := id E
  induction k with
  | zero => intro x3 x4 t hf; exact absurd hf (by unfold f_MO_hold_28; exact fun h => nomatch h)
  | succ k ih =>
    intro x3 x4 t hf H locs ls w hl
    unfold f_MO_hold_28 at hf
    refine lv_iload_n hx hb d_MO_hold_28 rfl (lv_at hl 1 rfl) ?_
    refine lv_iload hx hb d_MO_hold_29 (lv_at hl 2 rfl) ?_
    refine lv_icmp_ge (tgt := 54) hx hb d_MO_hold_31 (by decide) (fun hc2 => ?_) (fun hc2 => ?_)
    · have hf := mz_t hc2 hf
      exact b_MO_hold_54 E n x3 x4 t hf _ _ _ w (lv_sub hl [0, 1, 2] rfl)
    · have hf := mz_f hc2 hf
      refine lv_aload_n hx hb d_MO_hold_34 rfl (lv_at hl 0 rfl) ?_
      refine mz_get E w 0 59 (v := .ref (ad 43)) (by decide) rfl rfl ii_11 (by decide) (Nat.le_of_ble_eq_true rfl) k_1242 rfl d_MO_hold_35 ?_
      refine lv_iload hx hb d_MO_hold_38 (lv_at hl 2 rfl) ?_
      refine lv_iconst (v := (1 : Int32)) hx hb d_MO_hold_40 (by decide) ?_
      refine lv_isub hx hb d_MO_hold_41 ?_
      obtain ⟨hi13, hf⟩ := mz_gd hf
      refine mz_iald E w 43 (by decide) rfl hi13 d_MO_hold_42 ?_
      refine lv_bipush (v := (32 : Int32)) hx hb d_MO_hold_43 (by decide) ?_
      refine lv_icmp_ne (tgt := 54) hx hb d_MO_hold_45 (by decide) (fun hc14 => ?_) (fun hc14 => ?_)
      · have hf := mz_f hc14 hf
        exact b_MO_hold_54 E n x3 x4 t hf _ _ _ w (lv_sub hl [0, 1, 2] rfl)
      · have hf := mz_t hc14 hf
        refine lv_iinc (v := (x4 + (-1 : Int32))) (lv' := [(4, .int (x4 + (-1 : Int32))), (0, .ref (ad 0)), (3, .int x3)]) hx hb d_MO_hold_48 hl (k := 2) rfl rfl (by decide) rfl (fun ls hl => ?_)
        refine lv_goto (tgt := 28) hx hb d_MO_hold_51 (by decide) ?_
        exact ih x3 (x4 + (-1 : Int32)) t hf _ _ _ w (lv_sub hl [1, 2, 0] rfl)
set_option maxRecDepth 100000 in
set_option maxHeartbeats 4000000 in
theorem b_MO_hold_5 {SX : State → Heap → Prop} {dC : Nat → ClassId} {dI : Nat → Nat → Nat} {ad en : Nat → Nat} {ca : Nat → ClassId} {p : Program} {l : Launch} {e : Env} {s : State} {m : MethodId} {args : Array Value} {below : List Frame} {meth : Method} {c : Code} {res : mz_St} (E : mz_En SX 55 mz_cl dC dI ad ca p s m meth c prog_15_method_38_code 6 "MacroHouseModel" none) (n : Nat) (k : Nat) : ∀ (x3 : Int32) (x4 : Int32) (t : mz_St), f_MO_hold_5 n k x3 x4 t = some res → ∀ (H : Heap) (locs : List Loc) (ls : Array Slot), mz_Wd mz_tM 55 mz_cl dC dI ad en ca s t H locs → lv_has ls 6 [(0, .ref (ad 0)), (3, .int x3), (4, .int x4)] → W p l e (r_MO_hold) s m args below meth c H locs 0 0 (MQ below (mz_Q SX mz_tM 55 mz_cl dC dI ad en ca none res) args s 0 0 (mz_A ad 55)) (F0 m 5 ls []) := by
  obtain ⟨hx, hb, hml, hown, hcx, -, -, hSX, -, -, hSK⟩ := id E
  induction k with
  | zero => intro x3 x4 t hf; exact absurd hf (by unfold f_MO_hold_5; exact fun h => nomatch h)
  | succ k ih =>
    intro x3 x4 t hf H locs ls w hl
    unfold f_MO_hold_5 at hf
    refine lv_iload_n hx hb d_MO_hold_5 rfl (lv_at hl 1 rfl) ?_
    refine lv_iload hx hb d_MO_hold_6 (lv_at hl 2 rfl) ?_
    refine lv_icmp_ge (tgt := 28) hx hb d_MO_hold_8 (by decide) (fun hc1 => ?_) (fun hc1 => ?_)
    · have hf := mz_t hc1 hf
      exact b_MO_hold_28 E n n x3 x4 t hf _ _ _ w (lv_sub hl [0, 1, 2] rfl)
    · have hf := mz_f hc1 hf
      refine lv_aload_n hx hb d_MO_hold_11 rfl (lv_at hl 0 rfl) ?_
      refine mz_get E w 0 59 (v := .ref (ad 43)) (by decide) rfl rfl ii_11 (by decide) (Nat.le_of_ble_eq_true rfl) k_1242 rfl d_MO_hold_12 ?_
      refine lv_iload_n hx hb d_MO_hold_15 rfl (lv_at hl 1 rfl) ?_
      obtain ⟨hi15, hf⟩ := mz_gd hf
      refine mz_iald E w 43 (by decide) rfl hi15 d_MO_hold_16 ?_
      refine lv_bipush (v := (32 : Int32)) hx hb d_MO_hold_17 (by decide) ?_
      refine lv_icmp_ne (tgt := 28) hx hb d_MO_hold_19 (by decide) (fun hc16 => ?_) (fun hc16 => ?_)
      · have hf := mz_f hc16 hf
        exact b_MO_hold_28 E n n x3 x4 t hf _ _ _ w (lv_sub hl [0, 1, 2] rfl)
      · have hf := mz_t hc16 hf
        refine lv_iinc (v := (x3 + (1 : Int32))) (lv' := [(3, .int (x3 + (1 : Int32))), (0, .ref (ad 0)), (4, .int x4)]) hx hb d_MO_hold_22 hl (k := 1) rfl rfl (by decide) rfl (fun ls hl => ?_)
        refine lv_goto (tgt := 5) hx hb d_MO_hold_25 (by decide) ?_
        exact ih (x3 + (1 : Int32)) x4 t hf _ _ _ w (lv_sub hl [1, 0, 2] rfl)
set_option maxRecDepth 100000 in
set_option maxHeartbeats 4000000 in
theorem c_MO_hold {SX : State → Heap → Prop} {dC : Nat → ClassId} {dI : Nat → Nat → Nat} {ad en : Nat → Nat} {ca : Nat → ClassId} (hSK : mz_SK SX ad 55) (l : Launch) (n : Nat) (x1 : Int32) (x2 : Int32) (t : mz_St) (res : mz_St) (hf : f_MO_hold n x1 x2 t = some res) : mz_C SX mz_tM 55 mz_cl dC dI ad en ca l y_MO_hold prog_15_method_38_code 6 none (r_MO_hold) [.ref (ad 0), .int x1, .int x2] t none res := by
  unfold f_MO_hold at hf
  refine mz_met hSK (by decide) (Nat.le_of_ble_eq_true rfl) ?_
  intro p e s m args below meth c ls E w hl
  obtain ⟨hx, hb, hml, hown, hcx, -, -, hSX, -, -, -⟩ := id E
  have hl : lv_has ls 6 [(0, .ref (ad 0)), (1, .int x1), (2, .int x2)] := hl
  refine lv_iload_n hx hb d_MO_hold_0 rfl (lv_at hl 1 rfl) ?_
  refine lv_istore_n (lv' := [(3, .int x1), (0, .ref (ad 0)), (1, .int x1), (2, .int x2)]) hx hb d_MO_hold_1 rfl hl (by decide) rfl (fun ls hl => ?_)
  refine lv_iload_n hx hb d_MO_hold_2 rfl (lv_at hl 3 rfl) ?_
  refine lv_istore (lv' := [(4, .int x2), (3, .int x1), (0, .ref (ad 0)), (1, .int x1), (2, .int x2)]) hx hb d_MO_hold_3 hl (by decide) rfl (fun ls hl => ?_)
  exact b_MO_hold_5 E n n x1 x2 t hf _ _ _ w (lv_sub hl [2, 1, 0] rfl)
