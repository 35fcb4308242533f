/-! MacroHouseModel.call(I)V -/
abbrev r_MO_call : Room := { frames := 2, cells := 0, slots := 0, locals := 51 }
def f_MO_call_247 (n : Nat) (x1 : Int32) (x2 : Int32) (x3 : Int32) (t : mz_St) : Option mz_St := if (mz_gI t 0 62) = 0 then ((f_MO_fail n (1 : Int32) (mz_gI t 0 63) t).bind fun q27 => some q27) else (if ¬ (x1 < 0 ∨ 16 ≤ x1.toNatClampNeg) then (mz_let (mz_pI t 0 48 (x2 + (mz_gI t 10 x1.toNatClampNeg))) fun t11 => if (mz_gI t11 0 34) ≤ (12 : Int32) then (if ¬ ((mz_gI t11 0 34) < 0 ∨ 14 ≤ (mz_gI t11 0 34).toNatClampNeg) then (mz_let (mz_pI t11 28 (mz_gI t11 0 34).toNatClampNeg x1) fun t14 => if ¬ ((mz_gI t14 0 34) < 0 ∨ 14 ≤ (mz_gI t14 0 34).toNatClampNeg) then (mz_let (mz_pI t14 29 (mz_gI t14 0 34).toNatClampNeg (mz_gI t14 0 9)) fun t16 => if ¬ (x1 < 0 ∨ 16 ≤ x1.toNatClampNeg) then (if ¬ (x1 < 0 ∨ 16 ≤ x1.toNatClampNeg) then ((f_MO_beginFrame n (1 : Int32) (mz_gI t16 6 x1.toNatClampNeg) (mz_gI t16 7 x1.toNatClampNeg) (1 : Int32) x2 x3 t16).bind fun q19 => if ¬ (x1 < 0 ∨ 16 ≤ x1.toNatClampNeg) then (if ¬ (x1 < 0 ∨ 16 ≤ x1.toNatClampNeg) then (mz_let (mz_pI q19 9 x1.toNatClampNeg ((mz_gI q19 9 x1.toNatClampNeg) + (1 : Int32))) fun t23 => mz_let (mz_pI t23 0 9 ((mz_gI t23 0 9) + (1 : Int32))) fun t24 => some t24) else none) else none) else none) else none) else none) else none) else ((f_MO_fail n (6 : Int32) (mz_gI t11 0 63) t11).bind fun q25 => some q25)) else none)
def f_MO_call_241 (n : Nat) (K64 : Int32 → Int32 → Int32 → Int32 → Int32 → mz_St → Option mz_St) (x1 : Int32) (x2 : Int32) (x3 : Int32) (x4 : Int32) (x5 : Int32) (t : mz_St) : Option mz_St := K64 x1 x2 x3 x4 (x5 + (1 : Int32)) t
def f_MO_call_179 (n : Nat) (K64 : Int32 → Int32 → Int32 → Int32 → Int32 → mz_St → Option mz_St) : Nat → Int32 → Int32 → Int32 → Int32 → Int32 → Int32 → mz_St → Option mz_St
  | 0, _, _, _, _, _, _, _ => none
  | k + 1, x1, x2, x3, x4, x5, x8, t => if ¬ ((((6 : Int32) * x1) + x5) < 0 ∨ 96 ≤ (((6 : Int32) * x1) + x5).toNatClampNeg) then (if (mz_gI t 14 (((6 : Int32) * x1) + x5).toNatClampNeg) ≤ x8 then (if ¬ ((x2 + x5) < 0 ∨ 24000 ≤ (x2 + x5).toNatClampNeg) then (mz_let (mz_pI t 36 (x2 + x5).toNatClampNeg (mz_gI t 0 51)) fun t42 => f_MO_call_241 n K64 x1 x2 x3 x4 x5 t42) else none) else (if ¬ (x8 < 0 ∨ 3000 ≤ x8.toNatClampNeg) then (if ¬ ((mz_gI t 0 51) < 0 ∨ 48000 ≤ (mz_gI t 0 51).toNatClampNeg) then (mz_let (mz_pI t 37 (mz_gI t 0 51).toNatClampNeg (mz_gI t 1 x8.toNatClampNeg)) fun t45 => mz_let (mz_pI t45 0 51 ((mz_gI t45 0 51) + (1 : Int32))) fun t46 => (f_MO_call_179 n K64 k) x1 x2 x3 x4 x5 (x8 + (1 : Int32)) t46) else none) else none)) else none
def f_MO_call_147 (n : Nat) (K64 : Int32 → Int32 → Int32 → Int32 → Int32 → mz_St → Option mz_St) (x1 : Int32) (x2 : Int32) (x3 : Int32) (x4 : Int32) (x5 : Int32) (x6 : Int32) (x7 : Int32) (s1 : Int32) (t : mz_St) : Option mz_St := if s1 = 0 ∨ s1 = 1 then (mz_let (mz_pI t 0 62 s1) fun t34 => if x6 = 0 then (f_MO_call_241 n K64 x1 x2 x3 x4 x5 t34) else (if (mz_gI t34 0 62) = 0 then (f_MO_call_241 n K64 x1 x2 x3 x4 x5 t34) else (if ¬ ((x2 + x5) < 0 ∨ 24000 ≤ (x2 + x5).toNatClampNeg) then (mz_let (mz_pI t34 35 (x2 + x5).toNatClampNeg (mz_gI t34 0 51)) fun t38 => f_MO_call_179 n K64 n x1 x2 x3 x4 x5 x7 t38) else none))) else none
def f_MO_call_142 (n : Nat) (K64 : Int32 → Int32 → Int32 → Int32 → Int32 → mz_St → Option mz_St) (x1 : Int32) (x2 : Int32) (x3 : Int32) (x4 : Int32) (x5 : Int32) (x6 : Int32) (x7 : Int32) (t : mz_St) : Option mz_St := f_MO_call_147 n K64 x1 x2 x3 x4 x5 x6 x7 (1 : Int32) t
def f_MO_call_115 (n : Nat) (K64 : Int32 → Int32 → Int32 → Int32 → Int32 → mz_St → Option mz_St) (x1 : Int32) (x2 : Int32) (x3 : Int32) (x4 : Int32) (x5 : Int32) (s0 : Int32) (t : mz_St) : Option mz_St := if ¬ ((((6 : Int32) * x1) + x5) < 0 ∨ 96 ≤ (((6 : Int32) * x1) + x5).toNatClampNeg) then (if s0 = 0 then (f_MO_call_142 n K64 x1 x2 x3 x4 x5 s0 (mz_gI t 13 (((6 : Int32) * x1) + x5).toNatClampNeg) t) else (if (mz_gI t 13 (((6 : Int32) * x1) + x5).toNatClampNeg) < 0 then (f_MO_call_147 n K64 x1 x2 x3 x4 x5 s0 (mz_gI t 13 (((6 : Int32) * x1) + x5).toNatClampNeg) (0 : Int32) t) else (f_MO_call_142 n K64 x1 x2 x3 x4 x5 s0 (mz_gI t 13 (((6 : Int32) * x1) + x5).toNatClampNeg) t))) else none
def f_MO_call_110 (n : Nat) (K64 : Int32 → Int32 → Int32 → Int32 → Int32 → mz_St → Option mz_St) (x1 : Int32) (x2 : Int32) (x3 : Int32) (x4 : Int32) (x5 : Int32) (t : mz_St) : Option mz_St := f_MO_call_115 n K64 x1 x2 x3 x4 x5 (1 : Int32) t
def f_MO_call_64 (n : Nat) : Nat → Int32 → Int32 → Int32 → Int32 → Int32 → mz_St → Option mz_St
  | 0, _, _, _, _, _, _ => none
  | k + 1, x1, x2, x3, x4, x5, t => if ¬ (x1 < 0 ∨ 16 ≤ x1.toNatClampNeg) then (if (mz_gI t 10 x1.toNatClampNeg) ≤ x5 then (f_MO_call_247 n x1 x2 x3 t) else (if (mz_gI t 0 62) = 0 then (f_MO_call_247 n x1 x2 x3 t) else (if x4 ≤ x5 then (f_MO_call_110 n (f_MO_call_64 n k) x1 x2 x3 x4 x5 t) else (if ¬ ((x2 + x5) < 0 ∨ 24000 ≤ (x2 + x5).toNatClampNeg) then (if ¬ ((x2 + x5) < 0 ∨ 24000 ≤ (x2 + x5).toNatClampNeg) then (if (mz_gI t 35 (x2 + x5).toNatClampNeg) = (mz_gI t 36 (x2 + x5).toNatClampNeg) then (f_MO_call_110 n (f_MO_call_64 n k) x1 x2 x3 x4 x5 t) else (f_MO_call_115 n (f_MO_call_64 n k) x1 x2 x3 x4 x5 (0 : Int32) t)) else none) else none)))) else none
def f_MO_call_58 (n : Nat) (x1 : Int32) (x2 : Int32) (x3 : Int32) (x4 : Int32) (s1 : Int32) (t : mz_St) : Option mz_St := if s1 = 0 ∨ s1 = 1 then (mz_let (mz_pI t 0 62 s1) fun t6 => f_MO_call_64 n n x1 x2 x3 x4 (0 : Int32) t6) else none
def f_MO_call_57 (n : Nat) (x1 : Int32) (x2 : Int32) (x3 : Int32) (x4 : Int32) (t : mz_St) : Option mz_St := f_MO_call_58 n x1 x2 x3 x4 (0 : Int32) t
def f_MO_call_34 (n : Nat) (x1 : Int32) (x2 : Int32) (x3 : Int32) (x4 : Int32) (t : mz_St) : Option mz_St := if (mz_gI t 0 62) = 0 then (f_MO_call_57 n x1 x2 x3 x4 t) else (if ¬ (x1 < 0 ∨ 16 ≤ x1.toNatClampNeg) then (if (mz_gI t 10 x1.toNatClampNeg) < x4 then (f_MO_call_57 n x1 x2 x3 x4 t) else (f_MO_call_58 n x1 x2 x3 x4 (1 : Int32) t)) else none)
def f_MO_call (n : Nat) (x1 : Int32) (t : mz_St) : Option mz_St := (f_MO_blanks n t).bind fun q1 => if (mz_gI q1 0 60) ≤ (mz_gI q1 0 61) then (f_MO_call_34 n x1 (mz_gI t 0 48) (mz_gI t 0 51) (0 : Int32) q1) else ((f_MO_readTexts n q1).bind fun q53 => f_MO_call_34 n x1 (mz_gI t 0 48) (mz_gI t 0 51) q53.1 q53.2)
set_option maxRecDepth 100000 in
set_option maxHeartbeats 4000000 in
theorem b_MO_call_247 {SX : State → Heap → Prop} {dC : Nat → ClassId} {dI : Nat → Nat → Nat} {ad en : Nat → Nat} {ca : Nat → ClassId} {p : Program} {l : Launch} {e : Env} {s : State} {m : MethodId} {args : Array Value} {below : List Frame} {meth : Method} {c : Code} {res : mz_St} (E : mz_En SX 55 mz_cl dC dI ad ca p s m meth c prog_15_method_47_code 9 "MacroHouseModel" none) (n : Nat) : ∀ (x1 : Int32) (x2 : Int32) (x3 : Int32) (t : mz_St), f_MO_call_247 n x1 x2 x3 t = some res → ∀ (H : Heap) (locs : List Loc) (ls : Array Slot), mz_Wd mz_tM 55 mz_cl dC dI ad en ca s t H locs → lv_has ls 9 [(0, .ref (ad 0)), (1, .int x1), (2, .int x2), (3, .int x3)] → W p l e (r_MO_call) s m args below meth c H locs 0 0 (MQ below (mz_Q SX mz_tM 55 mz_cl dC dI ad en ca none res) args s 0 0 (mz_A ad 55)) (F0 m 247 ls []) := by
  obtain ⟨hx, hb, hml, hown, hcx, -, -, hSX, -, -, hSK⟩ := id E
  intro x1 x2 x3 t hf H locs ls w hl
  unfold f_MO_call_247 at hf
  refine lv_aload_n hx hb d_MO_call_247 rfl (lv_at hl 0 rfl) ?_
  refine mz_get E w 0 62 (v := .int (mz_gI t 0 62)) (by decide) rfl rfl ii_11 (by decide) (Nat.le_of_ble_eq_true rfl) k_1245 rfl d_MO_call_248 ?_
  refine lv_if_ne (tgt := 264) hx hb d_MO_call_251 (by decide) (fun hc9 => ?_) (fun hc9 => ?_)
  · have hf := mz_f hc9 hf
    refine lv_aload_n hx hb d_MO_call_264 rfl (lv_at hl 0 rfl) ?_
    refine lv_iload_n hx hb d_MO_call_265 rfl (lv_at hl 2 rfl) ?_
    refine lv_aload_n hx hb d_MO_call_266 rfl (lv_at hl 0 rfl) ?_
    refine mz_get E w 0 19 (v := .ref (ad 10)) (by decide) rfl rfl ii_11 (by decide) (Nat.le_of_ble_eq_true rfl) k_1202 rfl d_MO_call_267 ?_
    refine lv_iload_n hx hb d_MO_call_270 rfl (lv_at hl 1 rfl) ?_
    obtain ⟨hi10, hf⟩ := mz_gd hf
    refine mz_iald E w 10 (by decide) rfl hi10 d_MO_call_271 ?_
    refine lv_iadd hx hb d_MO_call_272 ?_
    refine mz_put E w 0 48 (v := (x2 + (mz_gI t 10 x1.toNatClampNeg))) (by decide) rfl rfl ii_11 tk_11 nm_11 (by decide) (Nat.le_of_ble_eq_true rfl) k_1231 rfl (tk_11 48 (by decide)) rfl rfl rfl d_MO_call_273 (fun H locs w => ?_)
    obtain ⟨t11, e_t11, hf⟩ := mz_lt hf
    rw [← e_t11] at w
    refine lv_aload_n hx hb d_MO_call_276 rfl (lv_at hl 0 rfl) ?_
    refine mz_get E w 0 34 (v := .int (mz_gI t11 0 34)) (by decide) rfl rfl ii_11 (by decide) (Nat.le_of_ble_eq_true rfl) k_1217 rfl d_MO_call_277 ?_
    refine lv_bipush (v := (12 : Int32)) hx hb d_MO_call_280 (by decide) ?_
    refine lv_icmp_le (tgt := 296) hx hb d_MO_call_282 (by decide) (fun hc12 => ?_) (fun hc12 => ?_)
    · have hf := mz_t hc12 hf
      refine lv_aload_n hx hb d_MO_call_296 rfl (lv_at hl 0 rfl) ?_
      refine mz_get E w 0 41 (v := .ref (ad 28)) (by decide) rfl rfl ii_11 (by decide) (Nat.le_of_ble_eq_true rfl) k_1224 rfl d_MO_call_297 ?_
      refine lv_aload_n hx hb d_MO_call_300 rfl (lv_at hl 0 rfl) ?_
      refine mz_get E w 0 34 (v := .int (mz_gI t11 0 34)) (by decide) rfl rfl ii_11 (by decide) (Nat.le_of_ble_eq_true rfl) k_1217 rfl d_MO_call_301 ?_
      refine lv_iload_n hx hb d_MO_call_304 rfl (lv_at hl 1 rfl) ?_
      obtain ⟨hi13, hf⟩ := mz_gd hf
      refine mz_iast E w 28 (x := x1) (by decide) rfl hi13 d_MO_call_305 (fun H locs w => ?_)
      obtain ⟨t14, e_t14, hf⟩ := mz_lt hf
      rw [← e_t14] at w
      refine lv_aload_n hx hb d_MO_call_306 rfl (lv_at hl 0 rfl) ?_
      refine mz_get E w 0 42 (v := .ref (ad 29)) (by decide) rfl rfl ii_11 (by decide) (Nat.le_of_ble_eq_true rfl) k_1225 rfl d_MO_call_307 ?_
      refine lv_aload_n hx hb d_MO_call_310 rfl (lv_at hl 0 rfl) ?_
      refine mz_get E w 0 34 (v := .int (mz_gI t14 0 34)) (by decide) rfl rfl ii_11 (by decide) (Nat.le_of_ble_eq_true rfl) k_1217 rfl d_MO_call_311 ?_
      refine lv_aload_n hx hb d_MO_call_314 rfl (lv_at hl 0 rfl) ?_
      refine mz_get E w 0 9 (v := .int (mz_gI t14 0 9)) (by decide) rfl rfl ii_11 (by decide) (Nat.le_of_ble_eq_true rfl) k_1192 rfl d_MO_call_315 ?_
      obtain ⟨hi15, hf⟩ := mz_gd hf
      refine mz_iast E w 29 (x := (mz_gI t14 0 9)) (by decide) rfl hi15 d_MO_call_318 (fun H locs w => ?_)
      obtain ⟨t16, e_t16, hf⟩ := mz_lt hf
      rw [← e_t16] at w
      refine lv_aload_n hx hb d_MO_call_319 rfl (lv_at hl 0 rfl) ?_
      refine lv_iconst (v := (1 : Int32)) hx hb d_MO_call_320 (by decide) ?_
      refine lv_aload_n hx hb d_MO_call_321 rfl (lv_at hl 0 rfl) ?_
      refine mz_get E w 0 15 (v := .ref (ad 6)) (by decide) rfl rfl ii_11 (by decide) (Nat.le_of_ble_eq_true rfl) k_1198 rfl d_MO_call_322 ?_
      refine lv_iload_n hx hb d_MO_call_325 rfl (lv_at hl 1 rfl) ?_
      obtain ⟨hi17, hf⟩ := mz_gd hf
      refine mz_iald E w 6 (by decide) rfl hi17 d_MO_call_326 ?_
      refine lv_aload_n hx hb d_MO_call_327 rfl (lv_at hl 0 rfl) ?_
      refine mz_get E w 0 16 (v := .ref (ad 7)) (by decide) rfl rfl ii_11 (by decide) (Nat.le_of_ble_eq_true rfl) k_1199 rfl d_MO_call_328 ?_
      refine lv_iload_n hx hb d_MO_call_331 rfl (lv_at hl 1 rfl) ?_
      obtain ⟨hi18, hf⟩ := mz_gd hf
      refine mz_iald E w 7 (by decide) rfl hi18 d_MO_call_332 ?_
      refine lv_iconst (v := (1 : Int32)) hx hb d_MO_call_333 (by decide) ?_
      refine lv_iload_n hx hb d_MO_call_334 rfl (lv_at hl 2 rfl) ?_
      refine lv_iload_n hx hb d_MO_call_335 rfl (lv_at hl 3 rfl) ?_
      obtain ⟨q19, hq20, hf⟩ := mz_bd hf
      refine mz_callV E w (k := 0) (As := [.int (1 : Int32), .int (mz_gI t16 6 x1.toNatClampNeg), .int (mz_gI t16 7 x1.toNatClampNeg), .int (1 : Int32), .int x2, .int x3]) (rest := []) (c_MO_beginFrame hSK l n (1 : Int32) (mz_gI t16 6 x1.toNatClampNeg) (mz_gI t16 7 x1.toNatClampNeg) (1 : Int32) x2 x3 t16 q19 hq20) (by decide) rfl rfl k_1455 k_15 k_1452 k_1454 ks_50 hm_MO_beginFrame ⟨⟨rfl, rfl⟩, Nat.le_of_ble_eq_true rfl, Nat.le_of_ble_eq_true rfl⟩ rfl hl.1 rfl (Nat.le_of_ble_eq_true rfl) d_MO_call_336 ⟨Nat.zero_le _, Nat.zero_le _⟩ (st1 := []) rfl (fun H locs w => ?_)
      refine lv_aload_n hx hb d_MO_call_339 rfl (lv_at hl 0 rfl) ?_
      refine mz_get E w 0 18 (v := .ref (ad 9)) (by decide) rfl rfl ii_11 (by decide) (Nat.le_of_ble_eq_true rfl) k_1201 rfl d_MO_call_340 ?_
      refine lv_iload_n hx hb d_MO_call_343 rfl (lv_at hl 1 rfl) ?_
      refine lv_dup2_11 hx hb d_MO_call_344 rfl rfl ?_
      obtain ⟨hi21, hf⟩ := mz_gd hf
      refine mz_iald E w 9 (by decide) rfl hi21 d_MO_call_345 ?_
      refine lv_iconst (v := (1 : Int32)) hx hb d_MO_call_346 (by decide) ?_
      refine lv_iadd hx hb d_MO_call_347 ?_
      obtain ⟨hi22, hf⟩ := mz_gd hf
      refine mz_iast E w 9 (x := ((mz_gI q19 9 x1.toNatClampNeg) + (1 : Int32))) (by decide) rfl hi22 d_MO_call_348 (fun H locs w => ?_)
      obtain ⟨t23, e_t23, hf⟩ := mz_lt hf
      rw [← e_t23] at w
      refine lv_aload_n hx hb d_MO_call_349 rfl (lv_at hl 0 rfl) ?_
      refine lv_dup hx hb d_MO_call_350 rfl ?_
      refine mz_get E w 0 9 (v := .int (mz_gI t23 0 9)) (by decide) rfl rfl ii_11 (by decide) (Nat.le_of_ble_eq_true rfl) k_1192 rfl d_MO_call_351 ?_
      refine lv_iconst (v := (1 : Int32)) hx hb d_MO_call_354 (by decide) ?_
      refine lv_iadd hx hb d_MO_call_355 ?_
      refine mz_put E w 0 9 (v := ((mz_gI t23 0 9) + (1 : Int32))) (by decide) rfl rfl ii_11 tk_11 nm_11 (by decide) (Nat.le_of_ble_eq_true rfl) k_1192 rfl (tk_11 9 (by decide)) rfl rfl rfl d_MO_call_356 (fun H locs w => ?_)
      obtain ⟨t24, e_t24, hf⟩ := mz_lt hf
      rw [← e_t24] at w
      obtain rfl := Option.some.inj hf
      exact mz_vret E w rfl d_MO_call_359
    · have hf := mz_f hc12 hf
      refine lv_aload_n hx hb d_MO_call_285 rfl (lv_at hl 0 rfl) ?_
      refine lv_bipush (v := (6 : Int32)) hx hb d_MO_call_286 (by decide) ?_
      refine lv_aload_n hx hb d_MO_call_288 rfl (lv_at hl 0 rfl) ?_
      refine mz_get E w 0 63 (v := .int (mz_gI t11 0 63)) (by decide) rfl rfl ii_11 (by decide) (Nat.le_of_ble_eq_true rfl) k_1246 rfl d_MO_call_289 ?_
      obtain ⟨q25, hq26, hf⟩ := mz_bd hf
      refine mz_callV E w (k := 0) (As := [.int (6 : Int32), .int (mz_gI t11 0 63)]) (rest := []) (c_MO_fail hSK l n (6 : Int32) (mz_gI t11 0 63) t11 q25 hq26) (by decide) rfl rfl k_1467 k_15 k_1464 k_1466 ks_53 hm_MO_fail ⟨⟨rfl, rfl⟩, Nat.le_of_ble_eq_true rfl, Nat.le_of_ble_eq_true rfl⟩ rfl hl.1 rfl (Nat.le_of_ble_eq_true rfl) d_MO_call_292 ⟨Nat.zero_le _, Nat.zero_le _⟩ (st1 := []) rfl (fun H locs w => ?_)
      obtain rfl := Option.some.inj hf
      exact mz_vret E w rfl d_MO_call_295
  · have hf := mz_t hc9 hf
    refine lv_aload_n hx hb d_MO_call_254 rfl (lv_at hl 0 rfl) ?_
    refine lv_iconst (v := (1 : Int32)) hx hb d_MO_call_255 (by decide) ?_
    refine lv_aload_n hx hb d_MO_call_256 rfl (lv_at hl 0 rfl) ?_
    refine mz_get E w 0 63 (v := .int (mz_gI t 0 63)) (by decide) rfl rfl ii_11 (by decide) (Nat.le_of_ble_eq_true rfl) k_1246 rfl d_MO_call_257 ?_
    obtain ⟨q27, hq28, hf⟩ := mz_bd hf
    refine mz_callV E w (k := 0) (As := [.int (1 : Int32), .int (mz_gI t 0 63)]) (rest := []) (c_MO_fail hSK l n (1 : Int32) (mz_gI t 0 63) t q27 hq28) (by decide) rfl rfl k_1467 k_15 k_1464 k_1466 ks_53 hm_MO_fail ⟨⟨rfl, rfl⟩, Nat.le_of_ble_eq_true rfl, Nat.le_of_ble_eq_true rfl⟩ rfl hl.1 rfl (Nat.le_of_ble_eq_true rfl) d_MO_call_260 ⟨Nat.zero_le _, Nat.zero_le _⟩ (st1 := []) rfl (fun H locs w => ?_)
    obtain rfl := Option.some.inj hf
    exact mz_vret E w rfl d_MO_call_263
set_option maxRecDepth 100000 in
set_option maxHeartbeats 4000000 in
theorem b_MO_call_241 {SX : State → Heap → Prop} {dC : Nat → ClassId} {dI : Nat → Nat → Nat} {ad en : Nat → Nat} {ca : Nat → ClassId} {p : Program} {l : Launch} {e : Env} {s : State} {m : MethodId} {args : Array Value} {below : List Frame} {meth : Method} {c : Code} {res : mz_St} (E : mz_En SX 55 mz_cl dC dI ad ca p s m meth c prog_15_method_47_code 9 "MacroHouseModel" none) (n : Nat) (K64 : Int32 → Int32 → Int32 → Int32 → Int32 → mz_St → Option mz_St) (hK64 : ∀ (x1 : Int32) (x2 : Int32) (x3 : Int32) (x4 : Int32) (x5 : Int32) (t : mz_St), K64 x1 x2 x3 x4 x5 t = some res → ∀ (H : Heap) (locs : List Loc) (ls : Array Slot), mz_Wd mz_tM 55 mz_cl dC dI ad en ca s t H locs → lv_has ls 9 [(0, .ref (ad 0)), (1, .int x1), (2, .int x2), (3, .int x3), (4, .int x4), (5, .int x5)] → W p l e (r_MO_call) s m args below meth c H locs 0 0 (MQ below (mz_Q SX mz_tM 55 mz_cl dC dI ad en ca none res) args s 0 0 (mz_A ad 55)) (F0 m 64 ls [])) : ∀ (x1 : Int32) (x2 : Int32) (x3 : Int32) (x4 : Int32) (x5 : Int32) (t : mz_St), f_MO_call_241 n K64 x1 x2 x3 x4 x5 t = some res → ∀ (H : Heap) (locs : List Loc) (ls : Array Slot), mz_Wd mz_tM 55 mz_cl dC dI ad en ca s t H locs → lv_has ls 9 [(0, .ref (ad 0)), (1, .int x1), (2, .int x2), (3, .int x3), (4, .int x4), (5, .int x5)] → W p l e (r_MO_call) s m args below meth c H locs 0 0 (MQ below (mz_Q SX mz_tM 55 mz_cl dC dI ad en ca none res) args s 0 0 (mz_A ad 55)) (F0 m 241 ls []) := by
  obtain ⟨hx, hb, hml, hown, hcx, -, -, hSX, -, -, hSK⟩ := id E
  intro x1 x2 x3 x4 x5 t hf H locs ls w hl
  unfold f_MO_call_241 at hf
  refine lv_iinc (v := (x5 + (1 : Int32))) (lv' := [(5, .int (x5 + (1 : Int32))), (0, .ref (ad 0)), (1, .int x1), (2, .int x2), (3, .int x3), (4, .int x4)]) hx hb d_MO_call_241 hl (k := 5) rfl rfl (by decide) rfl (fun ls hl => ?_)
  refine lv_goto (tgt := 64) hx hb d_MO_call_244 (by decide) ?_
  exact hK64 x1 x2 x3 x4 (x5 + (1 : Int32)) t hf _ _ _ w (lv_sub hl [1, 2, 3, 4, 5, 0] rfl)
set_option maxRecDepth 100000 in
set_option maxHeartbeats 4000000 in
theorem b_MO_call_179 {SX : State → Heap → Prop} {dC : Nat → ClassId} {dI : Nat → Nat → Nat} {ad en : Nat → Nat} {ca : Nat → ClassId} {p : Program} {l : Launch} {e : Env} {s : State} {m : MethodId} {args : Array Value} {below : List Frame} {meth : Method} {c : Code} {res : mz_St} (E : mz_En SX 55 mz_cl dC dI ad ca p s m meth c prog_15_method_47_code 9 "MacroHouseModel" none) (n : Nat) (K64 : Int32 → Int32 → Int32 → Int32 → Int32 → mz_St → Option mz_St) (hK64 : ∀ (x1 : Int32) (x2 : Int32) (x3 : Int32) (x4 : Int32) (x5 : Int32) (t : mz_St), K64 x1 x2 x3 x4 x5 t = some res → ∀ (H : Heap) (locs : List Loc) (ls : Array Slot), mz_Wd mz_tM 55 mz_cl dC dI ad en ca s t H locs → lv_has ls 9 [(0, .ref (ad 0)), (1, .int x1), (2, .int x2), (3, .int x3), (4, .int x4), (5, .int x5)] → W p l e (r_MO_call) s m args below meth c H locs 0 0 (MQ below (mz_Q SX mz_tM 55 mz_cl dC dI ad en ca none res) args s 0 0 (mz_A ad 55)) (F0 m 64 ls [])) (k : Nat) : ∀ (x1 : Int32) (x2 : Int32) (x3 : Int32) (x4 : Int32) (x5 : Int32) (x8 : Int32) (t : mz_St), f_MO_call_179 n K64 k x1 x2 x3 x4 x5 x8 t = some res → ∀ (H : Heap) (locs : List Loc) (ls : Array Slot), mz_Wd mz_tM 55 mz_cl dC dI ad en ca s t H locs → lv_has ls 9 [(0, .ref (ad 0)), (1, .int x1), (2, .int x2), (3, .int x3), (4, .int x4), (5, .int x5), (8, .int x8)] → W p l e (r_MO_call) s m args below meth c H locs 0 0 (MQ below (mz_Q SX mz_tM 55 mz_cl dC dI ad en ca none res) args s 0 0 (mz_A ad 55)) (F0 m 179 ls []) := by
  obtain ⟨hx, hb, hml, hown, hcx, -, -, hSX, -, -, hSK⟩ := id E
  induction k with
  | zero => intro x1 x2 x3 x4 x5 x8 t hf; exact absurd hf (by unfold f_MO_call_179; exact fun h => nomatch h)
  | succ k ih =>
    intro x1 x2 x3 x4 x5 x8 t hf H locs ls w hl
    unfold f_MO_call_179 at hf
    refine lv_iload hx hb d_MO_call_179 (lv_at hl 6 rfl) ?_
    refine lv_aload_n hx hb d_MO_call_181 rfl (lv_at hl 0 rfl) ?_
    refine mz_get E w 0 23 (v := .ref (ad 14)) (by decide) rfl rfl ii_11 (by decide) (Nat.le_of_ble_eq_true rfl) k_1206 rfl d_MO_call_182 ?_
    refine lv_bipush (v := (6 : Int32)) hx hb d_MO_call_185 (by decide) ?_
    refine lv_iload_n hx hb d_MO_call_187 rfl (lv_at hl 1 rfl) ?_
    refine lv_imul hx hb d_MO_call_188 ?_
    refine lv_iload hx hb d_MO_call_189 (lv_at hl 5 rfl) ?_
    refine lv_iadd hx hb d_MO_call_191 ?_
    obtain ⟨hi39, hf⟩ := mz_gd hf
    refine mz_iald E w 14 (by decide) rfl hi39 d_MO_call_192 ?_
    refine lv_icmp_ge (tgt := 228) hx hb d_MO_call_193 (by decide) (fun hc40 => ?_) (fun hc40 => ?_)
    · have hf := mz_t hc40 hf
      refine lv_aload_n hx hb d_MO_call_228 rfl (lv_at hl 0 rfl) ?_
      refine mz_get E w 0 50 (v := .ref (ad 36)) (by decide) rfl rfl ii_11 (by decide) (Nat.le_of_ble_eq_true rfl) k_1233 rfl d_MO_call_229 ?_
      refine lv_iload_n hx hb d_MO_call_232 rfl (lv_at hl 2 rfl) ?_
      refine lv_iload hx hb d_MO_call_233 (lv_at hl 5 rfl) ?_
      refine lv_iadd hx hb d_MO_call_235 ?_
      refine lv_aload_n hx hb d_MO_call_236 rfl (lv_at hl 0 rfl) ?_
      refine mz_get E w 0 51 (v := .int (mz_gI t 0 51)) (by decide) rfl rfl ii_11 (by decide) (Nat.le_of_ble_eq_true rfl) k_1234 rfl d_MO_call_237 ?_
      obtain ⟨hi41, hf⟩ := mz_gd hf
      refine mz_iast E w 36 (x := (mz_gI t 0 51)) (by decide) rfl hi41 d_MO_call_240 (fun H locs w => ?_)
      obtain ⟨t42, e_t42, hf⟩ := mz_lt hf
      rw [← e_t42] at w
      exact b_MO_call_241 E n K64 hK64 x1 x2 x3 x4 x5 t42 hf _ _ _ w (lv_sub hl [0, 1, 2, 3, 4, 5] rfl)
    · have hf := mz_f hc40 hf
      refine lv_aload_n hx hb d_MO_call_196 rfl (lv_at hl 0 rfl) ?_
      refine mz_get E w 0 52 (v := .ref (ad 37)) (by decide) rfl rfl ii_11 (by decide) (Nat.le_of_ble_eq_true rfl) k_1235 rfl d_MO_call_197 ?_
      refine lv_aload_n hx hb d_MO_call_200 rfl (lv_at hl 0 rfl) ?_
      refine mz_get E w 0 51 (v := .int (mz_gI t 0 51)) (by decide) rfl rfl ii_11 (by decide) (Nat.le_of_ble_eq_true rfl) k_1234 rfl d_MO_call_201 ?_
      refine lv_aload_n hx hb d_MO_call_204 rfl (lv_at hl 0 rfl) ?_
      refine mz_get E w 0 1 (v := .ref (ad 1)) (by decide) rfl rfl ii_11 (by decide) (Nat.le_of_ble_eq_true rfl) k_1184 rfl d_MO_call_205 ?_
      refine lv_iload hx hb d_MO_call_208 (lv_at hl 6 rfl) ?_
      obtain ⟨hi43, hf⟩ := mz_gd hf
      refine mz_iald E w 1 (by decide) rfl hi43 d_MO_call_210 ?_
      obtain ⟨hi44, hf⟩ := mz_gd hf
      refine mz_iast E w 37 (x := (mz_gI t 1 x8.toNatClampNeg)) (by decide) rfl hi44 d_MO_call_211 (fun H locs w => ?_)
      obtain ⟨t45, e_t45, hf⟩ := mz_lt hf
      rw [← e_t45] at w
      refine lv_aload_n hx hb d_MO_call_212 rfl (lv_at hl 0 rfl) ?_
      refine lv_dup hx hb d_MO_call_213 rfl ?_
      refine mz_get E w 0 51 (v := .int (mz_gI t45 0 51)) (by decide) rfl rfl ii_11 (by decide) (Nat.le_of_ble_eq_true rfl) k_1234 rfl d_MO_call_214 ?_
      refine lv_iconst (v := (1 : Int32)) hx hb d_MO_call_217 (by decide) ?_
      refine lv_iadd hx hb d_MO_call_218 ?_
      refine mz_put E w 0 51 (v := ((mz_gI t45 0 51) + (1 : Int32))) (by decide) rfl rfl ii_11 tk_11 nm_11 (by decide) (Nat.le_of_ble_eq_true rfl) k_1234 rfl (tk_11 51 (by decide)) rfl rfl rfl d_MO_call_219 (fun H locs w => ?_)
      obtain ⟨t46, e_t46, hf⟩ := mz_lt hf
      rw [← e_t46] at w
      refine lv_iinc (v := (x8 + (1 : Int32))) (lv' := [(8, .int (x8 + (1 : Int32))), (0, .ref (ad 0)), (1, .int x1), (2, .int x2), (3, .int x3), (4, .int x4), (5, .int x5)]) hx hb d_MO_call_222 hl (k := 6) rfl rfl (by decide) rfl (fun ls hl => ?_)
      refine lv_goto (tgt := 179) hx hb d_MO_call_225 (by decide) ?_
      exact ih x1 x2 x3 x4 x5 (x8 + (1 : Int32)) t46 hf _ _ _ w (lv_sub hl [1, 2, 3, 4, 5, 6, 0] rfl)
set_option maxRecDepth 100000 in
set_option maxHeartbeats 4000000 in
theorem b_MO_call_147 {SX : State → Heap → Prop} {dC : Nat → ClassId} {dI : Nat → Nat → Nat} {ad en : Nat → Nat} {ca : Nat → ClassId} {p : Program} {l : Launch} {e : Env} {s : State} {m : MethodId} {args : Array Value} {below : List Frame} {meth : Method} {c : Code} {res : mz_St} (E : mz_En SX 55 mz_cl dC dI ad ca p s m meth c prog_15_method_47_code 9 "MacroHouseModel" none) (n : Nat) (K64 : Int32 → Int32 → Int32 → Int32 → Int32 → mz_St → Option mz_St) (hK64 : ∀ (x1 : Int32) (x2 : Int32) (x3 : Int32) (x4 : Int32) (x5 : Int32) (t : mz_St), K64 x1 x2 x3 x4 x5 t = some res → ∀ (H : Heap) (locs : List Loc) (ls : Array Slot), mz_Wd mz_tM 55 mz_cl dC dI ad en ca s t H locs → lv_has ls 9 [(0, .ref (ad 0)), (1, .int x1), (2, .int x2), (3, .int x3), (4, .int x4), (5, .int x5)] → W p l e (r_MO_call) s m args below meth c H locs 0 0 (MQ below (mz_Q SX mz_tM 55 mz_cl dC dI ad en ca none res) args s 0 0 (mz_A ad 55)) (F0 m 64 ls [])) : ∀ (x1 : Int32) (x2 : Int32) (x3 : Int32) (x4 : Int32) (x5 : Int32) (x6 : Int32) (x7 : Int32) (s1 : Int32) (t : mz_St), f_MO_call_147 n K64 x1 x2 x3 x4 x5 x6 x7 s1 t = some res → ∀ (H : Heap) (locs : List Loc) (ls : Array Slot), mz_Wd mz_tM 55 mz_cl dC dI ad en ca s t H locs → lv_has ls 9 [(0, .ref (ad 0)), (1, .int x1), (2, .int x2), (3, .int x3), (4, .int x4), (5, .int x5), (6, .int x6), (7, .int x7)] → W p l e (r_MO_call) s m args below meth c H locs 0 0 (MQ below (mz_Q SX mz_tM 55 mz_cl dC dI ad en ca none res) args s 0 0 (mz_A ad 55)) (F0 m 147 ls [.int s1, .ref (ad 0)]) := by
  obtain ⟨hx, hb, hml, hown, hcx, -, -, hSX, -, -, hSK⟩ := id E
  intro x1 x2 x3 x4 x5 x6 x7 s1 t hf H locs ls w hl
  unfold f_MO_call_147 at hf
  obtain ⟨hz33, hf⟩ := mz_gd hf
  refine mz_put E w 0 62 (v := s1) (by decide) rfl rfl ii_11 tk_11 nm_11 (by decide) (Nat.le_of_ble_eq_true rfl) k_1245 rfl (tk_11 62 (by decide)) rfl (mz_b01 hz33) (mz_f01 hz33) d_MO_call_147 (fun H locs w => ?_)
  obtain ⟨t34, e_t34, hf⟩ := mz_lt hf
  rw [← e_t34] at w
  refine lv_iload hx hb d_MO_call_150 (lv_at hl 6 rfl) ?_
  refine lv_if_eq (tgt := 241) hx hb d_MO_call_152 (by decide) (fun hc35 => ?_) (fun hc35 => ?_)
  · have hf := mz_t hc35 hf
    exact b_MO_call_241 E n K64 hK64 x1 x2 x3 x4 x5 t34 hf _ _ _ w (lv_sub hl [0, 1, 2, 3, 4, 5] rfl)
  · have hf := mz_f hc35 hf
    refine lv_aload_n hx hb d_MO_call_155 rfl (lv_at hl 0 rfl) ?_
    refine mz_get E w 0 62 (v := .int (mz_gI t34 0 62)) (by decide) rfl rfl ii_11 (by decide) (Nat.le_of_ble_eq_true rfl) k_1245 rfl d_MO_call_156 ?_
    refine lv_if_eq (tgt := 241) hx hb d_MO_call_159 (by decide) (fun hc36 => ?_) (fun hc36 => ?_)
    · have hf := mz_t hc36 hf
      exact b_MO_call_241 E n K64 hK64 x1 x2 x3 x4 x5 t34 hf _ _ _ w (lv_sub hl [0, 1, 2, 3, 4, 5] rfl)
    · have hf := mz_f hc36 hf
      refine lv_aload_n hx hb d_MO_call_162 rfl (lv_at hl 0 rfl) ?_
      refine mz_get E w 0 49 (v := .ref (ad 35)) (by decide) rfl rfl ii_11 (by decide) (Nat.le_of_ble_eq_true rfl) k_1232 rfl d_MO_call_163 ?_
      refine lv_iload_n hx hb d_MO_call_166 rfl (lv_at hl 2 rfl) ?_
      refine lv_iload hx hb d_MO_call_167 (lv_at hl 5 rfl) ?_
      refine lv_iadd hx hb d_MO_call_169 ?_
      refine lv_aload_n hx hb d_MO_call_170 rfl (lv_at hl 0 rfl) ?_
      refine mz_get E w 0 51 (v := .int (mz_gI t34 0 51)) (by decide) rfl rfl ii_11 (by decide) (Nat.le_of_ble_eq_true rfl) k_1234 rfl d_MO_call_171 ?_
      obtain ⟨hi37, hf⟩ := mz_gd hf
      refine mz_iast E w 35 (x := (mz_gI t34 0 51)) (by decide) rfl hi37 d_MO_call_174 (fun H locs w => ?_)
      obtain ⟨t38, e_t38, hf⟩ := mz_lt hf
      rw [← e_t38] at w
      refine lv_iload hx hb d_MO_call_175 (lv_at hl 7 rfl) ?_
      refine lv_istore (lv' := [(8, .int x7), (0, .ref (ad 0)), (1, .int x1), (2, .int x2), (3, .int x3), (4, .int x4), (5, .int x5), (6, .int x6), (7, .int x7)]) hx hb d_MO_call_177 hl (by decide) rfl (fun ls hl => ?_)
      exact b_MO_call_179 E n K64 hK64 n x1 x2 x3 x4 x5 x7 t38 hf _ _ _ w (lv_sub hl [1, 2, 3, 4, 5, 6, 0] rfl)
set_option maxRecDepth 100000 in
set_option maxHeartbeats 4000000 in
theorem b_MO_call_142 {SX : State → Heap → Prop} {dC : Nat → ClassId} {dI : Nat → Nat → Nat} {ad en : Nat → Nat} {ca : Nat → ClassId} {p : Program} {l : Launch} {e : Env} {s : State} {m : MethodId} {args : Array Value} {below : List Frame} {meth : Method} {c : Code} {res : mz_St} (E : mz_En SX 55 mz_cl dC dI ad ca p s m meth c prog_15_method_47_code 9 "MacroHouseModel" none) (n : Nat) (K64 : Int32 → Int32 → Int32 → Int32 → Int32 → mz_St → Option mz_St) (hK64 : ∀ (x1 : Int32) (x2 : Int32) (x3 : Int32) (x4 : Int32) (x5 : Int32) (t : mz_St), K64 x1 x2 x3 x4 x5 t = some res → ∀ (H : Heap) (locs : List Loc) (ls : Array Slot), mz_Wd mz_tM 55 mz_cl dC dI ad en ca s t H locs → lv_has ls 9 [(0, .ref (ad 0)), (1, .int x1), (2, .int x2), (3, .int x3), (4, .int x4), (5, .int x5)] → W p l e (r_MO_call) s m args below meth c H locs 0 0 (MQ below (mz_Q SX mz_tM 55 mz_cl dC dI ad en ca none res) args s 0 0 (mz_A ad 55)) (F0 m 64 ls [])) : ∀ (x1 : Int32) (x2 : Int32) (x3 : Int32) (x4 : Int32) (x5 : Int32) (x6 : Int32) (x7 : Int32) (t : mz_St), f_MO_call_142 n K64 x1 x2 x3 x4 x5 x6 x7 t = some res → ∀ (H : Heap) (locs : List Loc) (ls : Array Slot), mz_Wd mz_tM 55 mz_cl dC dI ad en ca s t H locs → lv_has ls 9 [(0, .ref (ad 0)), (1, .int x1), (2, .int x2), (3, .int x3), (4, .int x4), (5, .int x5), (6, .int x6), (7, .int x7)] → W p l e (r_MO_call) s m args below meth c H locs 0 0 (MQ below (mz_Q SX mz_tM 55 mz_cl dC dI ad en ca none res) args s 0 0 (mz_A ad 55)) (F0 m 142 ls [.ref (ad 0)]) := by
  obtain ⟨hx, hb, hml, hown, hcx, -, -, hSX, -, -, hSK⟩ := id E
  intro x1 x2 x3 x4 x5 x6 x7 t hf H locs ls w hl
  unfold f_MO_call_142 at hf
  refine lv_iconst (v := (1 : Int32)) hx hb d_MO_call_142 (by decide) ?_
  refine lv_goto (tgt := 147) hx hb d_MO_call_143 (by decide) ?_
  exact b_MO_call_147 E n K64 hK64 x1 x2 x3 x4 x5 x6 x7 (1 : Int32) t hf _ _ _ w (lv_sub hl [0, 1, 2, 3, 4, 5, 6, 7] rfl)
set_option maxRecDepth 100000 in
set_option maxHeartbeats 4000000 in
theorem b_MO_call_115 {SX : State → Heap → Prop} {dC : Nat → ClassId} {dI : Nat → Nat → Nat} {ad en : Nat → Nat} {ca : Nat → ClassId} {p : Program} {l : Launch} {e : Env} {s : State} {m : MethodId} {args : Array Value} {below : List Frame} {meth : Method} {c : Code} {res : mz_St} (E : mz_En SX 55 mz_cl dC dI ad ca p s m meth c prog_15_method_47_code 9 "MacroHouseModel" none) (n : Nat) (K64 : Int32 → Int32 → Int32 → Int32 → Int32 → mz_St → Option mz_St) (hK64 : ∀ (x1 : Int32) (x2 : Int32) (x3 : Int32) (x4 : Int32) (x5 : Int32) (t : mz_St), K64 x1 x2 x3 x4 x5 t = some res → ∀ (H : Heap) (locs : List Loc) (ls : Array Slot), mz_Wd mz_tM 55 mz_cl dC dI ad en ca s t H locs → lv_has ls 9 [(0, .ref (ad 0)), (1, .int x1), (2, .int x2), (3, .int x3), (4, .int x4), (5, .int x5)] → W p l e (r_MO_call) s m args below meth c H locs 0 0 (MQ below (mz_Q SX mz_tM 55 mz_cl dC dI ad en ca none res) args s 0 0 (mz_A ad 55)) (F0 m 64 ls [])) : ∀ (x1 : Int32) (x2 : Int32) (x3 : Int32) (x4 : Int32) (x5 : Int32) (s0 : Int32) (t : mz_St), f_MO_call_115 n K64 x1 x2 x3 x4 x5 s0 t = some res → ∀ (H : Heap) (locs : List Loc) (ls : Array Slot), mz_Wd mz_tM 55 mz_cl dC dI ad en ca s t H locs → lv_has ls 9 [(0, .ref (ad 0)), (1, .int x1), (2, .int x2), (3, .int x3), (4, .int x4), (5, .int x5)] → W p l e (r_MO_call) s m args below meth c H locs 0 0 (MQ below (mz_Q SX mz_tM 55 mz_cl dC dI ad en ca none res) args s 0 0 (mz_A ad 55)) (F0 m 115 ls [.int s0]) := by
  obtain ⟨hx, hb, hml, hown, hcx, -, -, hSX, -, -, hSK⟩ := id E
  intro x1 x2 x3 x4 x5 s0 t hf H locs ls w hl
  unfold f_MO_call_115 at hf
  refine lv_istore (lv' := [(6, .int s0), (0, .ref (ad 0)), (1, .int x1), (2, .int x2), (3, .int x3), (4, .int x4), (5, .int x5)]) hx hb d_MO_call_115 hl (by decide) rfl (fun ls hl => ?_)
  refine lv_aload_n hx hb d_MO_call_117 rfl (lv_at hl 1 rfl) ?_
  refine mz_get E w 0 22 (v := .ref (ad 13)) (by decide) rfl rfl ii_11 (by decide) (Nat.le_of_ble_eq_true rfl) k_1205 rfl d_MO_call_118 ?_
  refine lv_bipush (v := (6 : Int32)) hx hb d_MO_call_121 (by decide) ?_
  refine lv_iload_n hx hb d_MO_call_123 rfl (lv_at hl 2 rfl) ?_
  refine lv_imul hx hb d_MO_call_124 ?_
  refine lv_iload hx hb d_MO_call_125 (lv_at hl 6 rfl) ?_
  refine lv_iadd hx hb d_MO_call_127 ?_
  obtain ⟨hi31, hf⟩ := mz_gd hf
  refine mz_iald E w 13 (by decide) rfl hi31 d_MO_call_128 ?_
  refine lv_istore (lv' := [(7, .int (mz_gI t 13 (((6 : Int32) * x1) + x5).toNatClampNeg)), (6, .int s0), (0, .ref (ad 0)), (1, .int x1), (2, .int x2), (3, .int x3), (4, .int x4), (5, .int x5)]) hx hb d_MO_call_129 hl (by decide) rfl (fun ls hl => ?_)
  refine lv_aload_n hx hb d_MO_call_131 rfl (lv_at hl 2 rfl) ?_
  refine lv_iload hx hb d_MO_call_132 (lv_at hl 1 rfl) ?_
  refine lv_if_eq (tgt := 142) hx hb d_MO_call_134 (by decide) (fun hc32 => ?_) (fun hc32 => ?_)
  · have hf := mz_t hc32 hf
    exact b_MO_call_142 E n K64 hK64 x1 x2 x3 x4 x5 s0 (mz_gI t 13 (((6 : Int32) * x1) + x5).toNatClampNeg) t hf _ _ _ w (lv_sub hl [2, 3, 4, 5, 6, 7, 1, 0] rfl)
  · have hf := mz_f hc32 hf
    refine lv_iload hx hb d_MO_call_137 (lv_at hl 0 rfl) ?_
    refine lv_if_lt (tgt := 146) hx hb d_MO_call_139 (by decide) (fun hc47 => ?_) (fun hc47 => ?_)
    · have hf := mz_t hc47 hf
      refine lv_iconst (v := (0 : Int32)) hx hb d_MO_call_146 (by decide) ?_
      exact b_MO_call_147 E n K64 hK64 x1 x2 x3 x4 x5 s0 (mz_gI t 13 (((6 : Int32) * x1) + x5).toNatClampNeg) (0 : Int32) t hf _ _ _ w (lv_sub hl [2, 3, 4, 5, 6, 7, 1, 0] rfl)
    · have hf := mz_f hc47 hf
      exact b_MO_call_142 E n K64 hK64 x1 x2 x3 x4 x5 s0 (mz_gI t 13 (((6 : Int32) * x1) + x5).toNatClampNeg) t hf _ _ _ w (lv_sub hl [2, 3, 4, 5, 6, 7, 1, 0] rfl)
set_option maxRecDepth 100000 in
set_option maxHeartbeats 4000000 in
theorem b_MO_call_110 {SX : State → Heap → Prop} {dC : Nat → ClassId} {dI : Nat → Nat → Nat} {ad en : Nat → Nat} {ca : Nat → ClassId} {p : Program} {l : Launch} {e : Env} {s : State} {m : MethodId} {args : Array Value} {below : List Frame} {meth : Method} {c : Code} {res : mz_St} (E : mz_En SX 55 mz_cl dC dI ad ca p s m meth c prog_15_method_47_code 9 "MacroHouseModel" none) (n : Nat) (K64 : Int32 → Int32 → Int32 → Int32 → Int32 → mz_St → Option mz_St) (hK64 : ∀ (x1 : Int32) (x2 : Int32) (x3 : Int32) (x4 : Int32) (x5 : Int32) (t : mz_St), K64 x1 x2 x3 x4 x5 t = some res → ∀ (H : Heap) (locs : List Loc) (ls : Array Slot), mz_Wd mz_tM 55 mz_cl dC dI ad en ca s t H locs → lv_has ls 9 [(0, .ref (ad 0)), (1, .int x1), (2, .int x2), (3, .int x3), (4, .int x4), (5, .int x5)] → W p l e (r_MO_call) s m args below meth c H locs 0 0 (MQ below (mz_Q SX mz_tM 55 mz_cl dC dI ad en ca none res) args s 0 0 (mz_A ad 55)) (F0 m 64 ls [])) : ∀ (x1 : Int32) (x2 : Int32) (x3 : Int32) (x4 : Int32) (x5 : Int32) (t : mz_St), f_MO_call_110 n K64 x1 x2 x3 x4 x5 t = some res → ∀ (H : Heap) (locs : List Loc) (ls : Array Slot), mz_Wd mz_tM 55 mz_cl dC dI ad en ca s t H locs → lv_has ls 9 [(0, .ref (ad 0)), (1, .int x1), (2, .int x2), (3, .int x3), (4, .int x4), (5, .int x5)] → W p l e (r_MO_call) s m args below meth c H locs 0 0 (MQ below (mz_Q SX mz_tM 55 mz_cl dC dI ad en ca none res) args s 0 0 (mz_A ad 55)) (F0 m 110 ls []) := by
  obtain ⟨hx, hb, hml, hown, hcx, -, -, hSX, -, -, hSK⟩ := id E
  intro x1 x2 x3 x4 x5 t hf H locs ls w hl
  unfold f_MO_call_110 at hf
  refine lv_iconst (v := (1 : Int32)) hx hb d_MO_call_110 (by decide) ?_
  refine lv_goto (tgt := 115) hx hb d_MO_call_111 (by decide) ?_
  exact b_MO_call_115 E n K64 hK64 x1 x2 x3 x4 x5 (1 : Int32) t hf _ _ _ w (lv_sub hl [0, 1, 2, 3, 4, 5] rfl)
set_option maxRecDepth 100000 in
set_option maxHeartbeats 4000000 in
theorem b_MO_call_64 {SX : State → Heap → Prop} {dC : Nat → ClassId} {dI : Nat → Nat → Nat} {ad en : Nat → Nat} {ca : Nat → ClassId} {p : Program} {l : Launch} {e : Env} {s : State} {m : MethodId} {args : Array Value} {below : List Frame} {meth : Method} {c : Code} {res : mz_St} (E : mz_En SX 55 mz_cl dC dI ad ca p s m meth c prog_15_method_47_code 9 "MacroHouseModel" none) (n : Nat) (k : Nat) : ∀ (x1 : Int32) (x2 : Int32) (x3 : Int32) (x4 : Int32) (x5 : Int32) (t : mz_St), f_MO_call_64 n k x1 x2 x3 x4 x5 t = some res → ∀ (H : Heap) (locs : List Loc) (ls : Array Slot), mz_Wd mz_tM 55 mz_cl dC dI ad en ca s t H locs → lv_has ls 9 [(0, .ref (ad 0)), (1, .int x1), (2, .int x2), (3, .int x3), (4, .int x4), (5, .int x5)] → W p l e (r_MO_call) s m args below meth c H locs 0 0 (MQ below (mz_Q SX mz_tM 55 mz_cl dC dI ad en ca none res) args s 0 0 (mz_A ad 55)) (F0 m 64 ls []) := by
  obtain ⟨hx, hb, hml, hown, hcx, -, -, hSX, -, -, hSK⟩ := id E
  induction k with
  | zero => intro x1 x2 x3 x4 x5 t hf; exact absurd hf (by unfold f_MO_call_64; exact fun h => nomatch h)
  | succ k ih =>
    intro x1 x2 x3 x4 x5 t hf H locs ls w hl
    unfold f_MO_call_64 at hf
    refine lv_iload hx hb d_MO_call_64 (lv_at hl 5 rfl) ?_
    refine lv_aload_n hx hb d_MO_call_66 rfl (lv_at hl 0 rfl) ?_
    refine mz_get E w 0 19 (v := .ref (ad 10)) (by decide) rfl rfl ii_11 (by decide) (Nat.le_of_ble_eq_true rfl) k_1202 rfl d_MO_call_67 ?_
    refine lv_iload_n hx hb d_MO_call_70 rfl (lv_at hl 1 rfl) ?_
    obtain ⟨hi7, hf⟩ := mz_gd hf
    refine mz_iald E w 10 (by decide) rfl hi7 d_MO_call_71 ?_
    refine lv_icmp_ge (tgt := 247) hx hb d_MO_call_72 (by decide) (fun hc8 => ?_) (fun hc8 => ?_)
    · have hf := mz_t hc8 hf
      exact b_MO_call_247 E n x1 x2 x3 t hf _ _ _ w (lv_sub hl [0, 1, 2, 3] rfl)
    · have hf := mz_f hc8 hf
      refine lv_aload_n hx hb d_MO_call_75 rfl (lv_at hl 0 rfl) ?_
      refine mz_get E w 0 62 (v := .int (mz_gI t 0 62)) (by decide) rfl rfl ii_11 (by decide) (Nat.le_of_ble_eq_true rfl) k_1245 rfl d_MO_call_76 ?_
      refine lv_if_eq (tgt := 247) hx hb d_MO_call_79 (by decide) (fun hc29 => ?_) (fun hc29 => ?_)
      · have hf := mz_t hc29 hf
        exact b_MO_call_247 E n x1 x2 x3 t hf _ _ _ w (lv_sub hl [0, 1, 2, 3] rfl)
      · have hf := mz_f hc29 hf
        refine lv_iload hx hb d_MO_call_82 (lv_at hl 5 rfl) ?_
        refine lv_iload hx hb d_MO_call_84 (lv_at hl 4 rfl) ?_
        refine lv_icmp_ge (tgt := 110) hx hb d_MO_call_86 (by decide) (fun hc30 => ?_) (fun hc30 => ?_)
        · have hf := mz_t hc30 hf
          exact b_MO_call_110 E n (f_MO_call_64 n k) ih x1 x2 x3 x4 x5 t hf _ _ _ w (lv_sub hl [0, 1, 2, 3, 4, 5] rfl)
        · have hf := mz_f hc30 hf
          refine lv_aload_n hx hb d_MO_call_89 rfl (lv_at hl 0 rfl) ?_
          refine mz_get E w 0 49 (v := .ref (ad 35)) (by decide) rfl rfl ii_11 (by decide) (Nat.le_of_ble_eq_true rfl) k_1232 rfl d_MO_call_90 ?_
          refine lv_iload_n hx hb d_MO_call_93 rfl (lv_at hl 2 rfl) ?_
          refine lv_iload hx hb d_MO_call_94 (lv_at hl 5 rfl) ?_
          refine lv_iadd hx hb d_MO_call_96 ?_
          obtain ⟨hi48, hf⟩ := mz_gd hf
          refine mz_iald E w 35 (by decide) rfl hi48 d_MO_call_97 ?_
          refine lv_aload_n hx hb d_MO_call_98 rfl (lv_at hl 0 rfl) ?_
          refine mz_get E w 0 50 (v := .ref (ad 36)) (by decide) rfl rfl ii_11 (by decide) (Nat.le_of_ble_eq_true rfl) k_1233 rfl d_MO_call_99 ?_
          refine lv_iload_n hx hb d_MO_call_102 rfl (lv_at hl 2 rfl) ?_
          refine lv_iload hx hb d_MO_call_103 (lv_at hl 5 rfl) ?_
          refine lv_iadd hx hb d_MO_call_105 ?_
          obtain ⟨hi49, hf⟩ := mz_gd hf
          refine mz_iald E w 36 (by decide) rfl hi49 d_MO_call_106 ?_
          refine lv_icmp_ne (tgt := 114) hx hb d_MO_call_107 (by decide) (fun hc50 => ?_) (fun hc50 => ?_)
          · have hf := mz_f hc50 hf
            refine lv_iconst (v := (0 : Int32)) hx hb d_MO_call_114 (by decide) ?_
            exact b_MO_call_115 E n (f_MO_call_64 n k) ih x1 x2 x3 x4 x5 (0 : Int32) t hf _ _ _ w (lv_sub hl [0, 1, 2, 3, 4, 5] rfl)
          · have hf := mz_t hc50 hf
            exact b_MO_call_110 E n (f_MO_call_64 n k) ih x1 x2 x3 x4 x5 t hf _ _ _ w (lv_sub hl [0, 1, 2, 3, 4, 5] rfl)
set_option maxRecDepth 100000 in
set_option maxHeartbeats 4000000 in
theorem b_MO_call_58 {SX : State → Heap → Prop} {dC : Nat → ClassId} {dI : Nat → Nat → Nat} {ad en : Nat → Nat} {ca : Nat → ClassId} {p : Program} {l : Launch} {e : Env} {s : State} {m : MethodId} {args : Array Value} {below : List Frame} {meth : Method} {c : Code} {res : mz_St} (E : mz_En SX 55 mz_cl dC dI ad ca p s m meth c prog_15_method_47_code 9 "MacroHouseModel" none) (n : Nat) : ∀ (x1 : Int32) (x2 : Int32) (x3 : Int32) (x4 : Int32) (s1 : Int32) (t : mz_St), f_MO_call_58 n x1 x2 x3 x4 s1 t = some res → ∀ (H : Heap) (locs : List Loc) (ls : Array Slot), mz_Wd mz_tM 55 mz_cl dC dI ad en ca s t H locs → lv_has ls 9 [(0, .ref (ad 0)), (1, .int x1), (2, .int x2), (3, .int x3), (4, .int x4)] → W p l e (r_MO_call) s m args below meth c H locs 0 0 (MQ below (mz_Q SX mz_tM 55 mz_cl dC dI ad en ca none res) args s 0 0 (mz_A ad 55)) (F0 m 58 ls [.int s1, .ref (ad 0)]) := by
  obtain ⟨hx, hb, hml, hown, hcx, -, -, hSX, -, -, hSK⟩ := id E
  intro x1 x2 x3 x4 s1 t hf H locs ls w hl
  unfold f_MO_call_58 at hf
  obtain ⟨hz5, hf⟩ := mz_gd hf
  refine mz_put E w 0 62 (v := s1) (by decide) rfl rfl ii_11 tk_11 nm_11 (by decide) (Nat.le_of_ble_eq_true rfl) k_1245 rfl (tk_11 62 (by decide)) rfl (mz_b01 hz5) (mz_f01 hz5) d_MO_call_58 (fun H locs w => ?_)
  obtain ⟨t6, e_t6, hf⟩ := mz_lt hf
  rw [← e_t6] at w
  refine lv_iconst (v := (0 : Int32)) hx hb d_MO_call_61 (by decide) ?_
  refine lv_istore (lv' := [(5, .int (0 : Int32)), (0, .ref (ad 0)), (1, .int x1), (2, .int x2), (3, .int x3), (4, .int x4)]) hx hb d_MO_call_62 hl (by decide) rfl (fun ls hl => ?_)
  exact b_MO_call_64 E n n x1 x2 x3 x4 (0 : Int32) t6 hf _ _ _ w (lv_sub hl [1, 2, 3, 4, 5, 0] rfl)
set_option maxRecDepth 100000 in
set_option maxHeartbeats 4000000 in
theorem b_MO_call_57 {SX : State → Heap → Prop} {dC : Nat → ClassId} {dI : Nat → Nat → Nat} {ad en : Nat → Nat} {ca : Nat → ClassId} {p : Program} {l : Launch} {e : Env} {s : State} {m : MethodId} {args : Array Value} {below : List Frame} {meth : Method} {c : Code} {res : mz_St} (E : mz_En SX 55 mz_cl dC dI ad ca p s m meth c prog_15_method_47_code 9 "MacroHouseModel" none) (n : Nat) : ∀ (x1 : Int32) (x2 : Int32) (x3 : Int32) (x4 : Int32) (t : mz_St), f_MO_call_57 n x1 x2 x3 x4 t = some res → ∀ (H : Heap) (locs : List Loc) (ls : Array Slot), mz_Wd mz_tM 55 mz_cl dC dI ad en ca s t H locs → lv_has ls 9 [(0, .ref (ad 0)), (1, .int x1), (2, .int x2), (3, .int x3), (4, .int x4)] → W p l e (r_MO_call) s m args below meth c H locs 0 0 (MQ below (mz_Q SX mz_tM 55 mz_cl dC dI ad en ca none res) args s 0 0 (mz_A ad 55)) (F0 m 57 ls [.ref (ad 0)]) := by
  obtain ⟨hx, hb, hml, hown, hcx, -, -, hSX, -, -, hSK⟩ := id E
  intro x1 x2 x3 x4 t hf H locs ls w hl
  unfold f_MO_call_57 at hf
  refine lv_iconst (v := (0 : Int32)) hx hb d_MO_call_57 (by decide) ?_
  exact b_MO_call_58 E n x1 x2 x3 x4 (0 : Int32) t hf _ _ _ w (lv_sub hl [0, 1, 2, 3, 4] rfl)
set_option maxRecDepth 100000 in
set_option maxHeartbeats 4000000 in
theorem b_MO_call_34 {SX : State → Heap → Prop} {dC : Nat → ClassId} {dI : Nat → Nat → Nat} {ad en : Nat → Nat} {ca : Nat → ClassId} {p : Program} {l : Launch} {e : Env} {s : State} {m : MethodId} {args : Array Value} {below : List Frame} {meth : Method} {c : Code} {res : mz_St} (E : mz_En SX 55 mz_cl dC dI ad ca p s m meth c prog_15_method_47_code 9 "MacroHouseModel" none) (n : Nat) : ∀ (x1 : Int32) (x2 : Int32) (x3 : Int32) (x4 : Int32) (t : mz_St), f_MO_call_34 n x1 x2 x3 x4 t = some res → ∀ (H : Heap) (locs : List Loc) (ls : Array Slot), mz_Wd mz_tM 55 mz_cl dC dI ad en ca s t H locs → lv_has ls 9 [(0, .ref (ad 0)), (1, .int x1), (2, .int x2), (3, .int x3), (4, .int x4)] → W p l e (r_MO_call) s m args below meth c H locs 0 0 (MQ below (mz_Q SX mz_tM 55 mz_cl dC dI ad en ca none res) args s 0 0 (mz_A ad 55)) (F0 m 34 ls []) := by
  obtain ⟨hx, hb, hml, hown, hcx, -, -, hSX, -, -, hSK⟩ := id E
  intro x1 x2 x3 x4 t hf H locs ls w hl
  unfold f_MO_call_34 at hf
  refine lv_aload_n hx hb d_MO_call_34 rfl (lv_at hl 0 rfl) ?_
  refine lv_aload_n hx hb d_MO_call_35 rfl (lv_at hl 0 rfl) ?_
  refine mz_get E w 0 62 (v := .int (mz_gI t 0 62)) (by decide) rfl rfl ii_11 (by decide) (Nat.le_of_ble_eq_true rfl) k_1245 rfl d_MO_call_36 ?_
  refine lv_if_eq (tgt := 57) hx hb d_MO_call_39 (by decide) (fun hc4 => ?_) (fun hc4 => ?_)
  · have hf := mz_t hc4 hf
    exact b_MO_call_57 E n x1 x2 x3 x4 t hf _ _ _ w (lv_sub hl [0, 1, 2, 3, 4] rfl)
  · have hf := mz_f hc4 hf
    refine lv_iload hx hb d_MO_call_42 (lv_at hl 4 rfl) ?_
    refine lv_aload_n hx hb d_MO_call_44 rfl (lv_at hl 0 rfl) ?_
    refine mz_get E w 0 19 (v := .ref (ad 10)) (by decide) rfl rfl ii_11 (by decide) (Nat.le_of_ble_eq_true rfl) k_1202 rfl d_MO_call_45 ?_
    refine lv_iload_n hx hb d_MO_call_48 rfl (lv_at hl 1 rfl) ?_
    obtain ⟨hi51, hf⟩ := mz_gd hf
    refine mz_iald E w 10 (by decide) rfl hi51 d_MO_call_49 ?_
    refine lv_icmp_gt (tgt := 57) hx hb d_MO_call_50 (by decide) (fun hc52 => ?_) (fun hc52 => ?_)
    · have hf := mz_t hc52 hf
      exact b_MO_call_57 E n x1 x2 x3 x4 t hf _ _ _ w (lv_sub hl [0, 1, 2, 3, 4] rfl)
    · have hf := mz_f hc52 hf
      refine lv_iconst (v := (1 : Int32)) hx hb d_MO_call_53 (by decide) ?_
      refine lv_goto (tgt := 58) hx hb d_MO_call_54 (by decide) ?_
      exact b_MO_call_58 E n x1 x2 x3 x4 (1 : Int32) t hf _ _ _ w (lv_sub hl [0, 1, 2, 3, 4] rfl)
set_option maxRecDepth 100000 in
set_option maxHeartbeats 4000000 in
theorem c_MO_call {SX : State → Heap → Prop} {dC : Nat → ClassId} {dI : Nat → Nat → Nat} {ad en : Nat → Nat} {ca : Nat → ClassId} (hSK : mz_SK SX ad 55) (l : Launch) (n : Nat) (x1 : Int32) (t : mz_St) (res : mz_St) (hf : f_MO_call n x1 t = some res) : mz_C SX mz_tM 55 mz_cl dC dI ad en ca l y_MO_call prog_15_method_47_code 9 none (r_MO_call) [.ref (ad 0), .int x1] t none res := by
  unfold f_MO_call at hf
  refine mz_met hSK (by decide) (Nat.le_of_ble_eq_true rfl) ?_
  intro p e s m args below meth c ls E w hl
  obtain ⟨hx, hb, hml, hown, hcx, -, -, hSX, -, -, -⟩ := id E
  have hl : lv_has ls 9 [(0, .ref (ad 0)), (1, .int x1)] := hl
  refine lv_aload_n hx hb d_MO_call_0 rfl (lv_at hl 0 rfl) ?_
  refine mz_get E w 0 48 (v := .int (mz_gI t 0 48)) (by decide) rfl rfl ii_11 (by decide) (Nat.le_of_ble_eq_true rfl) k_1231 rfl d_MO_call_1 ?_
  refine lv_istore_n (lv' := [(2, .int (mz_gI t 0 48)), (0, .ref (ad 0)), (1, .int x1)]) hx hb d_MO_call_4 rfl hl (by decide) rfl (fun ls hl => ?_)
  refine lv_aload_n hx hb d_MO_call_5 rfl (lv_at hl 1 rfl) ?_
  refine mz_get E w 0 51 (v := .int (mz_gI t 0 51)) (by decide) rfl rfl ii_11 (by decide) (Nat.le_of_ble_eq_true rfl) k_1234 rfl d_MO_call_6 ?_
  refine lv_istore_n (lv' := [(3, .int (mz_gI t 0 51)), (2, .int (mz_gI t 0 48)), (0, .ref (ad 0)), (1, .int x1)]) hx hb d_MO_call_9 rfl hl (by decide) rfl (fun ls hl => ?_)
  refine lv_iconst (v := (0 : Int32)) hx hb d_MO_call_10 (by decide) ?_
  refine lv_istore (lv' := [(4, .int (0 : Int32)), (3, .int (mz_gI t 0 51)), (2, .int (mz_gI t 0 48)), (0, .ref (ad 0)), (1, .int x1)]) hx hb d_MO_call_11 hl (by decide) rfl (fun ls hl => ?_)
  refine lv_aload_n hx hb d_MO_call_13 rfl (lv_at hl 3 rfl) ?_
  obtain ⟨q1, hq2, hf⟩ := mz_bd hf
  refine mz_callV E w (k := 0) (As := []) (rest := []) (c_MO_blanks hSK l n t q1 hq2) (by decide) rfl rfl k_1549 k_15 k_1546 k_1548 ks_67 hm_MO_blanks ⟨⟨rfl, rfl⟩, Nat.le_of_ble_eq_true rfl, Nat.le_of_ble_eq_true rfl⟩ rfl hl.1 rfl (Nat.le_of_ble_eq_true rfl) d_MO_call_14 ⟨Nat.zero_le _, Nat.zero_le _⟩ (st1 := []) rfl (fun H locs w => ?_)
  refine lv_aload_n hx hb d_MO_call_17 rfl (lv_at hl 3 rfl) ?_
  refine mz_get E w 0 61 (v := .int (mz_gI q1 0 61)) (by decide) rfl rfl ii_11 (by decide) (Nat.le_of_ble_eq_true rfl) k_1244 rfl d_MO_call_18 ?_
  refine lv_aload_n hx hb d_MO_call_21 rfl (lv_at hl 3 rfl) ?_
  refine mz_get E w 0 60 (v := .int (mz_gI q1 0 60)) (by decide) rfl rfl ii_11 (by decide) (Nat.le_of_ble_eq_true rfl) k_1243 rfl d_MO_call_22 ?_
  refine lv_icmp_ge (tgt := 34) hx hb d_MO_call_25 (by decide) (fun hc3 => ?_) (fun hc3 => ?_)
  · have hf := mz_t hc3 hf
    exact b_MO_call_34 E n x1 (mz_gI t 0 48) (mz_gI t 0 51) (0 : Int32) q1 hf _ _ _ w (lv_sub hl [3, 4, 2, 1, 0] rfl)
  · have hf := mz_f hc3 hf
    refine lv_aload_n hx hb d_MO_call_28 rfl (lv_at hl 3 rfl) ?_
    obtain ⟨q53, hq54, hf⟩ := mz_bd hf
    refine mz_callV E w (k := 0) (As := []) (rest := []) (c_MO_readTexts hSK l n q1 q53 hq54) (by decide) rfl rfl k_1664 k_15 k_1661 k_1663 ks_95 hm_MO_readTexts ⟨⟨rfl, rfl⟩, Nat.le_of_ble_eq_true rfl, Nat.le_of_ble_eq_true rfl⟩ rfl hl.1 rfl (Nat.le_of_ble_eq_true rfl) d_MO_call_29 ⟨Nat.zero_le _, Nat.zero_le _⟩ (st1 := [.int q53.1]) rfl (fun H locs w => ?_)
    refine lv_istore (lv' := [(4, .int q53.1), (3, .int (mz_gI t 0 51)), (2, .int (mz_gI t 0 48)), (0, .ref (ad 0)), (1, .int x1)]) hx hb d_MO_call_32 hl (by decide) rfl (fun ls hl => ?_)
    exact b_MO_call_34 E n x1 (mz_gI t 0 48) (mz_gI t 0 51) q53.1 q53.2 hf _ _ _ w (lv_sub hl [3, 4, 2, 1, 0] rfl)

/-! MacroHouseModel.goOut()V -/
abbrev r_MO_goOut : Room := { frames := 1, cells := 0, slots := 0, locals := 22 }
def f_MO_goOut_25 (n : Nat) (t : mz_St) : Option mz_St := (f_MO_fail n (6 : Int32) (mz_gI t 0 63) t).bind fun q2 => some q2
def f_MO_goOut_79 (n : Nat) : Nat → Int32 → mz_St → Option mz_St
  | 0, _, _ => none
  | k + 1, x1, t => if (mz_gI t 0 60) ≤ x1 then (mz_let (mz_pI t 0 28 ((mz_gI t 0 28) + (1 : Int32))) fun t12 => if ¬ ((mz_gI t12 0 28) < 0 ∨ 1001 ≤ (mz_gI t12 0 28).toNatClampNeg) then (mz_let (mz_pI t12 18 (mz_gI t12 0 28).toNatClampNeg (mz_gI t12 0 29)) fun t14 => some t14) else none) else (if ¬ (x1 < 0 ∨ 6000 ≤ x1.toNatClampNeg) then (if ¬ ((mz_gI t 0 29) < 0 ∨ 12000 ≤ (mz_gI t 0 29).toNatClampNeg) then (mz_let (mz_pI t 21 (mz_gI t 0 29).toNatClampNeg (mz_gI t 43 x1.toNatClampNeg)) fun t17 => mz_let (mz_pI t17 0 29 ((mz_gI t17 0 29) + (1 : Int32))) fun t18 => (f_MO_goOut_79 n k) (x1 + (1 : Int32)) t18) else none) else none)
def f_MO_goOut (n : Nat) (t : mz_St) : Option mz_St := if (mz_gI t 0 28) = (1000 : Int32) then (f_MO_goOut_25 n  t) else (if ((mz_gI t 0 29) + (mz_gI t 0 60)) ≤ (12000 : Int32) then (if ¬ ((mz_gI t 0 28) < 0 ∨ 1001 ≤ (mz_gI t 0 28).toNatClampNeg) then (mz_let (mz_pI t 18 (mz_gI t 0 28).toNatClampNeg (mz_gI t 0 29)) fun t6 => if ¬ ((mz_gI t6 0 28) < 0 ∨ 1000 ≤ (mz_gI t6 0 28).toNatClampNeg) then (mz_let (mz_pI t6 19 (mz_gI t6 0 28).toNatClampNeg (mz_gI t6 0 63)) fun t8 => if ¬ ((mz_gI t8 0 28) < 0 ∨ 1000 ≤ (mz_gI t8 0 28).toNatClampNeg) then (mz_let (mz_pI t8 20 (mz_gI t8 0 28).toNatClampNeg ((mz_gI t8 0 34) - (1 : Int32))) fun t10 => f_MO_goOut_79 n n (0 : Int32) t10) else none) else none) else none) else (f_MO_goOut_25 n  t))
set_option maxRecDepth 100000 in
set_option maxHeartbeats 4000000 in
theorem b_MO_goOut_25 {SX : State → Heap → Prop} {dC : Nat → ClassId} {dI : Nat → Nat → Nat} {ad en : Nat → Nat} {ca : Nat → ClassId} {p : Program} {l : Launch} {e : Env} {s : State} {m : MethodId} {args : Array Value} {below : List Frame} {meth : Method} {c : Code} {res : mz_St} (E : mz_En SX 55 mz_cl dC dI ad ca p s m meth c prog_15_method_57_code 2 "MacroHouseModel" none) (n : Nat) : ∀ (t : mz_St), f_MO_goOut_25 n t = some res → ∀ (H : Heap) (locs : List Loc) (ls : Array Slot), mz_Wd mz_tM 55 mz_cl dC dI ad en ca s t H locs → lv_has ls 2 [(0, .ref (ad 0))] → W p l e (r_MO_goOut) s m args below meth c H locs 0 0 (MQ below (mz_Q SX mz_tM 55 mz_cl dC dI ad en ca none res) args s 0 0 (mz_A ad 55)) (F0 m 25 ls []) := by
  obtain ⟨hx, hb, hml, hown, hcx, -, -, hSX, -, -, hSK⟩ := id E
  intro t hf H locs ls w hl
  unfold f_MO_goOut_25 at hf
  refine lv_aload_n hx hb d_MO_goOut_25 rfl (lv_at hl 0 rfl) ?_
  refine lv_bipush (v := (6 : Int32)) hx hb d_MO_goOut_26 (by decide) ?_
  refine lv_aload_n hx hb d_MO_goOut_28 rfl (lv_at hl 0 rfl) ?_
  refine mz_get E w 0 63 (v := .int (mz_gI t 0 63)) (by decide) rfl rfl ii_11 (by decide) (Nat.le_of_ble_eq_true rfl) k_1246 rfl d_MO_goOut_29 ?_
  obtain ⟨q2, hq3, hf⟩ := mz_bd hf
  refine mz_callV E w (k := 0) (As := [.int (6 : Int32), .int (mz_gI t 0 63)]) (rest := []) (c_MO_fail hSK l n (6 : Int32) (mz_gI t 0 63) t q2 hq3) (by decide) rfl rfl k_1467 k_15 k_1464 k_1466 ks_53 hm_MO_fail ⟨⟨rfl, rfl⟩, Nat.le_of_ble_eq_true rfl, Nat.le_of_ble_eq_true rfl⟩ rfl hl.1 rfl (Nat.le_of_ble_eq_true rfl) d_MO_goOut_32 ⟨Nat.zero_le _, Nat.zero_le _⟩ (st1 := []) rfl (fun H locs w => ?_)
  obtain rfl := Option.some.inj hf
  exact mz_vret E w rfl d_MO_goOut_35
set_option maxRecDepth 100000 in
set_option maxHeartbeats 4000000 in
theorem b_MO_goOut_79 {SX : State → Heap → Prop} {dC : Nat → ClassId} {dI : Nat → Nat → Nat} {ad en : Nat → Nat} {ca : Nat → ClassId} {p : Program} {l : Launch} {e : Env} {s : State} {m : MethodId} {args : Array Value} {below : List Frame} {meth : Method} {c : Code} {res : mz_St} (E : mz_En SX 55 mz_cl dC dI ad ca p s m meth c prog_15_method_57_code 2 "MacroHouseModel" none) (n : Nat) (k : Nat) : ∀ (x1 : Int32) (t : mz_St), f_MO_goOut_79 n k x1 t = some res → ∀ (H : Heap) (locs : List Loc) (ls : Array Slot), mz_Wd mz_tM 55 mz_cl dC dI ad en ca s t H locs → lv_has ls 2 [(0, .ref (ad 0)), (1, .int x1)] → W p l e (r_MO_goOut) s m args below meth c H locs 0 0 (MQ below (mz_Q SX mz_tM 55 mz_cl dC dI ad en ca none res) args s 0 0 (mz_A ad 55)) (F0 m 79 ls []) := by
  obtain ⟨hx, hb, hml, hown, hcx, -, -, hSX, -, -, hSK⟩ := id E
  induction k with
  | zero => intro x1 t hf; exact absurd hf (by unfold f_MO_goOut_79; exact fun h => nomatch h)
  | succ k ih =>
    intro x1 t hf H locs ls w hl
    unfold f_MO_goOut_79 at hf
    refine lv_iload_n hx hb d_MO_goOut_79 rfl (lv_at hl 1 rfl) ?_
    refine lv_aload_n hx hb d_MO_goOut_80 rfl (lv_at hl 0 rfl) ?_
    refine mz_get E w 0 60 (v := .int (mz_gI t 0 60)) (by decide) rfl rfl ii_11 (by decide) (Nat.le_of_ble_eq_true rfl) k_1243 rfl d_MO_goOut_81 ?_
    refine lv_icmp_ge (tgt := 118) hx hb d_MO_goOut_84 (by decide) (fun hc11 => ?_) (fun hc11 => ?_)
    · have hf := mz_t hc11 hf
      refine lv_aload_n hx hb d_MO_goOut_118 rfl (lv_at hl 0 rfl) ?_
      refine lv_dup hx hb d_MO_goOut_119 rfl ?_
      refine mz_get E w 0 28 (v := .int (mz_gI t 0 28)) (by decide) rfl rfl ii_11 (by decide) (Nat.le_of_ble_eq_true rfl) k_1211 rfl d_MO_goOut_120 ?_
      refine lv_iconst (v := (1 : Int32)) hx hb d_MO_goOut_123 (by decide) ?_
      refine lv_iadd hx hb d_MO_goOut_124 ?_
      refine mz_put E w 0 28 (v := ((mz_gI t 0 28) + (1 : Int32))) (by decide) rfl rfl ii_11 tk_11 nm_11 (by decide) (Nat.le_of_ble_eq_true rfl) k_1211 rfl (tk_11 28 (by decide)) rfl rfl rfl d_MO_goOut_125 (fun H locs w => ?_)
      obtain ⟨t12, e_t12, hf⟩ := mz_lt hf
      rw [← e_t12] at w
      refine lv_aload_n hx hb d_MO_goOut_128 rfl (lv_at hl 0 rfl) ?_
      refine mz_get E w 0 30 (v := .ref (ad 18)) (by decide) rfl rfl ii_11 (by decide) (Nat.le_of_ble_eq_true rfl) k_1213 rfl d_MO_goOut_129 ?_
      refine lv_aload_n hx hb d_MO_goOut_132 rfl (lv_at hl 0 rfl) ?_
      refine mz_get E w 0 28 (v := .int (mz_gI t12 0 28)) (by decide) rfl rfl ii_11 (by decide) (Nat.le_of_ble_eq_true rfl) k_1211 rfl d_MO_goOut_133 ?_
      refine lv_aload_n hx hb d_MO_goOut_136 rfl (lv_at hl 0 rfl) ?_
      refine mz_get E w 0 29 (v := .int (mz_gI t12 0 29)) (by decide) rfl rfl ii_11 (by decide) (Nat.le_of_ble_eq_true rfl) k_1212 rfl d_MO_goOut_137 ?_
      obtain ⟨hi13, hf⟩ := mz_gd hf
      refine mz_iast E w 18 (x := (mz_gI t12 0 29)) (by decide) rfl hi13 d_MO_goOut_140 (fun H locs w => ?_)
      obtain ⟨t14, e_t14, hf⟩ := mz_lt hf
      rw [← e_t14] at w
      obtain rfl := Option.some.inj hf
      exact mz_vret E w rfl d_MO_goOut_141
    · have hf := mz_f hc11 hf
      refine lv_aload_n hx hb d_MO_goOut_87 rfl (lv_at hl 0 rfl) ?_
      refine mz_get E w 0 33 (v := .ref (ad 21)) (by decide) rfl rfl ii_11 (by decide) (Nat.le_of_ble_eq_true rfl) k_1216 rfl d_MO_goOut_88 ?_
      refine lv_aload_n hx hb d_MO_goOut_91 rfl (lv_at hl 0 rfl) ?_
      refine mz_get E w 0 29 (v := .int (mz_gI t 0 29)) (by decide) rfl rfl ii_11 (by decide) (Nat.le_of_ble_eq_true rfl) k_1212 rfl d_MO_goOut_92 ?_
      refine lv_aload_n hx hb d_MO_goOut_95 rfl (lv_at hl 0 rfl) ?_
      refine mz_get E w 0 59 (v := .ref (ad 43)) (by decide) rfl rfl ii_11 (by decide) (Nat.le_of_ble_eq_true rfl) k_1242 rfl d_MO_goOut_96 ?_
      refine lv_iload_n hx hb d_MO_goOut_99 rfl (lv_at hl 1 rfl) ?_
      obtain ⟨hi15, hf⟩ := mz_gd hf
      refine mz_iald E w 43 (by decide) rfl hi15 d_MO_goOut_100 ?_
      obtain ⟨hi16, hf⟩ := mz_gd hf
      refine mz_iast E w 21 (x := (mz_gI t 43 x1.toNatClampNeg)) (by decide) rfl hi16 d_MO_goOut_101 (fun H locs w => ?_)
      obtain ⟨t17, e_t17, hf⟩ := mz_lt hf
      rw [← e_t17] at w
      refine lv_aload_n hx hb d_MO_goOut_102 rfl (lv_at hl 0 rfl) ?_
      refine lv_dup hx hb d_MO_goOut_103 rfl ?_
      refine mz_get E w 0 29 (v := .int (mz_gI t17 0 29)) (by decide) rfl rfl ii_11 (by decide) (Nat.le_of_ble_eq_true rfl) k_1212 rfl d_MO_goOut_104 ?_
      refine lv_iconst (v := (1 : Int32)) hx hb d_MO_goOut_107 (by decide) ?_
      refine lv_iadd hx hb d_MO_goOut_108 ?_
      refine mz_put E w 0 29 (v := ((mz_gI t17 0 29) + (1 : Int32))) (by decide) rfl rfl ii_11 tk_11 nm_11 (by decide) (Nat.le_of_ble_eq_true rfl) k_1212 rfl (tk_11 29 (by decide)) rfl rfl rfl d_MO_goOut_109 (fun H locs w => ?_)
      obtain ⟨t18, e_t18, hf⟩ := mz_lt hf
      rw [← e_t18] at w
      refine lv_iinc (v := (x1 + (1 : Int32))) (lv' := [(1, .int (x1 + (1 : Int32))), (0, .ref (ad 0))]) hx hb d_MO_goOut_112 hl (k := 1) rfl rfl (by decide) rfl (fun ls hl => ?_)
      refine lv_goto (tgt := 79) hx hb d_MO_goOut_115 (by decide) ?_
      exact ih (x1 + (1 : Int32)) t18 hf _ _ _ w (lv_sub hl [1, 0] rfl)
set_option maxRecDepth 100000 in
set_option maxHeartbeats 4000000 in
theorem c_MO_goOut {SX : State → Heap → Prop} {dC : Nat → ClassId} {dI : Nat → Nat → Nat} {ad en : Nat → Nat} {ca : Nat → ClassId} (hSK : mz_SK SX ad 55) (l : Launch) (n : Nat) (t : mz_St) (res : mz_St) (hf : f_MO_goOut n t = some res) : mz_C SX mz_tM 55 mz_cl dC dI ad en ca l y_MO_goOut prog_15_method_57_code 2 none (r_MO_goOut) [.ref (ad 0)] t none res := by
  unfold f_MO_goOut at hf
  refine mz_met hSK (by decide) (Nat.le_of_ble_eq_true rfl) ?_
  intro p e s m args below meth c ls E w hl
  obtain ⟨hx, hb, hml, hown, hcx, -, -, hSX, -, -, -⟩ := id E
  have hl : lv_has ls 2 [(0, .ref (ad 0))] := hl
  refine lv_aload_n hx hb d_MO_goOut_0 rfl (lv_at hl 0 rfl) ?_
  refine mz_get E w 0 28 (v := .int (mz_gI t 0 28)) (by decide) rfl rfl ii_11 (by decide) (Nat.le_of_ble_eq_true rfl) k_1211 rfl d_MO_goOut_1 ?_
  refine lv_sipush (v := (1000 : Int32)) hx hb d_MO_goOut_4 (by decide) ?_
  refine lv_icmp_eq (tgt := 25) hx hb d_MO_goOut_7 (by decide) (fun hc1 => ?_) (fun hc1 => ?_)
  · have hf := mz_t hc1 hf
    exact b_MO_goOut_25 E n  t hf _ _ _ w (lv_sub hl [0] rfl)
  · have hf := mz_f hc1 hf
    refine lv_aload_n hx hb d_MO_goOut_10 rfl (lv_at hl 0 rfl) ?_
    refine mz_get E w 0 29 (v := .int (mz_gI t 0 29)) (by decide) rfl rfl ii_11 (by decide) (Nat.le_of_ble_eq_true rfl) k_1212 rfl d_MO_goOut_11 ?_
    refine lv_aload_n hx hb d_MO_goOut_14 rfl (lv_at hl 0 rfl) ?_
    refine mz_get E w 0 60 (v := .int (mz_gI t 0 60)) (by decide) rfl rfl ii_11 (by decide) (Nat.le_of_ble_eq_true rfl) k_1243 rfl d_MO_goOut_15 ?_
    refine lv_iadd hx hb d_MO_goOut_18 ?_
    refine lv_sipush (v := (12000 : Int32)) hx hb d_MO_goOut_19 (by decide) ?_
    refine lv_icmp_le (tgt := 36) hx hb d_MO_goOut_22 (by decide) (fun hc4 => ?_) (fun hc4 => ?_)
    · have hf := mz_t hc4 hf
      refine lv_aload_n hx hb d_MO_goOut_36 rfl (lv_at hl 0 rfl) ?_
      refine mz_get E w 0 30 (v := .ref (ad 18)) (by decide) rfl rfl ii_11 (by decide) (Nat.le_of_ble_eq_true rfl) k_1213 rfl d_MO_goOut_37 ?_
      refine lv_aload_n hx hb d_MO_goOut_40 rfl (lv_at hl 0 rfl) ?_
      refine mz_get E w 0 28 (v := .int (mz_gI t 0 28)) (by decide) rfl rfl ii_11 (by decide) (Nat.le_of_ble_eq_true rfl) k_1211 rfl d_MO_goOut_41 ?_
      refine lv_aload_n hx hb d_MO_goOut_44 rfl (lv_at hl 0 rfl) ?_
      refine mz_get E w 0 29 (v := .int (mz_gI t 0 29)) (by decide) rfl rfl ii_11 (by decide) (Nat.le_of_ble_eq_true rfl) k_1212 rfl d_MO_goOut_45 ?_
      obtain ⟨hi5, hf⟩ := mz_gd hf
      refine mz_iast E w 18 (x := (mz_gI t 0 29)) (by decide) rfl hi5 d_MO_goOut_48 (fun H locs w => ?_)
      obtain ⟨t6, e_t6, hf⟩ := mz_lt hf
      rw [← e_t6] at w
      refine lv_aload_n hx hb d_MO_goOut_49 rfl (lv_at hl 0 rfl) ?_
      refine mz_get E w 0 31 (v := .ref (ad 19)) (by decide) rfl rfl ii_11 (by decide) (Nat.le_of_ble_eq_true rfl) k_1214 rfl d_MO_goOut_50 ?_
      refine lv_aload_n hx hb d_MO_goOut_53 rfl (lv_at hl 0 rfl) ?_
      refine mz_get E w 0 28 (v := .int (mz_gI t6 0 28)) (by decide) rfl rfl ii_11 (by decide) (Nat.le_of_ble_eq_true rfl) k_1211 rfl d_MO_goOut_54 ?_
      refine lv_aload_n hx hb d_MO_goOut_57 rfl (lv_at hl 0 rfl) ?_
      refine mz_get E w 0 63 (v := .int (mz_gI t6 0 63)) (by decide) rfl rfl ii_11 (by decide) (Nat.le_of_ble_eq_true rfl) k_1246 rfl d_MO_goOut_58 ?_
      obtain ⟨hi7, hf⟩ := mz_gd hf
      refine mz_iast E w 19 (x := (mz_gI t6 0 63)) (by decide) rfl hi7 d_MO_goOut_61 (fun H locs w => ?_)
      obtain ⟨t8, e_t8, hf⟩ := mz_lt hf
      rw [← e_t8] at w
      refine lv_aload_n hx hb d_MO_goOut_62 rfl (lv_at hl 0 rfl) ?_
      refine mz_get E w 0 32 (v := .ref (ad 20)) (by decide) rfl rfl ii_11 (by decide) (Nat.le_of_ble_eq_true rfl) k_1215 rfl d_MO_goOut_63 ?_
      refine lv_aload_n hx hb d_MO_goOut_66 rfl (lv_at hl 0 rfl) ?_
      refine mz_get E w 0 28 (v := .int (mz_gI t8 0 28)) (by decide) rfl rfl ii_11 (by decide) (Nat.le_of_ble_eq_true rfl) k_1211 rfl d_MO_goOut_67 ?_
      refine lv_aload_n hx hb d_MO_goOut_70 rfl (lv_at hl 0 rfl) ?_
      refine mz_get E w 0 34 (v := .int (mz_gI t8 0 34)) (by decide) rfl rfl ii_11 (by decide) (Nat.le_of_ble_eq_true rfl) k_1217 rfl d_MO_goOut_71 ?_
      refine lv_iconst (v := (1 : Int32)) hx hb d_MO_goOut_74 (by decide) ?_
      refine lv_isub hx hb d_MO_goOut_75 ?_
      obtain ⟨hi9, hf⟩ := mz_gd hf
      refine mz_iast E w 20 (x := ((mz_gI t8 0 34) - (1 : Int32))) (by decide) rfl hi9 d_MO_goOut_76 (fun H locs w => ?_)
      obtain ⟨t10, e_t10, hf⟩ := mz_lt hf
      rw [← e_t10] at w
      refine lv_iconst (v := (0 : Int32)) hx hb d_MO_goOut_77 (by decide) ?_
      refine lv_istore_n (lv' := [(1, .int (0 : Int32)), (0, .ref (ad 0))]) hx hb d_MO_goOut_78 rfl hl (by decide) rfl (fun ls hl => ?_)
      exact b_MO_goOut_79 E n n (0 : Int32) t10 hf _ _ _ w (lv_sub hl [1, 0] rfl)
    · have hf := mz_f hc4 hf
      exact b_MO_goOut_25 E n  t hf _ _ _ w (lv_sub hl [0] rfl)

/-! MacroHouseModel.doLine(I)V -/
abbrev r_MO_doLine : Room := { frames := 7, cells := 0, slots := 0, locals := 163 }
def f_MO_doLine_190 (n : Nat) (t : mz_St) : Option mz_St := (f_MO_goOut n t).bind fun q13 => some q13
def f_MO_doLine_179 (n : Nat) (s0 : Int32) (t : mz_St) : Option mz_St := if s0 < 0 then (f_MO_doLine_190 n  t) else ((f_MO_call n s0 t).bind fun q19 => some q19)
def f_MO_doLine_124 (n : Nat) (x1 : Int32) (x3 : Int32) (t : mz_St) : Option mz_St := (f_MO_turn n x3 x1 t).bind fun q35 => some q35
def f_MO_doLine_90 (n : Nat) (x1 : Int32) (s0 : Int32) (t : mz_St) : Option mz_St := if s0 = 0 then ((f_MO_fail n (1 : Int32) (mz_gI t 0 63) t).bind fun q41 => some q41) else (if s0 = (5 : Int32) then (f_MO_doLine_124 n x1 s0 t) else (if s0 = (6 : Int32) then (f_MO_doLine_124 n x1 s0 t) else (if s0 = (7 : Int32) then (f_MO_doLine_124 n x1 s0 t) else ((f_MO_direct n s0 x1 t).bind fun q39 => some q39))))
def f_MO_doLine_89 (n : Nat) (x1 : Int32) (t : mz_St) : Option mz_St := f_MO_doLine_90 n x1 (0 : Int32) t
def f_MO_doLine (n : Nat) (x1 : Int32) (t : mz_St) : Option mz_St := (f_MO_takeLine n x1 t).bind fun q1 => if q1.1 ≤ 0 then ((f_MO_beginLine n q1.2).bind fun q4 => if (mz_gI q4 0 60) = 0 then (some q4) else (if ¬ ((0 : Int32) < 0 ∨ 6000 ≤ (0 : Int32).toNatClampNeg) then (if (mz_gI q4 43 (0 : Int32).toNatClampNeg) = (46 : Int32) then (mz_let (mz_pI q4 0 61 (1 : Int32)) fun t23 => (f_MO_here n t23).bind fun q24 => (f_MO_isBegin n q24.1 q24.2).bind fun q26 => if q26.1 = 0 ∨ q26.1 = 1 then (mz_let (mz_pI q26.2 0 62 q26.1) fun t29 => (f_MO_word n t29).bind fun q30 => if (mz_gI q30 0 62) = 0 then (f_MO_doLine_89 n x1 q30) else (if (lg_cmp (mz_gL q30 0 66) (0 : Int64)) = 0 then ((f_MO_directiveOf n (mz_gL q30 0 65) q30).bind fun q44 => f_MO_doLine_90 n x1 q44.1 q44.2) else (f_MO_doLine_89 n x1 q30))) else none) else (if ¬ ((0 : Int32) < 0 ∨ 6000 ≤ (0 : Int32).toNatClampNeg) then ((f_MO_isBegin n (mz_gI q4 43 (0 : Int32).toNatClampNeg) q4).bind fun q10 => if q10.1 = 0 then (f_MO_doLine_190 n  q10.2) else ((f_MO_word n q10.2).bind fun q15 => if (mz_gI q15 0 62) = 0 then (f_MO_doLine_179 n (-1 : Int32) q15) else ((f_MO_macroOf n (mz_gL q15 0 65) (mz_gL q15 0 66) q15).bind fun q21 => f_MO_doLine_179 n q21.1 q21.2))) else none)) else none)) else ((f_MO_fail n q1.1 (mz_gI q1.2 0 63) q1.2).bind fun q46 => some q46)
set_option maxRecDepth 100000 in
set_option maxHeartbeats 4000000 in
theorem b_MO_doLine_190 {SX : State → Heap → Prop} {dC : Nat → ClassId} {dI : Nat → Nat → Nat} {ad en : Nat → Nat} {ca : Nat → ClassId} {p : Program} {l : Launch} {e : Env} {s : State} {m : MethodId} {args : Array Value} {below : List Frame} {meth : Method} {c : Code} {res : mz_St} (E : mz_En SX 55 mz_cl dC dI ad ca p s m meth c prog_15_method_60_code 4 "MacroHouseModel" none) (n : Nat) : ∀ (t : mz_St), f_MO_doLine_190 n t = some res → ∀ (H : Heap) (locs : List Loc) (ls : Array Slot), mz_Wd mz_tM 55 mz_cl dC dI ad en ca s t H locs → lv_has ls 4 [(0, .ref (ad 0))] → W p l e (r_MO_doLine) s m args below meth c H locs 0 0 (MQ below (mz_Q SX mz_tM 55 mz_cl dC dI ad en ca none res) args s 0 0 (mz_A ad 55)) (F0 m 190 ls []) := by
  obtain ⟨hx, hb, hml, hown, hcx, -, -, hSX, -, -, hSK⟩ := id E
  intro t hf H locs ls w hl
  unfold f_MO_doLine_190 at hf
  refine lv_aload_n hx hb d_MO_doLine_190 rfl (lv_at hl 0 rfl) ?_
  obtain ⟨q13, hq14, hf⟩ := mz_bd hf
  refine mz_callV E w (k := 0) (As := []) (rest := []) (c_MO_goOut hSK l n t q13 hq14) (by decide) rfl rfl k_1676 k_15 k_1673 k_1675 ks_98 hm_MO_goOut ⟨⟨rfl, rfl⟩, Nat.le_of_ble_eq_true rfl, Nat.le_of_ble_eq_true rfl⟩ rfl hl.1 rfl (Nat.le_of_ble_eq_true rfl) d_MO_doLine_191 ⟨Nat.zero_le _, Nat.zero_le _⟩ (st1 := []) rfl (fun H locs w => ?_)
  obtain rfl := Option.some.inj hf
  exact mz_vret E w rfl d_MO_doLine_194
set_option maxRecDepth 100000 in
set_option maxHeartbeats 4000000 in
theorem b_MO_doLine_179 {SX : State → Heap → Prop} {dC : Nat → ClassId} {dI : Nat → Nat → Nat} {ad en : Nat → Nat} {ca : Nat → ClassId} {p : Program} {l : Launch} {e : Env} {s : State} {m : MethodId} {args : Array Value} {below : List Frame} {meth : Method} {c : Code} {res : mz_St} (E : mz_En SX 55 mz_cl dC dI ad ca p s m meth c prog_15_method_60_code 4 "MacroHouseModel" none) (n : Nat) : ∀ (s0 : Int32) (t : mz_St), f_MO_doLine_179 n s0 t = some res → ∀ (H : Heap) (locs : List Loc) (ls : Array Slot), mz_Wd mz_tM 55 mz_cl dC dI ad en ca s t H locs → lv_has ls 4 [(0, .ref (ad 0))] → W p l e (r_MO_doLine) s m args below meth c H locs 0 0 (MQ below (mz_Q SX mz_tM 55 mz_cl dC dI ad en ca none res) args s 0 0 (mz_A ad 55)) (F0 m 179 ls [.int s0]) := by
  obtain ⟨hx, hb, hml, hown, hcx, -, -, hSX, -, -, hSK⟩ := id E
  intro s0 t hf H locs ls w hl
  unfold f_MO_doLine_179 at hf
  refine lv_istore_n (lv' := [(3, .int s0), (0, .ref (ad 0))]) hx hb d_MO_doLine_179 rfl hl (by decide) rfl (fun ls hl => ?_)
  refine lv_iload_n hx hb d_MO_doLine_180 rfl (lv_at hl 0 rfl) ?_
  refine lv_if_lt (tgt := 190) hx hb d_MO_doLine_181 (by decide) (fun hc18 => ?_) (fun hc18 => ?_)
  · have hf := mz_t hc18 hf
    exact b_MO_doLine_190 E n  t hf _ _ _ w (lv_sub hl [1] rfl)
  · have hf := mz_f hc18 hf
    refine lv_aload_n hx hb d_MO_doLine_184 rfl (lv_at hl 1 rfl) ?_
    refine lv_iload_n hx hb d_MO_doLine_185 rfl (lv_at hl 0 rfl) ?_
    obtain ⟨q19, hq20, hf⟩ := mz_bd hf
    refine mz_callV E w (k := 0) (As := [.int s0]) (rest := []) (c_MO_call hSK l n s0 t q19 hq20) (by decide) rfl rfl k_1672 k_15 k_1669 k_1671 ks_97 hm_MO_call ⟨⟨rfl, rfl⟩, Nat.le_of_ble_eq_true rfl, Nat.le_of_ble_eq_true rfl⟩ rfl hl.1 rfl (Nat.le_of_ble_eq_true rfl) d_MO_doLine_186 ⟨Nat.zero_le _, Nat.zero_le _⟩ (st1 := []) rfl (fun H locs w => ?_)
    obtain rfl := Option.some.inj hf
    exact mz_vret E w rfl d_MO_doLine_189
set_option maxRecDepth 100000 in
set_option maxHeartbeats 4000000 in
theorem b_MO_doLine_124 {SX : State → Heap → Prop} {dC : Nat → ClassId} {dI : Nat → Nat → Nat} {ad en : Nat → Nat} {ca : Nat → ClassId} {p : Program} {l : Launch} {e : Env} {s : State} {m : MethodId} {args : Array Value} {below : List Frame} {meth : Method} {c : Code} {res : mz_St} (E : mz_En SX 55 mz_cl dC dI ad ca p s m meth c prog_15_method_60_code 4 "MacroHouseModel" none) (n : Nat) : ∀ (x1 : Int32) (x3 : Int32) (t : mz_St), f_MO_doLine_124 n x1 x3 t = some res → ∀ (H : Heap) (locs : List Loc) (ls : Array Slot), mz_Wd mz_tM 55 mz_cl dC dI ad en ca s t H locs → lv_has ls 4 [(0, .ref (ad 0)), (1, .int x1), (3, .int x3)] → W p l e (r_MO_doLine) s m args below meth c H locs 0 0 (MQ below (mz_Q SX mz_tM 55 mz_cl dC dI ad en ca none res) args s 0 0 (mz_A ad 55)) (F0 m 124 ls []) := by
  obtain ⟨hx, hb, hml, hown, hcx, -, -, hSX, -, -, hSK⟩ := id E
  intro x1 x3 t hf H locs ls w hl
  unfold f_MO_doLine_124 at hf
  refine lv_aload_n hx hb d_MO_doLine_124 rfl (lv_at hl 0 rfl) ?_
  refine lv_iload_n hx hb d_MO_doLine_125 rfl (lv_at hl 2 rfl) ?_
  refine lv_iload_n hx hb d_MO_doLine_126 rfl (lv_at hl 1 rfl) ?_
  obtain ⟨q35, hq36, hf⟩ := mz_bd hf
  refine mz_callV E w (k := 0) (As := [.int x3, .int x1]) (rest := []) (c_MO_turn hSK l n x3 x1 t q35 hq36) (by decide) rfl rfl k_1513 k_15 k_1510 k_1512 ks_58 hm_MO_turn ⟨⟨rfl, rfl⟩, Nat.le_of_ble_eq_true rfl, Nat.le_of_ble_eq_true rfl⟩ rfl hl.1 rfl (Nat.le_of_ble_eq_true rfl) d_MO_doLine_127 ⟨Nat.zero_le _, Nat.zero_le _⟩ (st1 := []) rfl (fun H locs w => ?_)
  refine lv_goto (tgt := 139) hx hb d_MO_doLine_130 (by decide) ?_
  obtain rfl := Option.some.inj hf
  exact mz_vret E w rfl d_MO_doLine_139
set_option maxRecDepth 100000 in
set_option maxHeartbeats 4000000 in
theorem b_MO_doLine_90 {SX : State → Heap → Prop} {dC : Nat → ClassId} {dI : Nat → Nat → Nat} {ad en : Nat → Nat} {ca : Nat → ClassId} {p : Program} {l : Launch} {e : Env} {s : State} {m : MethodId} {args : Array Value} {below : List Frame} {meth : Method} {c : Code} {res : mz_St} (E : mz_En SX 55 mz_cl dC dI ad ca p s m meth c prog_15_method_60_code 4 "MacroHouseModel" none) (n : Nat) : ∀ (x1 : Int32) (s0 : Int32) (t : mz_St), f_MO_doLine_90 n x1 s0 t = some res → ∀ (H : Heap) (locs : List Loc) (ls : Array Slot), mz_Wd mz_tM 55 mz_cl dC dI ad en ca s t H locs → lv_has ls 4 [(0, .ref (ad 0)), (1, .int x1)] → W p l e (r_MO_doLine) s m args below meth c H locs 0 0 (MQ below (mz_Q SX mz_tM 55 mz_cl dC dI ad en ca none res) args s 0 0 (mz_A ad 55)) (F0 m 90 ls [.int s0]) := by
  obtain ⟨hx, hb, hml, hown, hcx, -, -, hSX, -, -, hSK⟩ := id E
  intro x1 s0 t hf H locs ls w hl
  unfold f_MO_doLine_90 at hf
  refine lv_istore_n (lv' := [(3, .int s0), (0, .ref (ad 0)), (1, .int x1)]) hx hb d_MO_doLine_90 rfl hl (by decide) rfl (fun ls hl => ?_)
  refine lv_iload_n hx hb d_MO_doLine_91 rfl (lv_at hl 0 rfl) ?_
  refine lv_if_ne (tgt := 107) hx hb d_MO_doLine_92 (by decide) (fun hc33 => ?_) (fun hc33 => ?_)
  · have hf := mz_f hc33 hf
    refine lv_iload_n hx hb d_MO_doLine_107 rfl (lv_at hl 0 rfl) ?_
    refine lv_iconst (v := (5 : Int32)) hx hb d_MO_doLine_108 (by decide) ?_
    refine lv_icmp_eq (tgt := 124) hx hb d_MO_doLine_109 (by decide) (fun hc34 => ?_) (fun hc34 => ?_)
    · have hf := mz_t hc34 hf
      exact b_MO_doLine_124 E n x1 s0 t hf _ _ _ w (lv_sub hl [1, 2, 0] rfl)
    · have hf := mz_f hc34 hf
      refine lv_iload_n hx hb d_MO_doLine_112 rfl (lv_at hl 0 rfl) ?_
      refine lv_bipush (v := (6 : Int32)) hx hb d_MO_doLine_113 (by decide) ?_
      refine lv_icmp_eq (tgt := 124) hx hb d_MO_doLine_115 (by decide) (fun hc37 => ?_) (fun hc37 => ?_)
      · have hf := mz_t hc37 hf
        exact b_MO_doLine_124 E n x1 s0 t hf _ _ _ w (lv_sub hl [1, 2, 0] rfl)
      · have hf := mz_f hc37 hf
        refine lv_iload_n hx hb d_MO_doLine_118 rfl (lv_at hl 0 rfl) ?_
        refine lv_bipush (v := (7 : Int32)) hx hb d_MO_doLine_119 (by decide) ?_
        refine lv_icmp_ne (tgt := 133) hx hb d_MO_doLine_121 (by decide) (fun hc38 => ?_) (fun hc38 => ?_)
        · have hf := mz_f hc38 hf
          refine lv_aload_n hx hb d_MO_doLine_133 rfl (lv_at hl 1 rfl) ?_
          refine lv_iload_n hx hb d_MO_doLine_134 rfl (lv_at hl 0 rfl) ?_
          refine lv_iload_n hx hb d_MO_doLine_135 rfl (lv_at hl 2 rfl) ?_
          obtain ⟨q39, hq40, hf⟩ := mz_bd hf
          refine mz_callV E w (k := 0) (As := [.int s0, .int x1]) (rest := []) (c_MO_direct hSK l n s0 x1 t q39 hq40) (by decide) rfl rfl k_1616 k_15 k_1613 k_1615 ks_83 hm_MO_direct ⟨⟨rfl, rfl⟩, Nat.le_of_ble_eq_true rfl, Nat.le_of_ble_eq_true rfl⟩ rfl hl.1 rfl (Nat.le_of_ble_eq_true rfl) d_MO_doLine_136 ⟨Nat.zero_le _, Nat.zero_le _⟩ (st1 := []) rfl (fun H locs w => ?_)
          obtain rfl := Option.some.inj hf
          exact mz_vret E w rfl d_MO_doLine_139
        · have hf := mz_t hc38 hf
          exact b_MO_doLine_124 E n x1 s0 t hf _ _ _ w (lv_sub hl [1, 2, 0] rfl)
  · have hf := mz_t hc33 hf
    refine lv_aload_n hx hb d_MO_doLine_95 rfl (lv_at hl 1 rfl) ?_
    refine lv_iconst (v := (1 : Int32)) hx hb d_MO_doLine_96 (by decide) ?_
    refine lv_aload_n hx hb d_MO_doLine_97 rfl (lv_at hl 1 rfl) ?_
    refine mz_get E w 0 63 (v := .int (mz_gI t 0 63)) (by decide) rfl rfl ii_11 (by decide) (Nat.le_of_ble_eq_true rfl) k_1246 rfl d_MO_doLine_98 ?_
    obtain ⟨q41, hq42, hf⟩ := mz_bd hf
    refine mz_callV E w (k := 0) (As := [.int (1 : Int32), .int (mz_gI t 0 63)]) (rest := []) (c_MO_fail hSK l n (1 : Int32) (mz_gI t 0 63) t q41 hq42) (by decide) rfl rfl k_1467 k_15 k_1464 k_1466 ks_53 hm_MO_fail ⟨⟨rfl, rfl⟩, Nat.le_of_ble_eq_true rfl, Nat.le_of_ble_eq_true rfl⟩ rfl hl.1 rfl (Nat.le_of_ble_eq_true rfl) d_MO_doLine_101 ⟨Nat.zero_le _, Nat.zero_le _⟩ (st1 := []) rfl (fun H locs w => ?_)
    refine lv_goto (tgt := 139) hx hb d_MO_doLine_104 (by decide) ?_
    obtain rfl := Option.some.inj hf
    exact mz_vret E w rfl d_MO_doLine_139
set_option maxRecDepth 100000 in
set_option maxHeartbeats 4000000 in
theorem b_MO_doLine_89 {SX : State → Heap → Prop} {dC : Nat → ClassId} {dI : Nat → Nat → Nat} {ad en : Nat → Nat} {ca : Nat → ClassId} {p : Program} {l : Launch} {e : Env} {s : State} {m : MethodId} {args : Array Value} {below : List Frame} {meth : Method} {c : Code} {res : mz_St} (E : mz_En SX 55 mz_cl dC dI ad ca p s m meth c prog_15_method_60_code 4 "MacroHouseModel" none) (n : Nat) : ∀ (x1 : Int32) (t : mz_St), f_MO_doLine_89 n x1 t = some res → ∀ (H : Heap) (locs : List Loc) (ls : Array Slot), mz_Wd mz_tM 55 mz_cl dC dI ad en ca s t H locs → lv_has ls 4 [(0, .ref (ad 0)), (1, .int x1)] → W p l e (r_MO_doLine) s m args below meth c H locs 0 0 (MQ below (mz_Q SX mz_tM 55 mz_cl dC dI ad en ca none res) args s 0 0 (mz_A ad 55)) (F0 m 89 ls []) := by
  obtain ⟨hx, hb, hml, hown, hcx, -, -, hSX, -, -, hSK⟩ := id E
  intro x1 t hf H locs ls w hl
  unfold f_MO_doLine_89 at hf
  refine lv_iconst (v := (0 : Int32)) hx hb d_MO_doLine_89 (by decide) ?_
  exact b_MO_doLine_90 E n x1 (0 : Int32) t hf _ _ _ w (lv_sub hl [0, 1] rfl)
set_option maxRecDepth 100000 in
set_option maxHeartbeats 4000000 in
theorem c_MO_doLine {SX : State → Heap → Prop} {dC : Nat → ClassId} {dI : Nat → Nat → Nat} {ad en : Nat → Nat} {ca : Nat → ClassId} (hSK : mz_SK SX ad 55) (l : Launch) (n : Nat) (x1 : Int32) (t : mz_St) (res : mz_St) (hf : f_MO_doLine n x1 t = some res) : mz_C SX mz_tM 55 mz_cl dC dI ad en ca l y_MO_doLine prog_15_method_60_code 4 none (r_MO_doLine) [.ref (ad 0), .int x1] t none res := by
  unfold f_MO_doLine at hf
  refine mz_met hSK (by decide) (Nat.le_of_ble_eq_true rfl) ?_
  intro p e s m args below meth c ls E w hl
  obtain ⟨hx, hb, hml, hown, hcx, -, -, hSX, -, -, -⟩ := id E
  have hl : lv_has ls 4 [(0, .ref (ad 0)), (1, .int x1)] := hl
  refine lv_aload_n hx hb d_MO_doLine_0 rfl (lv_at hl 0 rfl) ?_
  refine lv_iload_n hx hb d_MO_doLine_1 rfl (lv_at hl 1 rfl) ?_
  obtain ⟨q1, hq2, hf⟩ := mz_bd hf
  refine mz_callV E w (k := 0) (As := [.int x1]) (rest := []) (c_MO_takeLine hSK l n x1 t q1 hq2) (by decide) rfl rfl k_1517 k_15 k_1514 k_1516 ks_59 hm_MO_takeLine ⟨⟨rfl, rfl⟩, Nat.le_of_ble_eq_true rfl, Nat.le_of_ble_eq_true rfl⟩ rfl hl.1 rfl (Nat.le_of_ble_eq_true rfl) d_MO_doLine_2 ⟨Nat.zero_le _, Nat.zero_le _⟩ (st1 := [.int q1.1]) rfl (fun H locs w => ?_)
  refine lv_istore_n (lv' := [(2, .int q1.1), (0, .ref (ad 0)), (1, .int x1)]) hx hb d_MO_doLine_5 rfl hl (by decide) rfl (fun ls hl => ?_)
  refine lv_iload_n hx hb d_MO_doLine_6 rfl (lv_at hl 0 rfl) ?_
  refine lv_if_le (tgt := 20) hx hb d_MO_doLine_7 (by decide) (fun hc3 => ?_) (fun hc3 => ?_)
  · have hf := mz_t hc3 hf
    refine lv_aload_n hx hb d_MO_doLine_20 rfl (lv_at hl 1 rfl) ?_
    obtain ⟨q4, hq5, hf⟩ := mz_bd hf
    refine mz_callV E w (k := 0) (As := []) (rest := []) (c_MO_beginLine hSK l n q1.2 q4 hq5) (by decide) rfl rfl k_1545 k_15 k_1542 k_1544 ks_66 hm_MO_beginLine ⟨⟨rfl, rfl⟩, Nat.le_of_ble_eq_true rfl, Nat.le_of_ble_eq_true rfl⟩ rfl hl.1 rfl (Nat.le_of_ble_eq_true rfl) d_MO_doLine_21 ⟨Nat.zero_le _, Nat.zero_le _⟩ (st1 := []) rfl (fun H locs w => ?_)
    refine lv_aload_n hx hb d_MO_doLine_24 rfl (lv_at hl 1 rfl) ?_
    refine mz_get E w 0 60 (v := .int (mz_gI q4 0 60)) (by decide) rfl rfl ii_11 (by decide) (Nat.le_of_ble_eq_true rfl) k_1243 rfl d_MO_doLine_25 ?_
    refine lv_if_ne (tgt := 32) hx hb d_MO_doLine_28 (by decide) (fun hc6 => ?_) (fun hc6 => ?_)
    · have hf := mz_f hc6 hf
      refine lv_aload_n hx hb d_MO_doLine_32 rfl (lv_at hl 1 rfl) ?_
      refine mz_get E w 0 59 (v := .ref (ad 43)) (by decide) rfl rfl ii_11 (by decide) (Nat.le_of_ble_eq_true rfl) k_1242 rfl d_MO_doLine_33 ?_
      refine lv_iconst (v := (0 : Int32)) hx hb d_MO_doLine_36 (by decide) ?_
      obtain ⟨hi7, hf⟩ := mz_gd hf
      refine mz_iald E w 43 (by decide) rfl hi7 d_MO_doLine_37 ?_
      refine lv_bipush (v := (46 : Int32)) hx hb d_MO_doLine_38 (by decide) ?_
      refine lv_icmp_ne (tgt := 140) hx hb d_MO_doLine_40 (by decide) (fun hc8 => ?_) (fun hc8 => ?_)
      · have hf := mz_f hc8 hf
        refine lv_aload_n hx hb d_MO_doLine_140 rfl (lv_at hl 1 rfl) ?_
        refine mz_get E w 0 59 (v := .ref (ad 43)) (by decide) rfl rfl ii_11 (by decide) (Nat.le_of_ble_eq_true rfl) k_1242 rfl d_MO_doLine_141 ?_
        refine lv_iconst (v := (0 : Int32)) hx hb d_MO_doLine_144 (by decide) ?_
        obtain ⟨hi9, hf⟩ := mz_gd hf
        refine mz_iald E w 43 (by decide) rfl hi9 d_MO_doLine_145 ?_
        obtain ⟨q10, hq11, hf⟩ := mz_bd hf
        refine mz_callS E w (As := [.int (mz_gI q4 43 (0 : Int32).toNatClampNeg)]) (rest := []) (c_MO_isBegin hSK l n (mz_gI q4 43 (0 : Int32).toNatClampNeg) q4 q10 hq11) k_1482 k_15 k_1480 k_1481 hm_MO_isBegin ⟨⟨rfl, rfl⟩, Nat.le_of_ble_eq_true rfl, Nat.le_of_ble_eq_true rfl⟩ rfl hl.1 rfl (Nat.le_of_ble_eq_true rfl) d_MO_doLine_146 ⟨Nat.zero_le _, Nat.zero_le _⟩ (st1 := [.int q10.1]) rfl (fun H locs w => ?_)
        refine lv_if_eq (tgt := 190) hx hb d_MO_doLine_149 (by decide) (fun hc12 => ?_) (fun hc12 => ?_)
        · have hf := mz_t hc12 hf
          exact b_MO_doLine_190 E n  q10.2 hf _ _ _ w (lv_sub hl [1] rfl)
        · have hf := mz_f hc12 hf
          refine lv_aload_n hx hb d_MO_doLine_152 rfl (lv_at hl 1 rfl) ?_
          obtain ⟨q15, hq16, hf⟩ := mz_bd hf
          refine mz_callV E w (k := 0) (As := []) (rest := []) (c_MO_word hSK l n q10.2 q15 hq16) (by decide) rfl rfl k_1557 k_15 k_1554 k_1556 ks_69 hm_MO_word ⟨⟨rfl, rfl⟩, Nat.le_of_ble_eq_true rfl, Nat.le_of_ble_eq_true rfl⟩ rfl hl.1 rfl (Nat.le_of_ble_eq_true rfl) d_MO_doLine_153 ⟨Nat.zero_le _, Nat.zero_le _⟩ (st1 := []) rfl (fun H locs w => ?_)
          refine lv_aload_n hx hb d_MO_doLine_156 rfl (lv_at hl 1 rfl) ?_
          refine mz_get E w 0 62 (v := .int (mz_gI q15 0 62)) (by decide) rfl rfl ii_11 (by decide) (Nat.le_of_ble_eq_true rfl) k_1245 rfl d_MO_doLine_157 ?_
          refine lv_if_eq (tgt := 178) hx hb d_MO_doLine_160 (by decide) (fun hc17 => ?_) (fun hc17 => ?_)
          · have hf := mz_t hc17 hf
            refine lv_iconst (v := (-1 : Int32)) hx hb d_MO_doLine_178 (by decide) ?_
            exact b_MO_doLine_179 E n (-1 : Int32) q15 hf _ _ _ w (lv_sub hl [1] rfl)
          · have hf := mz_f hc17 hf
            refine lv_aload_n hx hb d_MO_doLine_163 rfl (lv_at hl 1 rfl) ?_
            refine lv_aload_n hx hb d_MO_doLine_164 rfl (lv_at hl 1 rfl) ?_
            refine mz_get E w 0 65 (v := .long (mz_gL q15 0 65)) (by decide) rfl rfl ii_11 (by decide) (Nat.le_of_ble_eq_true rfl) k_1248 rfl d_MO_doLine_165 ?_
            refine lv_aload_n hx hb d_MO_doLine_168 rfl (lv_at hl 1 rfl) ?_
            refine mz_get E w 0 66 (v := .long (mz_gL q15 0 66)) (by decide) rfl rfl ii_11 (by decide) (Nat.le_of_ble_eq_true rfl) k_1249 rfl d_MO_doLine_169 ?_
            obtain ⟨q21, hq22, hf⟩ := mz_bd hf
            refine mz_callV E w (k := 0) (As := [.long (mz_gL q15 0 65), .long (mz_gL q15 0 66)]) (rest := []) (c_MO_macroOf hSK l n (mz_gL q15 0 65) (mz_gL q15 0 66) q15 q21 hq22) (by decide) rfl rfl k_1648 k_15 k_1645 k_1647 ks_91 hm_MO_macroOf ⟨⟨rfl, rfl⟩, Nat.le_of_ble_eq_true rfl, Nat.le_of_ble_eq_true rfl⟩ rfl hl.1 rfl (Nat.le_of_ble_eq_true rfl) d_MO_doLine_172 ⟨Nat.zero_le _, Nat.zero_le _⟩ (st1 := [.int q21.1]) rfl (fun H locs w => ?_)
            refine lv_goto (tgt := 179) hx hb d_MO_doLine_175 (by decide) ?_
            exact b_MO_doLine_179 E n q21.1 q21.2 hf _ _ _ w (lv_sub hl [1] rfl)
      · have hf := mz_t hc8 hf
        refine lv_aload_n hx hb d_MO_doLine_43 rfl (lv_at hl 1 rfl) ?_
        refine lv_iconst (v := (1 : Int32)) hx hb d_MO_doLine_44 (by decide) ?_
        refine mz_put E w 0 61 (v := (1 : Int32)) (by decide) rfl rfl ii_11 tk_11 nm_11 (by decide) (Nat.le_of_ble_eq_true rfl) k_1244 rfl (tk_11 61 (by decide)) rfl rfl rfl d_MO_doLine_45 (fun H locs w => ?_)
        obtain ⟨t23, e_t23, hf⟩ := mz_lt hf
        rw [← e_t23] at w
        refine lv_aload_n hx hb d_MO_doLine_48 rfl (lv_at hl 1 rfl) ?_
        refine lv_aload_n hx hb d_MO_doLine_49 rfl (lv_at hl 1 rfl) ?_
        obtain ⟨q24, hq25, hf⟩ := mz_bd hf
        refine mz_callV E w (k := 0) (As := []) (rest := [.ref (ad 0)]) (c_MO_here hSK l n t23 q24 hq25) (by decide) rfl rfl k_1553 k_15 k_1550 k_1552 ks_68 hm_MO_here ⟨⟨rfl, rfl⟩, Nat.le_of_ble_eq_true rfl, Nat.le_of_ble_eq_true rfl⟩ rfl hl.1 rfl (Nat.le_of_ble_eq_true rfl) d_MO_doLine_50 ⟨Nat.zero_le _, Nat.zero_le _⟩ (st1 := [.int q24.1, .ref (ad 0)]) rfl (fun H locs w => ?_)
        obtain ⟨q26, hq27, hf⟩ := mz_bd hf
        refine mz_callS E w (As := [.int q24.1]) (rest := [.ref (ad 0)]) (c_MO_isBegin hSK l n q24.1 q24.2 q26 hq27) k_1482 k_15 k_1480 k_1481 hm_MO_isBegin ⟨⟨rfl, rfl⟩, Nat.le_of_ble_eq_true rfl, Nat.le_of_ble_eq_true rfl⟩ rfl hl.1 rfl (Nat.le_of_ble_eq_true rfl) d_MO_doLine_53 ⟨Nat.zero_le _, Nat.zero_le _⟩ (st1 := [.int q26.1, .ref (ad 0)]) rfl (fun H locs w => ?_)
        obtain ⟨hz28, hf⟩ := mz_gd hf
        refine mz_put E w 0 62 (v := q26.1) (by decide) rfl rfl ii_11 tk_11 nm_11 (by decide) (Nat.le_of_ble_eq_true rfl) k_1245 rfl (tk_11 62 (by decide)) rfl (mz_b01 hz28) (mz_f01 hz28) d_MO_doLine_56 (fun H locs w => ?_)
        obtain ⟨t29, e_t29, hf⟩ := mz_lt hf
        rw [← e_t29] at w
        refine lv_aload_n hx hb d_MO_doLine_59 rfl (lv_at hl 1 rfl) ?_
        obtain ⟨q30, hq31, hf⟩ := mz_bd hf
        refine mz_callV E w (k := 0) (As := []) (rest := []) (c_MO_word hSK l n t29 q30 hq31) (by decide) rfl rfl k_1557 k_15 k_1554 k_1556 ks_69 hm_MO_word ⟨⟨rfl, rfl⟩, Nat.le_of_ble_eq_true rfl, Nat.le_of_ble_eq_true rfl⟩ rfl hl.1 rfl (Nat.le_of_ble_eq_true rfl) d_MO_doLine_60 ⟨Nat.zero_le _, Nat.zero_le _⟩ (st1 := []) rfl (fun H locs w => ?_)
        refine lv_aload_n hx hb d_MO_doLine_63 rfl (lv_at hl 1 rfl) ?_
        refine mz_get E w 0 62 (v := .int (mz_gI q30 0 62)) (by decide) rfl rfl ii_11 (by decide) (Nat.le_of_ble_eq_true rfl) k_1245 rfl d_MO_doLine_64 ?_
        refine lv_if_eq (tgt := 89) hx hb d_MO_doLine_67 (by decide) (fun hc32 => ?_) (fun hc32 => ?_)
        · have hf := mz_t hc32 hf
          exact b_MO_doLine_89 E n x1 q30 hf _ _ _ w (lv_sub hl [1, 2] rfl)
        · have hf := mz_f hc32 hf
          refine lv_aload_n hx hb d_MO_doLine_70 rfl (lv_at hl 1 rfl) ?_
          refine mz_get E w 0 66 (v := .long (mz_gL q30 0 66)) (by decide) rfl rfl ii_11 (by decide) (Nat.le_of_ble_eq_true rfl) k_1249 rfl d_MO_doLine_71 ?_
          refine lv_lconst (v := (0 : Int64)) hx hb d_MO_doLine_74 (by decide) ?_
          refine W.lcmp hx hb d_MO_doLine_75 ?_
          refine lv_if_ne (tgt := 89) hx hb d_MO_doLine_76 (by decide) (fun hc43 => ?_) (fun hc43 => ?_)
          · have hf := mz_f hc43 hf
            exact b_MO_doLine_89 E n x1 q30 hf _ _ _ w (lv_sub hl [1, 2] rfl)
          · have hf := mz_t hc43 hf
            refine lv_aload_n hx hb d_MO_doLine_79 rfl (lv_at hl 1 rfl) ?_
            refine mz_get E w 0 65 (v := .long (mz_gL q30 0 65)) (by decide) rfl rfl ii_11 (by decide) (Nat.le_of_ble_eq_true rfl) k_1248 rfl d_MO_doLine_80 ?_
            obtain ⟨q44, hq45, hf⟩ := mz_bd hf
            refine mz_callS E w (As := [.long (mz_gL q30 0 65)]) (rest := []) (c_MO_directiveOf hSK l n (mz_gL q30 0 65) q30 q44 hq45) k_1491 k_15 k_1489 k_1490 hm_MO_directiveOf ⟨⟨rfl, rfl⟩, Nat.le_of_ble_eq_true rfl, Nat.le_of_ble_eq_true rfl⟩ rfl hl.1 rfl (Nat.le_of_ble_eq_true rfl) d_MO_doLine_83 ⟨Nat.zero_le _, Nat.zero_le _⟩ (st1 := [.int q44.1]) rfl (fun H locs w => ?_)
            refine lv_goto (tgt := 90) hx hb d_MO_doLine_86 (by decide) ?_
            exact b_MO_doLine_90 E n x1 q44.1 q44.2 hf _ _ _ w (lv_sub hl [1, 2] rfl)
    · have hf := mz_t hc6 hf
      obtain rfl := Option.some.inj hf
      exact mz_vret E w rfl d_MO_doLine_31
  · have hf := mz_f hc3 hf
    refine lv_aload_n hx hb d_MO_doLine_10 rfl (lv_at hl 1 rfl) ?_
    refine lv_iload_n hx hb d_MO_doLine_11 rfl (lv_at hl 0 rfl) ?_
    refine lv_aload_n hx hb d_MO_doLine_12 rfl (lv_at hl 1 rfl) ?_
    refine mz_get E w 0 63 (v := .int (mz_gI q1.2 0 63)) (by decide) rfl rfl ii_11 (by decide) (Nat.le_of_ble_eq_true rfl) k_1246 rfl d_MO_doLine_13 ?_
    obtain ⟨q46, hq47, hf⟩ := mz_bd hf
    refine mz_callV E w (k := 0) (As := [.int q1.1, .int (mz_gI q1.2 0 63)]) (rest := []) (c_MO_fail hSK l n q1.1 (mz_gI q1.2 0 63) q1.2 q46 hq47) (by decide) rfl rfl k_1467 k_15 k_1464 k_1466 ks_53 hm_MO_fail ⟨⟨rfl, rfl⟩, Nat.le_of_ble_eq_true rfl, Nat.le_of_ble_eq_true rfl⟩ rfl hl.1 rfl (Nat.le_of_ble_eq_true rfl) d_MO_doLine_16 ⟨Nat.zero_le _, Nat.zero_le _⟩ (st1 := []) rfl (fun H locs w => ?_)
    obtain rfl := Option.some.inj hf
    exact mz_vret E w rfl d_MO_doLine_19

/-! MacroHouseModel.next()V -/
abbrev r_MO_next : Room := { frames := 8, cells := 0, slots := 0, locals := 186 }
def f_MO_next_194 (n : Nat) (x2 : Int32) (x3 : Int32) (t : mz_St) : Option mz_St := (f_MO_turn n x3 x2 t).bind fun q19 => some q19
def f_MO_next_215 (n : Nat) (t : mz_St) : Option mz_St := (f_MO_fail n (5 : Int32) (mz_gI t 0 63) t).bind fun q24 => some q24
def f_MO_next_142 (n : Nat) (t : mz_St) : Option mz_St := (f_MO_openIf n (0 : Int32) (1 : Int32) t).bind fun q30 => some q30
def f_MO_next_168 (n : Nat) (x2 : Int32) (x3 : Int32) (t : mz_St) : Option mz_St := (f_MO_turn n x3 x2 t).bind fun q34 => some q34
def f_MO_next_126 (n : Nat) (x2 : Int32) (x4 : Int32) (s0 : Int32) (t : mz_St) : Option mz_St := if x4 = 0 then (if s0 = (3 : Int32) then (f_MO_next_142 n  t) else (if s0 = (4 : Int32) then (f_MO_next_142 n  t) else (if s0 = (5 : Int32) then (f_MO_next_168 n x2 s0 t) else (if s0 = (6 : Int32) then (f_MO_next_168 n x2 s0 t) else (if s0 = (7 : Int32) then (f_MO_next_168 n x2 s0 t) else (some t)))))) else (if s0 = (5 : Int32) then (f_MO_next_194 n x2 s0 t) else (if s0 = (6 : Int32) then (f_MO_next_194 n x2 s0 t) else (if s0 = (7 : Int32) then (f_MO_next_194 n x2 s0 t) else (if s0 = (9 : Int32) then (f_MO_next_215 n  t) else (if s0 = (12 : Int32) then (f_MO_next_215 n  t) else ((f_MO_doLine n x2 t).bind fun q27 => some q27))))))
def f_MO_next_125 (n : Nat) (x2 : Int32) (x3 : Int32) (x4 : Int32) (t : mz_St) : Option mz_St := f_MO_next_126 n x2 x4 x3 t
def f_MO_next_106 (n : Nat) (x2 : Int32) (x3 : Int32) (s0 : Int32) (t : mz_St) : Option mz_St := if s0 = 0 then (f_MO_next_125 n x2 x3 s0 t) else (if (mz_gI t 0 34) ≤ (1 : Int32) then (f_MO_next_125 n x2 x3 s0 t) else (f_MO_next_126 n x2 s0 (0 : Int32) t))
def f_MO_next_101 (n : Nat) (x2 : Int32) (x3 : Int32) (t : mz_St) : Option mz_St := f_MO_next_106 n x2 x3 (1 : Int32) t
def f_MO_next_58 (n : Nat) (x2 : Int32) (s1 : Int32) (t : mz_St) : Option mz_St := mz_let (mz_pI t 0 63 s1) fun t9 => (f_MO_look n x2 t9).bind fun q10 => if (mz_gI q10 0 6) ≤ 0 then ((f_MO_firstOf n x2 q10).bind fun q13 => if (mz_gI q13.2 0 53) = 0 then (f_MO_next_101 n x2 q13.1 q13.2) else (if ¬ (((mz_gI q13.2 0 53) - (1 : Int32)) < 0 ∨ 9 ≤ ((mz_gI q13.2 0 53) - (1 : Int32)).toNatClampNeg) then (if (mz_gI q13.2 38 ((mz_gI q13.2 0 53) - (1 : Int32)).toNatClampNeg) = 0 then (f_MO_next_106 n x2 q13.1 (0 : Int32) q13.2) else (f_MO_next_101 n x2 q13.1 q13.2)) else none)) else (some q10)
def f_MO_next (n : Nat) (t : mz_St) : Option mz_St := if ¬ (((mz_gI t 0 34) - (1 : Int32)) < 0 ∨ 14 ≤ ((mz_gI t 0 34) - (1 : Int32)).toNatClampNeg) then (if ¬ (((mz_gI t 0 34) - (1 : Int32)) < 0 ∨ 14 ≤ ((mz_gI t 0 34) - (1 : Int32)).toNatClampNeg) then (if (mz_gI t 25 ((mz_gI t 0 34) - (1 : Int32)).toNatClampNeg) = (mz_gI t 24 ((mz_gI t 0 34) - (1 : Int32)).toNatClampNeg) then ((f_MO_atEnd n ((mz_gI t 0 34) - (1 : Int32)) t).bind fun q41 => some q41) else (if ¬ (((mz_gI t 0 34) - (1 : Int32)) < 0 ∨ 14 ≤ ((mz_gI t 0 34) - (1 : Int32)).toNatClampNeg) then (if ¬ (((mz_gI t 0 34) - (1 : Int32)) < 0 ∨ 14 ≤ ((mz_gI t 0 34) - (1 : Int32)).toNatClampNeg) then (if ¬ (((mz_gI t 0 34) - (1 : Int32)) < 0 ∨ 14 ≤ ((mz_gI t 0 34) - (1 : Int32)).toNatClampNeg) then (mz_let (mz_pI t 25 ((mz_gI t 0 34) - (1 : Int32)).toNatClampNeg ((mz_gI t 25 ((mz_gI t 0 34) - (1 : Int32)).toNatClampNeg) + (1 : Int32))) fun t7 => if ((mz_gI t 0 34) - (1 : Int32)) = 0 then (f_MO_next_58 n (mz_gI t 25 ((mz_gI t 0 34) - (1 : Int32)).toNatClampNeg) (mz_gI t 25 ((mz_gI t 0 34) - (1 : Int32)).toNatClampNeg) t7) else (f_MO_next_58 n (mz_gI t 25 ((mz_gI t 0 34) - (1 : Int32)).toNatClampNeg) (mz_gI t7 0 63) t7)) else none) else none) else none)) else none) else none
set_option maxRecDepth 100000 in
set_option maxHeartbeats 4000000 in
theorem b_MO_next_194 {SX : State → Heap → Prop} {dC : Nat → ClassId} {dI : Nat → Nat → Nat} {ad en : Nat → Nat} {ca : Nat → ClassId} {p : Program} {l : Launch} {e : Env} {s : State} {m : MethodId} {args : Array Value} {below : List Frame} {meth : Method} {c : Code} {res : mz_St} (E : mz_En SX 55 mz_cl dC dI ad ca p s m meth c prog_15_method_61_code 5 "MacroHouseModel" none) (n : Nat) : ∀ (x2 : Int32) (x3 : Int32) (t : mz_St), f_MO_next_194 n x2 x3 t = some res → ∀ (H : Heap) (locs : List Loc) (ls : Array Slot), mz_Wd mz_tM 55 mz_cl dC dI ad en ca s t H locs → lv_has ls 5 [(0, .ref (ad 0)), (2, .int x2), (3, .int x3)] → W p l e (r_MO_next) s m args below meth c H locs 0 0 (MQ below (mz_Q SX mz_tM 55 mz_cl dC dI ad en ca none res) args s 0 0 (mz_A ad 55)) (F0 m 194 ls []) := by
  obtain ⟨hx, hb, hml, hown, hcx, -, -, hSX, -, -, hSK⟩ := id E
  intro x2 x3 t hf H locs ls w hl
  unfold f_MO_next_194 at hf
  refine lv_aload_n hx hb d_MO_next_194 rfl (lv_at hl 0 rfl) ?_
  refine lv_iload_n hx hb d_MO_next_195 rfl (lv_at hl 2 rfl) ?_
  refine lv_iload_n hx hb d_MO_next_196 rfl (lv_at hl 1 rfl) ?_
  obtain ⟨q19, hq20, hf⟩ := mz_bd hf
  refine mz_callV E w (k := 0) (As := [.int x3, .int x2]) (rest := []) (c_MO_turn hSK l n x3 x2 t q19 hq20) (by decide) rfl rfl k_1513 k_15 k_1510 k_1512 ks_58 hm_MO_turn ⟨⟨rfl, rfl⟩, Nat.le_of_ble_eq_true rfl, Nat.le_of_ble_eq_true rfl⟩ rfl hl.1 rfl (Nat.le_of_ble_eq_true rfl) d_MO_next_197 ⟨Nat.zero_le _, Nat.zero_le _⟩ (st1 := []) rfl (fun H locs w => ?_)
  refine lv_goto (tgt := 232) hx hb d_MO_next_200 (by decide) ?_
  obtain rfl := Option.some.inj hf
  exact mz_vret E w rfl d_MO_next_232
set_option maxRecDepth 100000 in
set_option maxHeartbeats 4000000 in
theorem b_MO_next_215 {SX : State → Heap → Prop} {dC : Nat → ClassId} {dI : Nat → Nat → Nat} {ad en : Nat → Nat} {ca : Nat → ClassId} {p : Program} {l : Launch} {e : Env} {s : State} {m : MethodId} {args : Array Value} {below : List Frame} {meth : Method} {c : Code} {res : mz_St} (E : mz_En SX 55 mz_cl dC dI ad ca p s m meth c prog_15_method_61_code 5 "MacroHouseModel" none) (n : Nat) : ∀ (t : mz_St), f_MO_next_215 n t = some res → ∀ (H : Heap) (locs : List Loc) (ls : Array Slot), mz_Wd mz_tM 55 mz_cl dC dI ad en ca s t H locs → lv_has ls 5 [(0, .ref (ad 0))] → W p l e (r_MO_next) s m args below meth c H locs 0 0 (MQ below (mz_Q SX mz_tM 55 mz_cl dC dI ad en ca none res) args s 0 0 (mz_A ad 55)) (F0 m 215 ls []) := by
  obtain ⟨hx, hb, hml, hown, hcx, -, -, hSX, -, -, hSK⟩ := id E
  intro t hf H locs ls w hl
  unfold f_MO_next_215 at hf
  refine lv_aload_n hx hb d_MO_next_215 rfl (lv_at hl 0 rfl) ?_
  refine lv_iconst (v := (5 : Int32)) hx hb d_MO_next_216 (by decide) ?_
  refine lv_aload_n hx hb d_MO_next_217 rfl (lv_at hl 0 rfl) ?_
  refine mz_get E w 0 63 (v := .int (mz_gI t 0 63)) (by decide) rfl rfl ii_11 (by decide) (Nat.le_of_ble_eq_true rfl) k_1246 rfl d_MO_next_218 ?_
  obtain ⟨q24, hq25, hf⟩ := mz_bd hf
  refine mz_callV E w (k := 0) (As := [.int (5 : Int32), .int (mz_gI t 0 63)]) (rest := []) (c_MO_fail hSK l n (5 : Int32) (mz_gI t 0 63) t q24 hq25) (by decide) rfl rfl k_1467 k_15 k_1464 k_1466 ks_53 hm_MO_fail ⟨⟨rfl, rfl⟩, Nat.le_of_ble_eq_true rfl, Nat.le_of_ble_eq_true rfl⟩ rfl hl.1 rfl (Nat.le_of_ble_eq_true rfl) d_MO_next_221 ⟨Nat.zero_le _, Nat.zero_le _⟩ (st1 := []) rfl (fun H locs w => ?_)
  refine lv_goto (tgt := 232) hx hb d_MO_next_224 (by decide) ?_
  obtain rfl := Option.some.inj hf
  exact mz_vret E w rfl d_MO_next_232
set_option maxRecDepth 100000 in
set_option maxHeartbeats 4000000 in
theorem b_MO_next_142 {SX : State → Heap → Prop} {dC : Nat → ClassId} {dI : Nat → Nat → Nat} {ad en : Nat → Nat} {ca : Nat → ClassId} {p : Program} {l : Launch} {e : Env} {s : State} {m : MethodId} {args : Array Value} {below : List Frame} {meth : Method} {c : Code} {res : mz_St} (E : mz_En SX 55 mz_cl dC dI ad ca p s m meth c prog_15_method_61_code 5 "MacroHouseModel" none) (n : Nat) : ∀ (t : mz_St), f_MO_next_142 n t = some res → ∀ (H : Heap) (locs : List Loc) (ls : Array Slot), mz_Wd mz_tM 55 mz_cl dC dI ad en ca s t H locs → lv_has ls 5 [(0, .ref (ad 0))] → W p l e (r_MO_next) s m args below meth c H locs 0 0 (MQ below (mz_Q SX mz_tM 55 mz_cl dC dI ad en ca none res) args s 0 0 (mz_A ad 55)) (F0 m 142 ls []) := by
  obtain ⟨hx, hb, hml, hown, hcx, -, -, hSX, -, -, hSK⟩ := id E
  intro t hf H locs ls w hl
  unfold f_MO_next_142 at hf
  refine lv_aload_n hx hb d_MO_next_142 rfl (lv_at hl 0 rfl) ?_
  refine lv_iconst (v := (0 : Int32)) hx hb d_MO_next_143 (by decide) ?_
  refine lv_iconst (v := (1 : Int32)) hx hb d_MO_next_144 (by decide) ?_
  obtain ⟨q30, hq31, hf⟩ := mz_bd hf
  refine mz_callV E w (k := 0) (As := [.int (0 : Int32), .int (1 : Int32)]) (rest := []) (c_MO_openIf hSK l n (0 : Int32) (1 : Int32) t q30 hq31) (by decide) rfl rfl k_1509 k_15 k_1506 k_1508 ks_57 hm_MO_openIf ⟨⟨rfl, rfl⟩, Nat.le_of_ble_eq_true rfl, Nat.le_of_ble_eq_true rfl⟩ rfl hl.1 rfl (Nat.le_of_ble_eq_true rfl) d_MO_next_145 ⟨Nat.zero_le _, Nat.zero_le _⟩ (st1 := []) rfl (fun H locs w => ?_)
  refine lv_goto (tgt := 232) hx hb d_MO_next_148 (by decide) ?_
  obtain rfl := Option.some.inj hf
  exact mz_vret E w rfl d_MO_next_232
set_option maxRecDepth 100000 in
set_option maxHeartbeats 4000000 in
theorem b_MO_next_168 {SX : State → Heap → Prop} {dC : Nat → ClassId} {dI : Nat → Nat → Nat} {ad en : Nat → Nat} {ca : Nat → ClassId} {p : Program} {l : Launch} {e : Env} {s : State} {m : MethodId} {args : Array Value} {below : List Frame} {meth : Method} {c : Code} {res : mz_St} (E : mz_En SX 55 mz_cl dC dI ad ca p s m meth c prog_15_method_61_code 5 "MacroHouseModel" none) (n : Nat) : ∀ (x2 : Int32) (x3 : Int32) (t : mz_St), f_MO_next_168 n x2 x3 t = some res → ∀ (H : Heap) (locs : List Loc) (ls : Array Slot), mz_Wd mz_tM 55 mz_cl dC dI ad en ca s t H locs → lv_has ls 5 [(0, .ref (ad 0)), (2, .int x2), (3, .int x3)] → W p l e (r_MO_next) s m args below meth c H locs 0 0 (MQ below (mz_Q SX mz_tM 55 mz_cl dC dI ad en ca none res) args s 0 0 (mz_A ad 55)) (F0 m 168 ls []) := by
  obtain ⟨hx, hb, hml, hown, hcx, -, -, hSX, -, -, hSK⟩ := id E
  intro x2 x3 t hf H locs ls w hl
  unfold f_MO_next_168 at hf
  refine lv_aload_n hx hb d_MO_next_168 rfl (lv_at hl 0 rfl) ?_
  refine lv_iload_n hx hb d_MO_next_169 rfl (lv_at hl 2 rfl) ?_
  refine lv_iload_n hx hb d_MO_next_170 rfl (lv_at hl 1 rfl) ?_
  obtain ⟨q34, hq35, hf⟩ := mz_bd hf
  refine mz_callV E w (k := 0) (As := [.int x3, .int x2]) (rest := []) (c_MO_turn hSK l n x3 x2 t q34 hq35) (by decide) rfl rfl k_1513 k_15 k_1510 k_1512 ks_58 hm_MO_turn ⟨⟨rfl, rfl⟩, Nat.le_of_ble_eq_true rfl, Nat.le_of_ble_eq_true rfl⟩ rfl hl.1 rfl (Nat.le_of_ble_eq_true rfl) d_MO_next_171 ⟨Nat.zero_le _, Nat.zero_le _⟩ (st1 := []) rfl (fun H locs w => ?_)
  refine lv_goto (tgt := 232) hx hb d_MO_next_174 (by decide) ?_
  obtain rfl := Option.some.inj hf
  exact mz_vret E w rfl d_MO_next_232
set_option maxRecDepth 100000 in
set_option maxHeartbeats 4000000 in
theorem b_MO_next_126 {SX : State → Heap → Prop} {dC : Nat → ClassId} {dI : Nat → Nat → Nat} {ad en : Nat → Nat} {ca : Nat → ClassId} {p : Program} {l : Launch} {e : Env} {s : State} {m : MethodId} {args : Array Value} {below : List Frame} {meth : Method} {c : Code} {res : mz_St} (E : mz_En SX 55 mz_cl dC dI ad ca p s m meth c prog_15_method_61_code 5 "MacroHouseModel" none) (n : Nat) : ∀ (x2 : Int32) (x4 : Int32) (s0 : Int32) (t : mz_St), f_MO_next_126 n x2 x4 s0 t = some res → ∀ (H : Heap) (locs : List Loc) (ls : Array Slot), mz_Wd mz_tM 55 mz_cl dC dI ad en ca s t H locs → lv_has ls 5 [(0, .ref (ad 0)), (2, .int x2), (4, .int x4)] → W p l e (r_MO_next) s m args below meth c H locs 0 0 (MQ below (mz_Q SX mz_tM 55 mz_cl dC dI ad en ca none res) args s 0 0 (mz_A ad 55)) (F0 m 126 ls [.int s0]) := by
  obtain ⟨hx, hb, hml, hown, hcx, -, -, hSX, -, -, hSK⟩ := id E
  intro x2 x4 s0 t hf H locs ls w hl
  unfold f_MO_next_126 at hf
  refine lv_istore_n (lv' := [(3, .int s0), (0, .ref (ad 0)), (2, .int x2), (4, .int x4)]) hx hb d_MO_next_126 rfl hl (by decide) rfl (fun ls hl => ?_)
  refine lv_iload hx hb d_MO_next_127 (lv_at hl 3 rfl) ?_
  refine lv_if_ne (tgt := 177) hx hb d_MO_next_129 (by decide) (fun hc17 => ?_) (fun hc17 => ?_)
  · have hf := mz_f hc17 hf
    refine lv_iload_n hx hb d_MO_next_177 rfl (lv_at hl 0 rfl) ?_
    refine lv_iconst (v := (5 : Int32)) hx hb d_MO_next_178 (by decide) ?_
    refine lv_icmp_eq (tgt := 194) hx hb d_MO_next_179 (by decide) (fun hc18 => ?_) (fun hc18 => ?_)
    · have hf := mz_t hc18 hf
      exact b_MO_next_194 E n x2 s0 t hf _ _ _ w (lv_sub hl [1, 2, 0] rfl)
    · have hf := mz_f hc18 hf
      refine lv_iload_n hx hb d_MO_next_182 rfl (lv_at hl 0 rfl) ?_
      refine lv_bipush (v := (6 : Int32)) hx hb d_MO_next_183 (by decide) ?_
      refine lv_icmp_eq (tgt := 194) hx hb d_MO_next_185 (by decide) (fun hc21 => ?_) (fun hc21 => ?_)
      · have hf := mz_t hc21 hf
        exact b_MO_next_194 E n x2 s0 t hf _ _ _ w (lv_sub hl [1, 2, 0] rfl)
      · have hf := mz_f hc21 hf
        refine lv_iload_n hx hb d_MO_next_188 rfl (lv_at hl 0 rfl) ?_
        refine lv_bipush (v := (7 : Int32)) hx hb d_MO_next_189 (by decide) ?_
        refine lv_icmp_ne (tgt := 203) hx hb d_MO_next_191 (by decide) (fun hc22 => ?_) (fun hc22 => ?_)
        · have hf := mz_f hc22 hf
          refine lv_iload_n hx hb d_MO_next_203 rfl (lv_at hl 0 rfl) ?_
          refine lv_bipush (v := (9 : Int32)) hx hb d_MO_next_204 (by decide) ?_
          refine lv_icmp_eq (tgt := 215) hx hb d_MO_next_206 (by decide) (fun hc23 => ?_) (fun hc23 => ?_)
          · have hf := mz_t hc23 hf
            exact b_MO_next_215 E n  t hf _ _ _ w (lv_sub hl [1] rfl)
          · have hf := mz_f hc23 hf
            refine lv_iload_n hx hb d_MO_next_209 rfl (lv_at hl 0 rfl) ?_
            refine lv_bipush (v := (12 : Int32)) hx hb d_MO_next_210 (by decide) ?_
            refine lv_icmp_ne (tgt := 227) hx hb d_MO_next_212 (by decide) (fun hc26 => ?_) (fun hc26 => ?_)
            · have hf := mz_f hc26 hf
              refine lv_aload_n hx hb d_MO_next_227 rfl (lv_at hl 1 rfl) ?_
              refine lv_iload_n hx hb d_MO_next_228 rfl (lv_at hl 2 rfl) ?_
              obtain ⟨q27, hq28, hf⟩ := mz_bd hf
              refine mz_callV E w (k := 0) (As := [.int x2]) (rest := []) (c_MO_doLine hSK l n x2 t q27 hq28) (by decide) rfl rfl k_1612 k_15 k_1609 k_1611 ks_82 hm_MO_doLine ⟨⟨rfl, rfl⟩, Nat.le_of_ble_eq_true rfl, Nat.le_of_ble_eq_true rfl⟩ rfl hl.1 rfl (Nat.le_of_ble_eq_true rfl) d_MO_next_229 ⟨Nat.zero_le _, Nat.zero_le _⟩ (st1 := []) rfl (fun H locs w => ?_)
              obtain rfl := Option.some.inj hf
              exact mz_vret E w rfl d_MO_next_232
            · have hf := mz_t hc26 hf
              exact b_MO_next_215 E n  t hf _ _ _ w (lv_sub hl [1] rfl)
        · have hf := mz_t hc22 hf
          exact b_MO_next_194 E n x2 s0 t hf _ _ _ w (lv_sub hl [1, 2, 0] rfl)
  · have hf := mz_t hc17 hf
    refine lv_iload_n hx hb d_MO_next_132 rfl (lv_at hl 0 rfl) ?_
    refine lv_iconst (v := (3 : Int32)) hx hb d_MO_next_133 (by decide) ?_
    refine lv_icmp_eq (tgt := 142) hx hb d_MO_next_134 (by decide) (fun hc29 => ?_) (fun hc29 => ?_)
    · have hf := mz_t hc29 hf
      exact b_MO_next_142 E n  t hf _ _ _ w (lv_sub hl [1] rfl)
    · have hf := mz_f hc29 hf
      refine lv_iload_n hx hb d_MO_next_137 rfl (lv_at hl 0 rfl) ?_
      refine lv_iconst (v := (4 : Int32)) hx hb d_MO_next_138 (by decide) ?_
      refine lv_icmp_ne (tgt := 151) hx hb d_MO_next_139 (by decide) (fun hc32 => ?_) (fun hc32 => ?_)
      · have hf := mz_f hc32 hf
        refine lv_iload_n hx hb d_MO_next_151 rfl (lv_at hl 0 rfl) ?_
        refine lv_iconst (v := (5 : Int32)) hx hb d_MO_next_152 (by decide) ?_
        refine lv_icmp_eq (tgt := 168) hx hb d_MO_next_153 (by decide) (fun hc33 => ?_) (fun hc33 => ?_)
        · have hf := mz_t hc33 hf
          exact b_MO_next_168 E n x2 s0 t hf _ _ _ w (lv_sub hl [1, 2, 0] rfl)
        · have hf := mz_f hc33 hf
          refine lv_iload_n hx hb d_MO_next_156 rfl (lv_at hl 0 rfl) ?_
          refine lv_bipush (v := (6 : Int32)) hx hb d_MO_next_157 (by decide) ?_
          refine lv_icmp_eq (tgt := 168) hx hb d_MO_next_159 (by decide) (fun hc36 => ?_) (fun hc36 => ?_)
          · have hf := mz_t hc36 hf
            exact b_MO_next_168 E n x2 s0 t hf _ _ _ w (lv_sub hl [1, 2, 0] rfl)
          · have hf := mz_f hc36 hf
            refine lv_iload_n hx hb d_MO_next_162 rfl (lv_at hl 0 rfl) ?_
            refine lv_bipush (v := (7 : Int32)) hx hb d_MO_next_163 (by decide) ?_
            refine lv_icmp_ne (tgt := 232) hx hb d_MO_next_165 (by decide) (fun hc37 => ?_) (fun hc37 => ?_)
            · have hf := mz_f hc37 hf
              obtain rfl := Option.some.inj hf
              exact mz_vret E w rfl d_MO_next_232
            · have hf := mz_t hc37 hf
              exact b_MO_next_168 E n x2 s0 t hf _ _ _ w (lv_sub hl [1, 2, 0] rfl)
      · have hf := mz_t hc32 hf
        exact b_MO_next_142 E n  t hf _ _ _ w (lv_sub hl [1] rfl)
set_option maxRecDepth 100000 in
set_option maxHeartbeats 4000000 in
theorem b_MO_next_125 {SX : State → Heap → Prop} {dC : Nat → ClassId} {dI : Nat → Nat → Nat} {ad en : Nat → Nat} {ca : Nat → ClassId} {p : Program} {l : Launch} {e : Env} {s : State} {m : MethodId} {args : Array Value} {below : List Frame} {meth : Method} {c : Code} {res : mz_St} (E : mz_En SX 55 mz_cl dC dI ad ca p s m meth c prog_15_method_61_code 5 "MacroHouseModel" none) (n : Nat) : ∀ (x2 : Int32) (x3 : Int32) (x4 : Int32) (t : mz_St), f_MO_next_125 n x2 x3 x4 t = some res → ∀ (H : Heap) (locs : List Loc) (ls : Array Slot), mz_Wd mz_tM 55 mz_cl dC dI ad en ca s t H locs → lv_has ls 5 [(0, .ref (ad 0)), (2, .int x2), (3, .int x3), (4, .int x4)] → W p l e (r_MO_next) s m args below meth c H locs 0 0 (MQ below (mz_Q SX mz_tM 55 mz_cl dC dI ad en ca none res) args s 0 0 (mz_A ad 55)) (F0 m 125 ls []) := by
  obtain ⟨hx, hb, hml, hown, hcx, -, -, hSX, -, -, hSK⟩ := id E
  intro x2 x3 x4 t hf H locs ls w hl
  unfold f_MO_next_125 at hf
  refine lv_iload_n hx hb d_MO_next_125 rfl (lv_at hl 2 rfl) ?_
  exact b_MO_next_126 E n x2 x4 x3 t hf _ _ _ w (lv_sub hl [0, 1, 3] rfl)
set_option maxRecDepth 100000 in
set_option maxHeartbeats 4000000 in
theorem b_MO_next_106 {SX : State → Heap → Prop} {dC : Nat → ClassId} {dI : Nat → Nat → Nat} {ad en : Nat → Nat} {ca : Nat → ClassId} {p : Program} {l : Launch} {e : Env} {s : State} {m : MethodId} {args : Array Value} {below : List Frame} {meth : Method} {c : Code} {res : mz_St} (E : mz_En SX 55 mz_cl dC dI ad ca p s m meth c prog_15_method_61_code 5 "MacroHouseModel" none) (n : Nat) : ∀ (x2 : Int32) (x3 : Int32) (s0 : Int32) (t : mz_St), f_MO_next_106 n x2 x3 s0 t = some res → ∀ (H : Heap) (locs : List Loc) (ls : Array Slot), mz_Wd mz_tM 55 mz_cl dC dI ad en ca s t H locs → lv_has ls 5 [(0, .ref (ad 0)), (2, .int x2), (3, .int x3)] → W p l e (r_MO_next) s m args below meth c H locs 0 0 (MQ below (mz_Q SX mz_tM 55 mz_cl dC dI ad en ca none res) args s 0 0 (mz_A ad 55)) (F0 m 106 ls [.int s0]) := by
  obtain ⟨hx, hb, hml, hown, hcx, -, -, hSX, -, -, hSK⟩ := id E
  intro x2 x3 s0 t hf H locs ls w hl
  unfold f_MO_next_106 at hf
  refine lv_istore (lv' := [(4, .int s0), (0, .ref (ad 0)), (2, .int x2), (3, .int x3)]) hx hb d_MO_next_106 hl (by decide) rfl (fun ls hl => ?_)
  refine lv_iload hx hb d_MO_next_108 (lv_at hl 0 rfl) ?_
  refine lv_if_eq (tgt := 125) hx hb d_MO_next_110 (by decide) (fun hc16 => ?_) (fun hc16 => ?_)
  · have hf := mz_t hc16 hf
    exact b_MO_next_125 E n x2 x3 s0 t hf _ _ _ w (lv_sub hl [1, 2, 3, 0] rfl)
  · have hf := mz_f hc16 hf
    refine lv_aload_n hx hb d_MO_next_113 rfl (lv_at hl 1 rfl) ?_
    refine mz_get E w 0 34 (v := .int (mz_gI t 0 34)) (by decide) rfl rfl ii_11 (by decide) (Nat.le_of_ble_eq_true rfl) k_1217 rfl d_MO_next_114 ?_
    refine lv_iconst (v := (1 : Int32)) hx hb d_MO_next_117 (by decide) ?_
    refine lv_icmp_le (tgt := 125) hx hb d_MO_next_118 (by decide) (fun hc38 => ?_) (fun hc38 => ?_)
    · have hf := mz_t hc38 hf
      exact b_MO_next_125 E n x2 x3 s0 t hf _ _ _ w (lv_sub hl [1, 2, 3, 0] rfl)
    · have hf := mz_f hc38 hf
      refine lv_iconst (v := (0 : Int32)) hx hb d_MO_next_121 (by decide) ?_
      refine lv_goto (tgt := 126) hx hb d_MO_next_122 (by decide) ?_
      exact b_MO_next_126 E n x2 s0 (0 : Int32) t hf _ _ _ w (lv_sub hl [1, 2, 0] rfl)
set_option maxRecDepth 100000 in
set_option maxHeartbeats 4000000 in
theorem b_MO_next_101 {SX : State → Heap → Prop} {dC : Nat → ClassId} {dI : Nat → Nat → Nat} {ad en : Nat → Nat} {ca : Nat → ClassId} {p : Program} {l : Launch} {e : Env} {s : State} {m : MethodId} {args : Array Value} {below : List Frame} {meth : Method} {c : Code} {res : mz_St} (E : mz_En SX 55 mz_cl dC dI ad ca p s m meth c prog_15_method_61_code 5 "MacroHouseModel" none) (n : Nat) : ∀ (x2 : Int32) (x3 : Int32) (t : mz_St), f_MO_next_101 n x2 x3 t = some res → ∀ (H : Heap) (locs : List Loc) (ls : Array Slot), mz_Wd mz_tM 55 mz_cl dC dI ad en ca s t H locs → lv_has ls 5 [(0, .ref (ad 0)), (2, .int x2), (3, .int x3)] → W p l e (r_MO_next) s m args below meth c H locs 0 0 (MQ below (mz_Q SX mz_tM 55 mz_cl dC dI ad en ca none res) args s 0 0 (mz_A ad 55)) (F0 m 101 ls []) := by
  obtain ⟨hx, hb, hml, hown, hcx, -, -, hSX, -, -, hSK⟩ := id E
  intro x2 x3 t hf H locs ls w hl
  unfold f_MO_next_101 at hf
  refine lv_iconst (v := (1 : Int32)) hx hb d_MO_next_101 (by decide) ?_
  refine lv_goto (tgt := 106) hx hb d_MO_next_102 (by decide) ?_
  exact b_MO_next_106 E n x2 x3 (1 : Int32) t hf _ _ _ w (lv_sub hl [0, 1, 2] rfl)
set_option maxRecDepth 100000 in
set_option maxHeartbeats 4000000 in
theorem b_MO_next_58 {SX : State → Heap → Prop} {dC : Nat → ClassId} {dI : Nat → Nat → Nat} {ad en : Nat → Nat} {ca : Nat → ClassId} {p : Program} {l : Launch} {e : Env} {s : State} {m : MethodId} {args : Array Value} {below : List Frame} {meth : Method} {c : Code} {res : mz_St} (E : mz_En SX 55 mz_cl dC dI ad ca p s m meth c prog_15_method_61_code 5 "MacroHouseModel" none) (n : Nat) : ∀ (x2 : Int32) (s1 : Int32) (t : mz_St), f_MO_next_58 n x2 s1 t = some res → ∀ (H : Heap) (locs : List Loc) (ls : Array Slot), mz_Wd mz_tM 55 mz_cl dC dI ad en ca s t H locs → lv_has ls 5 [(0, .ref (ad 0)), (2, .int x2)] → W p l e (r_MO_next) s m args below meth c H locs 0 0 (MQ below (mz_Q SX mz_tM 55 mz_cl dC dI ad en ca none res) args s 0 0 (mz_A ad 55)) (F0 m 58 ls [.int s1, .ref (ad 0)]) := by
  obtain ⟨hx, hb, hml, hown, hcx, -, -, hSX, -, -, hSK⟩ := id E
  intro x2 s1 t hf H locs ls w hl
  unfold f_MO_next_58 at hf
  refine mz_put E w 0 63 (v := s1) (by decide) rfl rfl ii_11 tk_11 nm_11 (by decide) (Nat.le_of_ble_eq_true rfl) k_1246 rfl (tk_11 63 (by decide)) rfl rfl rfl d_MO_next_58 (fun H locs w => ?_)
  obtain ⟨t9, e_t9, hf⟩ := mz_lt hf
  rw [← e_t9] at w
  refine lv_aload_n hx hb d_MO_next_61 rfl (lv_at hl 0 rfl) ?_
  refine lv_iload_n hx hb d_MO_next_62 rfl (lv_at hl 1 rfl) ?_
  obtain ⟨q10, hq11, hf⟩ := mz_bd hf
  refine mz_callV E w (k := 0) (As := [.int x2]) (rest := []) (c_MO_look hSK l n x2 t9 q10 hq11) (by decide) rfl rfl k_1475 k_15 k_1472 k_1474 ks_55 hm_MO_look ⟨⟨rfl, rfl⟩, Nat.le_of_ble_eq_true rfl, Nat.le_of_ble_eq_true rfl⟩ rfl hl.1 rfl (Nat.le_of_ble_eq_true rfl) d_MO_next_63 ⟨Nat.zero_le _, Nat.zero_le _⟩ (st1 := []) rfl (fun H locs w => ?_)
  refine lv_aload_n hx hb d_MO_next_66 rfl (lv_at hl 0 rfl) ?_
  refine mz_get E w 0 6 (v := .int (mz_gI q10 0 6)) (by decide) rfl rfl ii_11 (by decide) (Nat.le_of_ble_eq_true rfl) k_1189 rfl d_MO_next_67 ?_
  refine lv_if_le (tgt := 74) hx hb d_MO_next_70 (by decide) (fun hc12 => ?_) (fun hc12 => ?_)
  · have hf := mz_t hc12 hf
    refine lv_aload_n hx hb d_MO_next_74 rfl (lv_at hl 0 rfl) ?_
    refine lv_iload_n hx hb d_MO_next_75 rfl (lv_at hl 1 rfl) ?_
    obtain ⟨q13, hq14, hf⟩ := mz_bd hf
    refine mz_callV E w (k := 0) (As := [.int x2]) (rest := []) (c_MO_firstOf hSK l n x2 q10 q13 hq14) (by decide) rfl rfl k_1479 k_15 k_1476 k_1478 ks_56 hm_MO_firstOf ⟨⟨rfl, rfl⟩, Nat.le_of_ble_eq_true rfl, Nat.le_of_ble_eq_true rfl⟩ rfl hl.1 rfl (Nat.le_of_ble_eq_true rfl) d_MO_next_76 ⟨Nat.zero_le _, Nat.zero_le _⟩ (st1 := [.int q13.1]) rfl (fun H locs w => ?_)
    refine lv_istore_n (lv' := [(3, .int q13.1), (0, .ref (ad 0)), (2, .int x2)]) hx hb d_MO_next_79 rfl hl (by decide) rfl (fun ls hl => ?_)
    refine lv_aload_n hx hb d_MO_next_80 rfl (lv_at hl 1 rfl) ?_
    refine mz_get E w 0 53 (v := .int (mz_gI q13.2 0 53)) (by decide) rfl rfl ii_11 (by decide) (Nat.le_of_ble_eq_true rfl) k_1236 rfl d_MO_next_81 ?_
    refine lv_if_eq (tgt := 101) hx hb d_MO_next_84 (by decide) (fun hc15 => ?_) (fun hc15 => ?_)
    · have hf := mz_t hc15 hf
      exact b_MO_next_101 E n x2 q13.1 q13.2 hf _ _ _ w (lv_sub hl [1, 2, 0] rfl)
    · have hf := mz_f hc15 hf
      refine lv_aload_n hx hb d_MO_next_87 rfl (lv_at hl 1 rfl) ?_
      refine mz_get E w 0 54 (v := .ref (ad 38)) (by decide) rfl rfl ii_11 (by decide) (Nat.le_of_ble_eq_true rfl) k_1237 rfl d_MO_next_88 ?_
      refine lv_aload_n hx hb d_MO_next_91 rfl (lv_at hl 1 rfl) ?_
      refine mz_get E w 0 53 (v := .int (mz_gI q13.2 0 53)) (by decide) rfl rfl ii_11 (by decide) (Nat.le_of_ble_eq_true rfl) k_1236 rfl d_MO_next_92 ?_
      refine lv_iconst (v := (1 : Int32)) hx hb d_MO_next_95 (by decide) ?_
      refine lv_isub hx hb d_MO_next_96 ?_
      obtain ⟨hi39, hf⟩ := mz_gd hf
      refine mz_zald E w 38 (by decide) rfl hi39 d_MO_next_97 ?_
      refine lv_if_eq (tgt := 105) hx hb d_MO_next_98 (by decide) (fun hc40 => ?_) (fun hc40 => ?_)
      · have hf := mz_t hc40 hf
        refine lv_iconst (v := (0 : Int32)) hx hb d_MO_next_105 (by decide) ?_
        exact b_MO_next_106 E n x2 q13.1 (0 : Int32) q13.2 hf _ _ _ w (lv_sub hl [1, 2, 0] rfl)
      · have hf := mz_f hc40 hf
        exact b_MO_next_101 E n x2 q13.1 q13.2 hf _ _ _ w (lv_sub hl [1, 2, 0] rfl)
  · have hf := mz_f hc12 hf
    obtain rfl := Option.some.inj hf
    exact mz_vret E w rfl d_MO_next_73
set_option maxRecDepth 100000 in
set_option maxHeartbeats 4000000 in
theorem c_MO_next {SX : State → Heap → Prop} {dC : Nat → ClassId} {dI : Nat → Nat → Nat} {ad en : Nat → Nat} {ca : Nat → ClassId} (hSK : mz_SK SX ad 55) (l : Launch) (n : Nat) (t : mz_St) (res : mz_St) (hf : f_MO_next n t = some res) : mz_C SX mz_tM 55 mz_cl dC dI ad en ca l y_MO_next prog_15_method_61_code 5 none (r_MO_next) [.ref (ad 0)] t none res := by
  unfold f_MO_next at hf
  refine mz_met hSK (by decide) (Nat.le_of_ble_eq_true rfl) ?_
  intro p e s m args below meth c ls E w hl
  obtain ⟨hx, hb, hml, hown, hcx, -, -, hSX, -, -, -⟩ := id E
  have hl : lv_has ls 5 [(0, .ref (ad 0))] := hl
  refine lv_aload_n hx hb d_MO_next_0 rfl (lv_at hl 0 rfl) ?_
  refine mz_get E w 0 34 (v := .int (mz_gI t 0 34)) (by decide) rfl rfl ii_11 (by decide) (Nat.le_of_ble_eq_true rfl) k_1217 rfl d_MO_next_1 ?_
  refine lv_iconst (v := (1 : Int32)) hx hb d_MO_next_4 (by decide) ?_
  refine lv_isub hx hb d_MO_next_5 ?_
  refine lv_istore_n (lv' := [(1, .int ((mz_gI t 0 34) - (1 : Int32))), (0, .ref (ad 0))]) hx hb d_MO_next_6 rfl hl (by decide) rfl (fun ls hl => ?_)
  refine lv_aload_n hx hb d_MO_next_7 rfl (lv_at hl 1 rfl) ?_
  refine mz_get E w 0 38 (v := .ref (ad 25)) (by decide) rfl rfl ii_11 (by decide) (Nat.le_of_ble_eq_true rfl) k_1221 rfl d_MO_next_8 ?_
  refine lv_iload_n hx hb d_MO_next_11 rfl (lv_at hl 0 rfl) ?_
  obtain ⟨hi1, hf⟩ := mz_gd hf
  refine mz_iald E w 25 (by decide) rfl hi1 d_MO_next_12 ?_
  refine lv_aload_n hx hb d_MO_next_13 rfl (lv_at hl 1 rfl) ?_
  refine mz_get E w 0 37 (v := .ref (ad 24)) (by decide) rfl rfl ii_11 (by decide) (Nat.le_of_ble_eq_true rfl) k_1220 rfl d_MO_next_14 ?_
  refine lv_iload_n hx hb d_MO_next_17 rfl (lv_at hl 0 rfl) ?_
  obtain ⟨hi2, hf⟩ := mz_gd hf
  refine mz_iald E w 24 (by decide) rfl hi2 d_MO_next_18 ?_
  refine lv_icmp_ne (tgt := 28) hx hb d_MO_next_19 (by decide) (fun hc3 => ?_) (fun hc3 => ?_)
  · have hf := mz_f hc3 hf
    refine lv_aload_n hx hb d_MO_next_28 rfl (lv_at hl 1 rfl) ?_
    refine mz_get E w 0 38 (v := .ref (ad 25)) (by decide) rfl rfl ii_11 (by decide) (Nat.le_of_ble_eq_true rfl) k_1221 rfl d_MO_next_29 ?_
    refine lv_iload_n hx hb d_MO_next_32 rfl (lv_at hl 0 rfl) ?_
    obtain ⟨hi4, hf⟩ := mz_gd hf
    refine mz_iald E w 25 (by decide) rfl hi4 d_MO_next_33 ?_
    refine lv_istore_n (lv' := [(2, .int (mz_gI t 25 ((mz_gI t 0 34) - (1 : Int32)).toNatClampNeg)), (1, .int ((mz_gI t 0 34) - (1 : Int32))), (0, .ref (ad 0))]) hx hb d_MO_next_34 rfl hl (by decide) rfl (fun ls hl => ?_)
    refine lv_aload_n hx hb d_MO_next_35 rfl (lv_at hl 2 rfl) ?_
    refine mz_get E w 0 38 (v := .ref (ad 25)) (by decide) rfl rfl ii_11 (by decide) (Nat.le_of_ble_eq_true rfl) k_1221 rfl d_MO_next_36 ?_
    refine lv_iload_n hx hb d_MO_next_39 rfl (lv_at hl 1 rfl) ?_
    refine lv_dup2_11 hx hb d_MO_next_40 rfl rfl ?_
    obtain ⟨hi5, hf⟩ := mz_gd hf
    refine mz_iald E w 25 (by decide) rfl hi5 d_MO_next_41 ?_
    refine lv_iconst (v := (1 : Int32)) hx hb d_MO_next_42 (by decide) ?_
    refine lv_iadd hx hb d_MO_next_43 ?_
    obtain ⟨hi6, hf⟩ := mz_gd hf
    refine mz_iast E w 25 (x := ((mz_gI t 25 ((mz_gI t 0 34) - (1 : Int32)).toNatClampNeg) + (1 : Int32))) (by decide) rfl hi6 d_MO_next_44 (fun H locs w => ?_)
    obtain ⟨t7, e_t7, hf⟩ := mz_lt hf
    rw [← e_t7] at w
    refine lv_aload_n hx hb d_MO_next_45 rfl (lv_at hl 2 rfl) ?_
    refine lv_iload_n hx hb d_MO_next_46 rfl (lv_at hl 1 rfl) ?_
    refine lv_if_ne (tgt := 54) hx hb d_MO_next_47 (by decide) (fun hc8 => ?_) (fun hc8 => ?_)
    · have hf := mz_f hc8 hf
      refine lv_aload_n hx hb d_MO_next_54 rfl (lv_at hl 2 rfl) ?_
      refine mz_get E w 0 63 (v := .int (mz_gI t7 0 63)) (by decide) rfl rfl ii_11 (by decide) (Nat.le_of_ble_eq_true rfl) k_1246 rfl d_MO_next_55 ?_
      exact b_MO_next_58 E n (mz_gI t 25 ((mz_gI t 0 34) - (1 : Int32)).toNatClampNeg) (mz_gI t7 0 63) t7 hf _ _ _ w (lv_sub hl [2, 0] rfl)
    · have hf := mz_t hc8 hf
      refine lv_iload_n hx hb d_MO_next_50 rfl (lv_at hl 0 rfl) ?_
      refine lv_goto (tgt := 58) hx hb d_MO_next_51 (by decide) ?_
      exact b_MO_next_58 E n (mz_gI t 25 ((mz_gI t 0 34) - (1 : Int32)).toNatClampNeg) (mz_gI t 25 ((mz_gI t 0 34) - (1 : Int32)).toNatClampNeg) t7 hf _ _ _ w (lv_sub hl [2, 0] rfl)
  · have hf := mz_t hc3 hf
    refine lv_aload_n hx hb d_MO_next_22 rfl (lv_at hl 1 rfl) ?_
    refine lv_iload_n hx hb d_MO_next_23 rfl (lv_at hl 0 rfl) ?_
    obtain ⟨q41, hq42, hf⟩ := mz_bd hf
    refine mz_callV E w (k := 0) (As := [.int ((mz_gI t 0 34) - (1 : Int32))]) (rest := []) (c_MO_atEnd hSK l n ((mz_gI t 0 34) - (1 : Int32)) t q41 hq42) (by decide) rfl rfl k_1463 k_15 k_1460 k_1462 ks_52 hm_MO_atEnd ⟨⟨rfl, rfl⟩, Nat.le_of_ble_eq_true rfl, Nat.le_of_ble_eq_true rfl⟩ rfl hl.1 rfl (Nat.le_of_ble_eq_true rfl) d_MO_next_24 ⟨Nat.zero_le _, Nat.zero_le _⟩ (st1 := []) rfl (fun H locs w => ?_)
    obtain rfl := Option.some.inj hf
    exact mz_vret E w rfl d_MO_next_27

/-! MacroHouseModel.expand()I -/
abbrev r_MO_expand : Room := { frames := 9, cells := 0, slots := 0, locals := 210 }
def f_MO_expand_113 (n : Nat) (t : mz_St) : Option (Int32 × mz_St) := mz_let (mz_pI t 0 11 (1 : Int32)) fun t21 => if (mz_gI t21 0 6) ≤ 0 then (some ((mz_gI t21 0 28), t21)) else (some ((-1 : Int32), t21))
def f_MO_expand_92 (n : Nat) : Nat → mz_St → Option (Int32 × mz_St)
  | 0, _ => none
  | k + 1, t => if (mz_gI t 0 34) ≤ 0 then (f_MO_expand_113 n  t) else (if (mz_gI t 0 6) = 0 then ((f_MO_next n t).bind fun q24 => (f_MO_expand_92 n k)  q24) else (f_MO_expand_113 n  t))
def f_MO_expand (n : Nat) (t : mz_St) : Option (Int32 × mz_St) := mz_let (mz_pI t 0 0 (0 : Int32)) fun t1 => (f_MO_findLines n t1).bind fun q2 => mz_let (mz_pI q2 0 6 (0 : Int32)) fun t4 => mz_let (mz_pI t4 0 7 (-1 : Int32)) fun t5 => mz_let (mz_pI t5 0 8 (0 : Int32)) fun t6 => mz_let (mz_pI t6 0 9 (0 : Int32)) fun t7 => mz_let (mz_pI t7 0 10 (0 : Int32)) fun t8 => mz_let (mz_pI t8 0 12 (0 : Int32)) fun t9 => mz_let (mz_pI t9 0 24 (0 : Int32)) fun t10 => mz_let (mz_pI t10 0 28 (0 : Int32)) fun t11 => mz_let (mz_pI t11 0 29 (0 : Int32)) fun t12 => mz_let (mz_pI t12 0 53 (0 : Int32)) fun t13 => mz_let (mz_pI t13 0 34 (0 : Int32)) fun t14 => mz_let (mz_pI t14 0 48 (0 : Int32)) fun t15 => mz_let (mz_pI t15 0 51 (0 : Int32)) fun t16 => mz_let (mz_pI t16 0 63 (0 : Int32)) fun t17 => (f_MO_beginFrame n (0 : Int32) (0 : Int32) (mz_gI t17 0 3) (1 : Int32) (0 : Int32) (0 : Int32) t17).bind fun q18 => f_MO_expand_92 n n  q18
set_option maxRecDepth 100000 in
set_option maxHeartbeats 4000000 in
theorem b_MO_expand_113 {SX : State → Heap → Prop} {dC : Nat → ClassId} {dI : Nat → Nat → Nat} {ad en : Nat → Nat} {ca : Nat → ClassId} {p : Program} {l : Launch} {e : Env} {s : State} {m : MethodId} {args : Array Value} {below : List Frame} {meth : Method} {c : Code} {res : (Int32 × mz_St)} (E : mz_En SX 55 mz_cl dC dI ad ca p s m meth c prog_15_method_62_code 1 "MacroHouseModel" (some (.int))) (n : Nat) : ∀ (t : mz_St), f_MO_expand_113 n t = some res → ∀ (H : Heap) (locs : List Loc) (ls : Array Slot), mz_Wd mz_tM 55 mz_cl dC dI ad en ca s t H locs → lv_has ls 1 [(0, .ref (ad 0))] → W p l e (r_MO_expand) s m args below meth c H locs 0 0 (MQ below (mz_Q SX mz_tM 55 mz_cl dC dI ad en ca (some (.int res.1)) res.2) args s 0 0 (mz_A ad 55)) (F0 m 113 ls []) := by
  obtain ⟨hx, hb, hml, hown, hcx, -, -, hSX, -, -, hSK⟩ := id E
  intro t hf H locs ls w hl
  unfold f_MO_expand_113 at hf
  refine lv_aload_n hx hb d_MO_expand_113 rfl (lv_at hl 0 rfl) ?_
  refine lv_iconst (v := (1 : Int32)) hx hb d_MO_expand_114 (by decide) ?_
  refine mz_put E w 0 11 (v := (1 : Int32)) (by decide) rfl rfl ii_11 tk_11 nm_11 (by decide) (Nat.le_of_ble_eq_true rfl) k_1194 rfl (tk_11 11 (by decide)) rfl (by decide) rfl d_MO_expand_115 (fun H locs w => ?_)
  obtain ⟨t21, e_t21, hf⟩ := mz_lt hf
  rw [← e_t21] at w
  refine lv_aload_n hx hb d_MO_expand_118 rfl (lv_at hl 0 rfl) ?_
  refine mz_get E w 0 6 (v := .int (mz_gI t21 0 6)) (by decide) rfl rfl ii_11 (by decide) (Nat.le_of_ble_eq_true rfl) k_1189 rfl d_MO_expand_119 ?_
  refine lv_if_le (tgt := 129) hx hb d_MO_expand_122 (by decide) (fun hc22 => ?_) (fun hc22 => ?_)
  · have hf := mz_t hc22 hf
    refine lv_aload_n hx hb d_MO_expand_129 rfl (lv_at hl 0 rfl) ?_
    refine mz_get E w 0 28 (v := .int (mz_gI t21 0 28)) (by decide) rfl rfl ii_11 (by decide) (Nat.le_of_ble_eq_true rfl) k_1211 rfl d_MO_expand_130 ?_
    obtain rfl := Option.some.inj hf
    exact mz_iret E w rfl d_MO_expand_133
  · have hf := mz_f hc22 hf
    refine lv_iconst (v := (-1 : Int32)) hx hb d_MO_expand_125 (by decide) ?_
    refine lv_goto (tgt := 133) hx hb d_MO_expand_126 (by decide) ?_
    obtain rfl := Option.some.inj hf
    exact mz_iret E w rfl d_MO_expand_133
set_option maxRecDepth 100000 in
set_option maxHeartbeats 4000000 in
theorem b_MO_expand_92 {SX : State → Heap → Prop} {dC : Nat → ClassId} {dI : Nat → Nat → Nat} {ad en : Nat → Nat} {ca : Nat → ClassId} {p : Program} {l : Launch} {e : Env} {s : State} {m : MethodId} {args : Array Value} {below : List Frame} {meth : Method} {c : Code} {res : (Int32 × mz_St)} (E : mz_En SX 55 mz_cl dC dI ad ca p s m meth c prog_15_method_62_code 1 "MacroHouseModel" (some (.int))) (n : Nat) (k : Nat) : ∀ (t : mz_St), f_MO_expand_92 n k t = some res → ∀ (H : Heap) (locs : List Loc) (ls : Array Slot), mz_Wd mz_tM 55 mz_cl dC dI ad en ca s t H locs → lv_has ls 1 [(0, .ref (ad 0))] → W p l e (r_MO_expand) s m args below meth c H locs 0 0 (MQ below (mz_Q SX mz_tM 55 mz_cl dC dI ad en ca (some (.int res.1)) res.2) args s 0 0 (mz_A ad 55)) (F0 m 92 ls []) := by
  obtain ⟨hx, hb, hml, hown, hcx, -, -, hSX, -, -, hSK⟩ := id E
  induction k with
  | zero => intro t hf; exact absurd hf (by unfold f_MO_expand_92; exact fun h => nomatch h)
  | succ k ih =>
    intro t hf H locs ls w hl
    unfold f_MO_expand_92 at hf
    refine lv_aload_n hx hb d_MO_expand_92 rfl (lv_at hl 0 rfl) ?_
    refine mz_get E w 0 34 (v := .int (mz_gI t 0 34)) (by decide) rfl rfl ii_11 (by decide) (Nat.le_of_ble_eq_true rfl) k_1217 rfl d_MO_expand_93 ?_
    refine lv_if_le (tgt := 113) hx hb d_MO_expand_96 (by decide) (fun hc20 => ?_) (fun hc20 => ?_)
    · have hf := mz_t hc20 hf
      exact b_MO_expand_113 E n  t hf _ _ _ w (lv_sub hl [0] rfl)
    · have hf := mz_f hc20 hf
      refine lv_aload_n hx hb d_MO_expand_99 rfl (lv_at hl 0 rfl) ?_
      refine mz_get E w 0 6 (v := .int (mz_gI t 0 6)) (by decide) rfl rfl ii_11 (by decide) (Nat.le_of_ble_eq_true rfl) k_1189 rfl d_MO_expand_100 ?_
      refine lv_if_ne (tgt := 113) hx hb d_MO_expand_103 (by decide) (fun hc23 => ?_) (fun hc23 => ?_)
      · have hf := mz_f hc23 hf
        exact b_MO_expand_113 E n  t hf _ _ _ w (lv_sub hl [0] rfl)
      · have hf := mz_t hc23 hf
        refine lv_aload_n hx hb d_MO_expand_106 rfl (lv_at hl 0 rfl) ?_
        obtain ⟨q24, hq25, hf⟩ := mz_bd hf
        refine mz_callV E w (k := 0) (As := []) (rest := []) (c_MO_next hSK l n t q24 hq25) (by decide) rfl rfl k_1459 k_15 k_1456 k_1458 ks_51 hm_MO_next ⟨⟨rfl, rfl⟩, Nat.le_of_ble_eq_true rfl, Nat.le_of_ble_eq_true rfl⟩ rfl hl.1 rfl (Nat.le_of_ble_eq_true rfl) d_MO_expand_107 ⟨Nat.zero_le _, Nat.zero_le _⟩ (st1 := []) rfl (fun H locs w => ?_)
        refine lv_goto (tgt := 92) hx hb d_MO_expand_110 (by decide) ?_
        exact ih  q24 hf _ _ _ w (lv_sub hl [0] rfl)
set_option maxRecDepth 100000 in
set_option maxHeartbeats 4000000 in
theorem c_MO_expand {SX : State → Heap → Prop} {dC : Nat → ClassId} {dI : Nat → Nat → Nat} {ad en : Nat → Nat} {ca : Nat → ClassId} (hSK : mz_SK SX ad 55) (l : Launch) (n : Nat) (t : mz_St) (res : (Int32 × mz_St)) (hf : f_MO_expand n t = some res) : mz_C SX mz_tM 55 mz_cl dC dI ad en ca l y_MO_expand prog_15_method_62_code 1 (some (.int)) (r_MO_expand) [.ref (ad 0)] t (some (.int res.1)) res.2 := by
  unfold f_MO_expand at hf
  refine mz_met hSK (by decide) (Nat.le_of_ble_eq_true rfl) ?_
  intro p e s m args below meth c ls E w hl
  obtain ⟨hx, hb, hml, hown, hcx, -, -, hSX, -, -, -⟩ := id E
  have hl : lv_has ls 1 [(0, .ref (ad 0))] := hl
  refine lv_aload_n hx hb d_MO_expand_0 rfl (lv_at hl 0 rfl) ?_
  refine lv_iconst (v := (0 : Int32)) hx hb d_MO_expand_1 (by decide) ?_
  refine mz_put E w 0 0 (v := (0 : Int32)) (by decide) rfl rfl ii_11 tk_11 nm_11 (by decide) (Nat.le_of_ble_eq_true rfl) k_1183 rfl (tk_11 0 (by decide)) rfl rfl rfl d_MO_expand_2 (fun H locs w => ?_)
  obtain ⟨t1, e_t1, hf⟩ := mz_lt hf
  rw [← e_t1] at w
  refine lv_aload_n hx hb d_MO_expand_5 rfl (lv_at hl 0 rfl) ?_
  obtain ⟨q2, hq3, hf⟩ := mz_bd hf
  refine mz_callV E w (k := 0) (As := []) (rest := []) (c_MO_findLines hSK l n t1 q2 hq3) (by decide) rfl rfl k_1451 k_15 k_1448 k_1450 ks_49 hm_MO_findLines ⟨⟨rfl, rfl⟩, Nat.le_of_ble_eq_true rfl, Nat.le_of_ble_eq_true rfl⟩ rfl hl.1 rfl (Nat.le_of_ble_eq_true rfl) d_MO_expand_6 ⟨Nat.zero_le _, Nat.zero_le _⟩ (st1 := []) rfl (fun H locs w => ?_)
  refine lv_aload_n hx hb d_MO_expand_9 rfl (lv_at hl 0 rfl) ?_
  refine lv_iconst (v := (0 : Int32)) hx hb d_MO_expand_10 (by decide) ?_
  refine mz_put E w 0 6 (v := (0 : Int32)) (by decide) rfl rfl ii_11 tk_11 nm_11 (by decide) (Nat.le_of_ble_eq_true rfl) k_1189 rfl (tk_11 6 (by decide)) rfl rfl rfl d_MO_expand_11 (fun H locs w => ?_)
  obtain ⟨t4, e_t4, hf⟩ := mz_lt hf
  rw [← e_t4] at w
  refine lv_aload_n hx hb d_MO_expand_14 rfl (lv_at hl 0 rfl) ?_
  refine lv_iconst (v := (-1 : Int32)) hx hb d_MO_expand_15 (by decide) ?_
  refine mz_put E w 0 7 (v := (-1 : Int32)) (by decide) rfl rfl ii_11 tk_11 nm_11 (by decide) (Nat.le_of_ble_eq_true rfl) k_1190 rfl (tk_11 7 (by decide)) rfl rfl rfl d_MO_expand_16 (fun H locs w => ?_)
  obtain ⟨t5, e_t5, hf⟩ := mz_lt hf
  rw [← e_t5] at w
  refine lv_aload_n hx hb d_MO_expand_19 rfl (lv_at hl 0 rfl) ?_
  refine lv_iconst (v := (0 : Int32)) hx hb d_MO_expand_20 (by decide) ?_
  refine mz_put E w 0 8 (v := (0 : Int32)) (by decide) rfl rfl ii_11 tk_11 nm_11 (by decide) (Nat.le_of_ble_eq_true rfl) k_1191 rfl (tk_11 8 (by decide)) rfl rfl rfl d_MO_expand_21 (fun H locs w => ?_)
  obtain ⟨t6, e_t6, hf⟩ := mz_lt hf
  rw [← e_t6] at w
  refine lv_aload_n hx hb d_MO_expand_24 rfl (lv_at hl 0 rfl) ?_
  refine lv_iconst (v := (0 : Int32)) hx hb d_MO_expand_25 (by decide) ?_
  refine mz_put E w 0 9 (v := (0 : Int32)) (by decide) rfl rfl ii_11 tk_11 nm_11 (by decide) (Nat.le_of_ble_eq_true rfl) k_1192 rfl (tk_11 9 (by decide)) rfl rfl rfl d_MO_expand_26 (fun H locs w => ?_)
  obtain ⟨t7, e_t7, hf⟩ := mz_lt hf
  rw [← e_t7] at w
  refine lv_aload_n hx hb d_MO_expand_29 rfl (lv_at hl 0 rfl) ?_
  refine lv_iconst (v := (0 : Int32)) hx hb d_MO_expand_30 (by decide) ?_
  refine mz_put E w 0 10 (v := (0 : Int32)) (by decide) rfl rfl ii_11 tk_11 nm_11 (by decide) (Nat.le_of_ble_eq_true rfl) k_1193 rfl (tk_11 10 (by decide)) rfl rfl rfl d_MO_expand_31 (fun H locs w => ?_)
  obtain ⟨t8, e_t8, hf⟩ := mz_lt hf
  rw [← e_t8] at w
  refine lv_aload_n hx hb d_MO_expand_34 rfl (lv_at hl 0 rfl) ?_
  refine lv_iconst (v := (0 : Int32)) hx hb d_MO_expand_35 (by decide) ?_
  refine mz_put E w 0 12 (v := (0 : Int32)) (by decide) rfl rfl ii_11 tk_11 nm_11 (by decide) (Nat.le_of_ble_eq_true rfl) k_1195 rfl (tk_11 12 (by decide)) rfl rfl rfl d_MO_expand_36 (fun H locs w => ?_)
  obtain ⟨t9, e_t9, hf⟩ := mz_lt hf
  rw [← e_t9] at w
  refine lv_aload_n hx hb d_MO_expand_39 rfl (lv_at hl 0 rfl) ?_
  refine lv_iconst (v := (0 : Int32)) hx hb d_MO_expand_40 (by decide) ?_
  refine mz_put E w 0 24 (v := (0 : Int32)) (by decide) rfl rfl ii_11 tk_11 nm_11 (by decide) (Nat.le_of_ble_eq_true rfl) k_1207 rfl (tk_11 24 (by decide)) rfl rfl rfl d_MO_expand_41 (fun H locs w => ?_)
  obtain ⟨t10, e_t10, hf⟩ := mz_lt hf
  rw [← e_t10] at w
  refine lv_aload_n hx hb d_MO_expand_44 rfl (lv_at hl 0 rfl) ?_
  refine lv_iconst (v := (0 : Int32)) hx hb d_MO_expand_45 (by decide) ?_
  refine mz_put E w 0 28 (v := (0 : Int32)) (by decide) rfl rfl ii_11 tk_11 nm_11 (by decide) (Nat.le_of_ble_eq_true rfl) k_1211 rfl (tk_11 28 (by decide)) rfl rfl rfl d_MO_expand_46 (fun H locs w => ?_)
  obtain ⟨t11, e_t11, hf⟩ := mz_lt hf
  rw [← e_t11] at w
  refine lv_aload_n hx hb d_MO_expand_49 rfl (lv_at hl 0 rfl) ?_
  refine lv_iconst (v := (0 : Int32)) hx hb d_MO_expand_50 (by decide) ?_
  refine mz_put E w 0 29 (v := (0 : Int32)) (by decide) rfl rfl ii_11 tk_11 nm_11 (by decide) (Nat.le_of_ble_eq_true rfl) k_1212 rfl (tk_11 29 (by decide)) rfl rfl rfl d_MO_expand_51 (fun H locs w => ?_)
  obtain ⟨t12, e_t12, hf⟩ := mz_lt hf
  rw [← e_t12] at w
  refine lv_aload_n hx hb d_MO_expand_54 rfl (lv_at hl 0 rfl) ?_
  refine lv_iconst (v := (0 : Int32)) hx hb d_MO_expand_55 (by decide) ?_
  refine mz_put E w 0 53 (v := (0 : Int32)) (by decide) rfl rfl ii_11 tk_11 nm_11 (by decide) (Nat.le_of_ble_eq_true rfl) k_1236 rfl (tk_11 53 (by decide)) rfl rfl rfl d_MO_expand_56 (fun H locs w => ?_)
  obtain ⟨t13, e_t13, hf⟩ := mz_lt hf
  rw [← e_t13] at w
  refine lv_aload_n hx hb d_MO_expand_59 rfl (lv_at hl 0 rfl) ?_
  refine lv_iconst (v := (0 : Int32)) hx hb d_MO_expand_60 (by decide) ?_
  refine mz_put E w 0 34 (v := (0 : Int32)) (by decide) rfl rfl ii_11 tk_11 nm_11 (by decide) (Nat.le_of_ble_eq_true rfl) k_1217 rfl (tk_11 34 (by decide)) rfl rfl rfl d_MO_expand_61 (fun H locs w => ?_)
  obtain ⟨t14, e_t14, hf⟩ := mz_lt hf
  rw [← e_t14] at w
  refine lv_aload_n hx hb d_MO_expand_64 rfl (lv_at hl 0 rfl) ?_
  refine lv_iconst (v := (0 : Int32)) hx hb d_MO_expand_65 (by decide) ?_
  refine mz_put E w 0 48 (v := (0 : Int32)) (by decide) rfl rfl ii_11 tk_11 nm_11 (by decide) (Nat.le_of_ble_eq_true rfl) k_1231 rfl (tk_11 48 (by decide)) rfl rfl rfl d_MO_expand_66 (fun H locs w => ?_)
  obtain ⟨t15, e_t15, hf⟩ := mz_lt hf
  rw [← e_t15] at w
  refine lv_aload_n hx hb d_MO_expand_69 rfl (lv_at hl 0 rfl) ?_
  refine lv_iconst (v := (0 : Int32)) hx hb d_MO_expand_70 (by decide) ?_
  refine mz_put E w 0 51 (v := (0 : Int32)) (by decide) rfl rfl ii_11 tk_11 nm_11 (by decide) (Nat.le_of_ble_eq_true rfl) k_1234 rfl (tk_11 51 (by decide)) rfl rfl rfl d_MO_expand_71 (fun H locs w => ?_)
  obtain ⟨t16, e_t16, hf⟩ := mz_lt hf
  rw [← e_t16] at w
  refine lv_aload_n hx hb d_MO_expand_74 rfl (lv_at hl 0 rfl) ?_
  refine lv_iconst (v := (0 : Int32)) hx hb d_MO_expand_75 (by decide) ?_
  refine mz_put E w 0 63 (v := (0 : Int32)) (by decide) rfl rfl ii_11 tk_11 nm_11 (by decide) (Nat.le_of_ble_eq_true rfl) k_1246 rfl (tk_11 63 (by decide)) rfl rfl rfl d_MO_expand_76 (fun H locs w => ?_)
  obtain ⟨t17, e_t17, hf⟩ := mz_lt hf
  rw [← e_t17] at w
  refine lv_aload_n hx hb d_MO_expand_79 rfl (lv_at hl 0 rfl) ?_
  refine lv_iconst (v := (0 : Int32)) hx hb d_MO_expand_80 (by decide) ?_
  refine lv_iconst (v := (0 : Int32)) hx hb d_MO_expand_81 (by decide) ?_
  refine lv_aload_n hx hb d_MO_expand_82 rfl (lv_at hl 0 rfl) ?_
  refine mz_get E w 0 3 (v := .int (mz_gI t17 0 3)) (by decide) rfl rfl ii_11 (by decide) (Nat.le_of_ble_eq_true rfl) k_1186 rfl d_MO_expand_83 ?_
  refine lv_iconst (v := (1 : Int32)) hx hb d_MO_expand_86 (by decide) ?_
  refine lv_iconst (v := (0 : Int32)) hx hb d_MO_expand_87 (by decide) ?_
  refine lv_iconst (v := (0 : Int32)) hx hb d_MO_expand_88 (by decide) ?_
  obtain ⟨q18, hq19, hf⟩ := mz_bd hf
  refine mz_callV E w (k := 0) (As := [.int (0 : Int32), .int (0 : Int32), .int (mz_gI t17 0 3), .int (1 : Int32), .int (0 : Int32), .int (0 : Int32)]) (rest := []) (c_MO_beginFrame hSK l n (0 : Int32) (0 : Int32) (mz_gI t17 0 3) (1 : Int32) (0 : Int32) (0 : Int32) t17 q18 hq19) (by decide) rfl rfl k_1455 k_15 k_1452 k_1454 ks_50 hm_MO_beginFrame ⟨⟨rfl, rfl⟩, Nat.le_of_ble_eq_true rfl, Nat.le_of_ble_eq_true rfl⟩ rfl hl.1 rfl (Nat.le_of_ble_eq_true rfl) d_MO_expand_89 ⟨Nat.zero_le _, Nat.zero_le _⟩ (st1 := []) rfl (fun H locs w => ?_)
  exact b_MO_expand_92 E n n  q18 hf _ _ _ w (lv_sub hl [0] rfl)

/-! MacroHouseModel.about(I)I -/
abbrev r_MO_about : Room := { frames := 1, cells := 0, slots := 0, locals := 22 }
def f_MO_about_16 (n : Nat) (x1 : Int32) (s1 : Int32) (t : mz_St) : Option (Int32 × mz_St) := (f_MO_refuse n s1 (0 : Int32) t).bind fun q4 => if q4.1 = 0 then (if x1 = (0 : Int32) then (some ((mz_gI q4.2 0 6), q4.2)) else (if x1 = (1 : Int32) then (some ((mz_gI q4.2 0 7), q4.2)) else (if x1 = (2 : Int32) then (some ((mz_gI q4.2 0 8), q4.2)) else (if x1 = (3 : Int32) then (some ((mz_gI q4.2 0 9), q4.2)) else (if x1 = (4 : Int32) then (some ((mz_gI q4.2 0 12), q4.2)) else (if x1 = (5 : Int32) then (some ((mz_gI q4.2 0 24), q4.2)) else (if x1 = (6 : Int32) then (some ((mz_gI q4.2 0 28), q4.2)) else (if x1 = (7 : Int32) then (some ((mz_gI q4.2 0 29), q4.2)) else (some ((mz_gI q4.2 0 10), q4.2)))))))))) else (some ((0 : Int32), q4.2))
def f_MO_about (n : Nat) (x1 : Int32) (t : mz_St) : Option (Int32 × mz_St) := (f_MO_in n x1 (0 : Int32) (8 : Int32) t).bind fun q1 => if q1.1 = 0 then (f_MO_about_16 n x1 (1 : Int32) q1.2) else (f_MO_about_16 n x1 (0 : Int32) q1.2)
set_option maxRecDepth 100000 in
set_option maxHeartbeats 4000000 in
theorem b_MO_about_16 {SX : State → Heap → Prop} {dC : Nat → ClassId} {dI : Nat → Nat → Nat} {ad en : Nat → Nat} {ca : Nat → ClassId} {p : Program} {l : Launch} {e : Env} {s : State} {m : MethodId} {args : Array Value} {below : List Frame} {meth : Method} {c : Code} {res : (Int32 × mz_St)} (E : mz_En SX 55 mz_cl dC dI ad ca p s m meth c prog_15_method_63_code 2 "MacroHouseModel" (some (.int))) (n : Nat) : ∀ (x1 : Int32) (s1 : Int32) (t : mz_St), f_MO_about_16 n x1 s1 t = some res → ∀ (H : Heap) (locs : List Loc) (ls : Array Slot), mz_Wd mz_tM 55 mz_cl dC dI ad en ca s t H locs → lv_has ls 2 [(0, .ref (ad 0)), (1, .int x1)] → W p l e (r_MO_about) s m args below meth c H locs 0 0 (MQ below (mz_Q SX mz_tM 55 mz_cl dC dI ad en ca (some (.int res.1)) res.2) args s 0 0 (mz_A ad 55)) (F0 m 16 ls [.int s1, .ref (ad 0)]) := by
  obtain ⟨hx, hb, hml, hown, hcx, -, -, hSX, -, -, hSK⟩ := id E
  intro x1 s1 t hf H locs ls w hl
  unfold f_MO_about_16 at hf
  refine lv_iconst (v := (0 : Int32)) hx hb d_MO_about_16 (by decide) ?_
  obtain ⟨q4, hq5, hf⟩ := mz_bd hf
  refine mz_callV E w (k := 0) (As := [.int s1, .int (0 : Int32)]) (rest := []) (c_MO_refuse hSK l n s1 (0 : Int32) t q4 hq5) (by decide) rfl rfl k_1439 k_15 k_1436 k_1438 ks_48 hm_MO_refuse ⟨⟨rfl, rfl⟩, Nat.le_of_ble_eq_true rfl, Nat.le_of_ble_eq_true rfl⟩ rfl hl.1 rfl (Nat.le_of_ble_eq_true rfl) d_MO_about_17 ⟨Nat.zero_le _, Nat.zero_le _⟩ (st1 := [.int q4.1]) rfl (fun H locs w => ?_)
  refine lv_if_eq (tgt := 25) hx hb d_MO_about_20 (by decide) (fun hc6 => ?_) (fun hc6 => ?_)
  · have hf := mz_t hc6 hf
    refine lv_iload_n hx hb d_MO_about_25 rfl (lv_at hl 1 rfl) ?_
    by_cases hc7 : x1 = (0 : Int32)
    · have hf := mz_t hc7 hf
      refine lv_tableIn (off := 46) (tgt := 72) hx hb d_MO_about_26 (by rw [hc7]; decide) (by rw [hc7]; decide) (by rw [hc7]; rfl) (by decide) ?_
      refine lv_aload_n hx hb d_MO_about_72 rfl (lv_at hl 0 rfl) ?_
      refine mz_get E w 0 6 (v := .int (mz_gI q4.2 0 6)) (by decide) rfl rfl ii_11 (by decide) (Nat.le_of_ble_eq_true rfl) k_1189 rfl d_MO_about_73 ?_
      obtain rfl := Option.some.inj hf
      exact mz_iret E w rfl d_MO_about_76
    · have hf := mz_f hc7 hf
      by_cases hc8 : x1 = (1 : Int32)
      · have hf := mz_t hc8 hf
        refine lv_tableIn (off := 51) (tgt := 77) hx hb d_MO_about_26 (by rw [hc8]; decide) (by rw [hc8]; decide) (by rw [hc8]; rfl) (by decide) ?_
        refine lv_aload_n hx hb d_MO_about_77 rfl (lv_at hl 0 rfl) ?_
        refine mz_get E w 0 7 (v := .int (mz_gI q4.2 0 7)) (by decide) rfl rfl ii_11 (by decide) (Nat.le_of_ble_eq_true rfl) k_1190 rfl d_MO_about_78 ?_
        obtain rfl := Option.some.inj hf
        exact mz_iret E w rfl d_MO_about_81
      · have hf := mz_f hc8 hf
        by_cases hc9 : x1 = (2 : Int32)
        · have hf := mz_t hc9 hf
          refine lv_tableIn (off := 56) (tgt := 82) hx hb d_MO_about_26 (by rw [hc9]; decide) (by rw [hc9]; decide) (by rw [hc9]; rfl) (by decide) ?_
          refine lv_aload_n hx hb d_MO_about_82 rfl (lv_at hl 0 rfl) ?_
          refine mz_get E w 0 8 (v := .int (mz_gI q4.2 0 8)) (by decide) rfl rfl ii_11 (by decide) (Nat.le_of_ble_eq_true rfl) k_1191 rfl d_MO_about_83 ?_
          obtain rfl := Option.some.inj hf
          exact mz_iret E w rfl d_MO_about_86
        · have hf := mz_f hc9 hf
          by_cases hc10 : x1 = (3 : Int32)
          · have hf := mz_t hc10 hf
            refine lv_tableIn (off := 61) (tgt := 87) hx hb d_MO_about_26 (by rw [hc10]; decide) (by rw [hc10]; decide) (by rw [hc10]; rfl) (by decide) ?_
            refine lv_aload_n hx hb d_MO_about_87 rfl (lv_at hl 0 rfl) ?_
            refine mz_get E w 0 9 (v := .int (mz_gI q4.2 0 9)) (by decide) rfl rfl ii_11 (by decide) (Nat.le_of_ble_eq_true rfl) k_1192 rfl d_MO_about_88 ?_
            obtain rfl := Option.some.inj hf
            exact mz_iret E w rfl d_MO_about_91
          · have hf := mz_f hc10 hf
            by_cases hc11 : x1 = (4 : Int32)
            · have hf := mz_t hc11 hf
              refine lv_tableIn (off := 66) (tgt := 92) hx hb d_MO_about_26 (by rw [hc11]; decide) (by rw [hc11]; decide) (by rw [hc11]; rfl) (by decide) ?_
              refine lv_aload_n hx hb d_MO_about_92 rfl (lv_at hl 0 rfl) ?_
              refine mz_get E w 0 12 (v := .int (mz_gI q4.2 0 12)) (by decide) rfl rfl ii_11 (by decide) (Nat.le_of_ble_eq_true rfl) k_1195 rfl d_MO_about_93 ?_
              obtain rfl := Option.some.inj hf
              exact mz_iret E w rfl d_MO_about_96
            · have hf := mz_f hc11 hf
              by_cases hc12 : x1 = (5 : Int32)
              · have hf := mz_t hc12 hf
                refine lv_tableIn (off := 71) (tgt := 97) hx hb d_MO_about_26 (by rw [hc12]; decide) (by rw [hc12]; decide) (by rw [hc12]; rfl) (by decide) ?_
                refine lv_aload_n hx hb d_MO_about_97 rfl (lv_at hl 0 rfl) ?_
                refine mz_get E w 0 24 (v := .int (mz_gI q4.2 0 24)) (by decide) rfl rfl ii_11 (by decide) (Nat.le_of_ble_eq_true rfl) k_1207 rfl d_MO_about_98 ?_
                obtain rfl := Option.some.inj hf
                exact mz_iret E w rfl d_MO_about_101
              · have hf := mz_f hc12 hf
                by_cases hc13 : x1 = (6 : Int32)
                · have hf := mz_t hc13 hf
                  refine lv_tableIn (off := 76) (tgt := 102) hx hb d_MO_about_26 (by rw [hc13]; decide) (by rw [hc13]; decide) (by rw [hc13]; rfl) (by decide) ?_
                  refine lv_aload_n hx hb d_MO_about_102 rfl (lv_at hl 0 rfl) ?_
                  refine mz_get E w 0 28 (v := .int (mz_gI q4.2 0 28)) (by decide) rfl rfl ii_11 (by decide) (Nat.le_of_ble_eq_true rfl) k_1211 rfl d_MO_about_103 ?_
                  obtain rfl := Option.some.inj hf
                  exact mz_iret E w rfl d_MO_about_106
                · have hf := mz_f hc13 hf
                  by_cases hc14 : x1 = (7 : Int32)
                  · have hf := mz_t hc14 hf
                    refine lv_tableIn (off := 81) (tgt := 107) hx hb d_MO_about_26 (by rw [hc14]; decide) (by rw [hc14]; decide) (by rw [hc14]; rfl) (by decide) ?_
                    refine lv_aload_n hx hb d_MO_about_107 rfl (lv_at hl 0 rfl) ?_
                    refine mz_get E w 0 29 (v := .int (mz_gI q4.2 0 29)) (by decide) rfl rfl ii_11 (by decide) (Nat.le_of_ble_eq_true rfl) k_1212 rfl d_MO_about_108 ?_
                    obtain rfl := Option.some.inj hf
                    exact mz_iret E w rfl d_MO_about_111
                  · have hf := mz_f hc14 hf
                    refine lv_tableOut (tgt := 112) hx hb d_MO_about_26 (by have := lv_neT (a := 0) hc7 rfl; have := lv_neT (a := 1) hc8 rfl; have := lv_neT (a := 2) hc9 rfl; have := lv_neT (a := 3) hc10 rfl; have := lv_neT (a := 4) hc11 rfl; have := lv_neT (a := 5) hc12 rfl; have := lv_neT (a := 6) hc13 rfl; have := lv_neT (a := 7) hc14 rfl; omega) (by decide) ?_
                    refine lv_aload_n hx hb d_MO_about_112 rfl (lv_at hl 0 rfl) ?_
                    refine mz_get E w 0 10 (v := .int (mz_gI q4.2 0 10)) (by decide) rfl rfl ii_11 (by decide) (Nat.le_of_ble_eq_true rfl) k_1193 rfl d_MO_about_113 ?_
                    obtain rfl := Option.some.inj hf
                    exact mz_iret E w rfl d_MO_about_116
  · have hf := mz_f hc6 hf
    refine lv_iconst (v := (0 : Int32)) hx hb d_MO_about_23 (by decide) ?_
    obtain rfl := Option.some.inj hf
    exact mz_iret E w rfl d_MO_about_24
set_option maxRecDepth 100000 in
set_option maxHeartbeats 4000000 in
theorem c_MO_about {SX : State → Heap → Prop} {dC : Nat → ClassId} {dI : Nat → Nat → Nat} {ad en : Nat → Nat} {ca : Nat → ClassId} (hSK : mz_SK SX ad 55) (l : Launch) (n : Nat) (x1 : Int32) (t : mz_St) (res : (Int32 × mz_St)) (hf : f_MO_about n x1 t = some res) : mz_C SX mz_tM 55 mz_cl dC dI ad en ca l y_MO_about prog_15_method_63_code 2 (some (.int)) (r_MO_about) [.ref (ad 0), .int x1] t (some (.int res.1)) res.2 := by
  unfold f_MO_about at hf
  refine mz_met hSK (by decide) (Nat.le_of_ble_eq_true rfl) ?_
  intro p e s m args below meth c ls E w hl
  obtain ⟨hx, hb, hml, hown, hcx, -, -, hSX, -, -, -⟩ := id E
  have hl : lv_has ls 2 [(0, .ref (ad 0)), (1, .int x1)] := hl
  refine lv_aload_n hx hb d_MO_about_0 rfl (lv_at hl 0 rfl) ?_
  refine lv_iload_n hx hb d_MO_about_1 rfl (lv_at hl 1 rfl) ?_
  refine lv_iconst (v := (0 : Int32)) hx hb d_MO_about_2 (by decide) ?_
  refine lv_bipush (v := (8 : Int32)) hx hb d_MO_about_3 (by decide) ?_
  obtain ⟨q1, hq2, hf⟩ := mz_bd hf
  refine mz_callS E w (As := [.int x1, .int (0 : Int32), .int (8 : Int32)]) (rest := [.ref (ad 0)]) (c_MO_in hSK l n x1 (0 : Int32) (8 : Int32) t q1 hq2) k_1435 k_15 k_1433 k_1434 hm_MO_in ⟨⟨rfl, rfl⟩, Nat.le_of_ble_eq_true rfl, Nat.le_of_ble_eq_true rfl⟩ rfl hl.1 rfl (Nat.le_of_ble_eq_true rfl) d_MO_about_5 ⟨Nat.zero_le _, Nat.zero_le _⟩ (st1 := [.int q1.1, .ref (ad 0)]) rfl (fun H locs w => ?_)
  refine lv_if_ne (tgt := 15) hx hb d_MO_about_8 (by decide) (fun hc3 => ?_) (fun hc3 => ?_)
  · have hf := mz_f hc3 hf
    refine lv_iconst (v := (0 : Int32)) hx hb d_MO_about_15 (by decide) ?_
    exact b_MO_about_16 E n x1 (0 : Int32) q1.2 hf _ _ _ w (lv_sub hl [0, 1] rfl)
  · have hf := mz_t hc3 hf
    refine lv_iconst (v := (1 : Int32)) hx hb d_MO_about_11 (by decide) ?_
    refine lv_goto (tgt := 16) hx hb d_MO_about_12 (by decide) ?_
    exact b_MO_about_16 E n x1 (1 : Int32) q1.2 hf _ _ _ w (lv_sub hl [0, 1] rfl)
