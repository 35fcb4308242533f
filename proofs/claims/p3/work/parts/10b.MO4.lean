/-! MacroHouseModel.ifSame()V -/
abbrev r_MO_ifSame : Room := { frames := 2, cells := 0, slots := 0, locals := 44 }
def f_MO_ifSame_183 (n : Nat) (x2 : Int32) (x3 : Int32) (x5 : Int32) (t : mz_St) : Option mz_St := mz_let (mz_pI t 0 48 x2) fun t13 => mz_let (mz_pI t13 0 51 x3) fun t14 => (f_MO_openIf n x5 (0 : Int32) t14).bind fun q15 => some q15
def f_MO_ifSame_175 (n : Nat) (K125 : Int32 → Int32 → Int32 → Int32 → Int32 → mz_St → Option mz_St) (x2 : Int32) (x3 : Int32) (x4 : Int32) (x6 : Int32) (s0 : Int32) (t : mz_St) : Option mz_St := K125 x2 x3 x4 s0 (x6 + (1 : Int32)) t
def f_MO_ifSame_125 (n : Nat) : Nat → Int32 → Int32 → Int32 → Int32 → Int32 → mz_St → Option mz_St
  | 0, _, _, _, _, _, _ => none
  | k + 1, x2, x3, x4, x5, x6, t => if x4 ≤ x6 then (f_MO_ifSame_183 n x2 x3 x5 t) else (if x5 = 0 then (f_MO_ifSame_183 n x2 x3 x5 t) else (if ¬ (x2 < 0 ∨ 24000 ≤ x2.toNatClampNeg) then (if ¬ (((mz_gI t 35 x2.toNatClampNeg) + x6) < 0 ∨ 48000 ≤ ((mz_gI t 35 x2.toNatClampNeg) + x6).toNatClampNeg) then (if ¬ ((x2 + (1 : Int32)) < 0 ∨ 24000 ≤ (x2 + (1 : Int32)).toNatClampNeg) then (if ¬ (((mz_gI t 35 (x2 + (1 : Int32)).toNatClampNeg) + x6) < 0 ∨ 48000 ≤ ((mz_gI t 35 (x2 + (1 : Int32)).toNatClampNeg) + x6).toNatClampNeg) then (if (mz_gI t 37 ((mz_gI t 35 x2.toNatClampNeg) + x6).toNatClampNeg) = (mz_gI t 37 ((mz_gI t 35 (x2 + (1 : Int32)).toNatClampNeg) + x6).toNatClampNeg) then (f_MO_ifSame_175 n (f_MO_ifSame_125 n k) x2 x3 x4 x6 (1 : Int32) t) else (f_MO_ifSame_175 n (f_MO_ifSame_125 n k) x2 x3 x4 x6 (0 : Int32) t)) else none) else none) else none) else none))
def f_MO_ifSame_120 (n : Nat) (x2 : Int32) (x3 : Int32) (x4 : Int32) (s0 : Int32) (t : mz_St) : Option mz_St := f_MO_ifSame_125 n n x2 x3 x4 s0 (0 : Int32) t
def f_MO_ifSame_30 (n : Nat) (x1 : Int32) (t : mz_St) : Option mz_St := if x1 = (mz_gI t 0 60) then ((f_MO_fail n (1 : Int32) (mz_gI t 0 63) t).bind fun q23 => some q23) else ((f_MO_hold n (mz_gI t 0 61) x1 t).bind fun q3 => (f_MO_hold n (x1 + (1 : Int32)) (mz_gI q3 0 60) q3).bind fun q5 => if ¬ ((mz_gI t 0 48) < 0 ∨ 24000 ≤ (mz_gI t 0 48).toNatClampNeg) then (if ¬ ((mz_gI t 0 48) < 0 ∨ 24000 ≤ (mz_gI t 0 48).toNatClampNeg) then (if ¬ (((mz_gI t 0 48) + (1 : Int32)) < 0 ∨ 24000 ≤ ((mz_gI t 0 48) + (1 : Int32)).toNatClampNeg) then (if ¬ (((mz_gI t 0 48) + (1 : Int32)) < 0 ∨ 24000 ≤ ((mz_gI t 0 48) + (1 : Int32)).toNatClampNeg) then (if ((mz_gI q5 36 (mz_gI t 0 48).toNatClampNeg) - (mz_gI q5 35 (mz_gI t 0 48).toNatClampNeg)) = ((mz_gI q5 36 ((mz_gI t 0 48) + (1 : Int32)).toNatClampNeg) - (mz_gI q5 35 ((mz_gI t 0 48) + (1 : Int32)).toNatClampNeg)) then (f_MO_ifSame_120 n (mz_gI t 0 48) (mz_gI t 0 51) ((mz_gI q5 36 (mz_gI t 0 48).toNatClampNeg) - (mz_gI q5 35 (mz_gI t 0 48).toNatClampNeg)) (1 : Int32) q5) else (f_MO_ifSame_120 n (mz_gI t 0 48) (mz_gI t 0 51) ((mz_gI q5 36 (mz_gI t 0 48).toNatClampNeg) - (mz_gI q5 35 (mz_gI t 0 48).toNatClampNeg)) (0 : Int32) q5)) else none) else none) else none) else none)
def f_MO_ifSame_5 (n : Nat) : Nat → Int32 → mz_St → Option mz_St
  | 0, _, _ => none
  | k + 1, x1, t => if (mz_gI t 0 60) ≤ x1 then (f_MO_ifSame_30 n x1 t) else (if ¬ (x1 < 0 ∨ 6000 ≤ x1.toNatClampNeg) then (if (mz_gI t 43 x1.toNatClampNeg) = (44 : Int32) then (f_MO_ifSame_30 n x1 t) else ((f_MO_ifSame_5 n k) (x1 + (1 : Int32)) t)) else none)
def f_MO_ifSame (n : Nat) (t : mz_St) : Option mz_St := f_MO_ifSame_5 n n (mz_gI t 0 61) t
set_option maxRecDepth 100000 in
set_option maxHeartbeats 4000000 in
theorem b_MO_ifSame_183 {SX : State → Heap → Prop} {dC : Nat → ClassId} {dI : Nat → Nat → Nat} {ad en : Nat → Nat} {ca : Nat → ClassId} {p : Program} {l : Launch} {e : Env} {s : State} {m : MethodId} {args : Array Value} {below : List Frame} {meth : Method} {c : Code} {res : mz_St} (E : mz_En SX 55 mz_cl dC dI ad ca p s m meth c prog_15_method_52_code 7 "MacroHouseModel" none) (n : Nat) : ∀ (x2 : Int32) (x3 : Int32) (x5 : Int32) (t : mz_St), f_MO_ifSame_183 n x2 x3 x5 t = some res → ∀ (H : Heap) (locs : List Loc) (ls : Array Slot), mz_Wd mz_tM 55 mz_cl dC dI ad en ca s t H locs → lv_has ls 7 [(0, .ref (ad 0)), (2, .int x2), (3, .int x3), (5, .int x5)] → W p l e (r_MO_ifSame) s m args below meth c H locs 0 0 (MQ below (mz_Q SX mz_tM 55 mz_cl dC dI ad en ca none res) args s 0 0 (mz_A ad 55)) (F0 m 183 ls []) := by
  obtain ⟨hx, hb, hml, hown, hcx, -, -, hSX, -, -, hSK⟩ := id E
  intro x2 x3 x5 t hf H locs ls w hl
  unfold f_MO_ifSame_183 at hf
  refine lv_aload_n hx hb d_MO_ifSame_183 rfl (lv_at hl 0 rfl) ?_
  refine lv_iload_n hx hb d_MO_ifSame_184 rfl (lv_at hl 1 rfl) ?_
  refine mz_put E w 0 48 (v := x2) (by decide) rfl rfl ii_11 tk_11 nm_11 (by decide) (Nat.le_of_ble_eq_true rfl) k_1231 rfl (tk_11 48 (by decide)) rfl rfl rfl d_MO_ifSame_185 (fun H locs w => ?_)
  obtain ⟨t13, e_t13, hf⟩ := mz_lt hf
  rw [← e_t13] at w
  refine lv_aload_n hx hb d_MO_ifSame_188 rfl (lv_at hl 0 rfl) ?_
  refine lv_iload_n hx hb d_MO_ifSame_189 rfl (lv_at hl 2 rfl) ?_
  refine mz_put E w 0 51 (v := x3) (by decide) rfl rfl ii_11 tk_11 nm_11 (by decide) (Nat.le_of_ble_eq_true rfl) k_1234 rfl (tk_11 51 (by decide)) rfl rfl rfl d_MO_ifSame_190 (fun H locs w => ?_)
  obtain ⟨t14, e_t14, hf⟩ := mz_lt hf
  rw [← e_t14] at w
  refine lv_aload_n hx hb d_MO_ifSame_193 rfl (lv_at hl 0 rfl) ?_
  refine lv_iload hx hb d_MO_ifSame_194 (lv_at hl 3 rfl) ?_
  refine lv_iconst (v := (0 : Int32)) hx hb d_MO_ifSame_196 (by decide) ?_
  obtain ⟨q15, hq16, hf⟩ := mz_bd hf
  refine mz_callV E w (k := 0) (As := [.int x5, .int (0 : Int32)]) (rest := []) (c_MO_openIf hSK l n x5 (0 : Int32) t14 q15 hq16) (by decide) rfl rfl k_1509 k_15 k_1506 k_1508 ks_57 hm_MO_openIf ⟨⟨rfl, rfl⟩, Nat.le_of_ble_eq_true rfl, Nat.le_of_ble_eq_true rfl⟩ rfl hl.1 rfl (Nat.le_of_ble_eq_true rfl) d_MO_ifSame_197 ⟨Nat.zero_le _, Nat.zero_le _⟩ (st1 := []) rfl (fun H locs w => ?_)
  obtain rfl := Option.some.inj hf
  exact mz_vret E w rfl d_MO_ifSame_200
set_option maxRecDepth 100000 in
set_option maxHeartbeats 4000000 in
theorem b_MO_ifSame_175 {SX : State → Heap → Prop} {dC : Nat → ClassId} {dI : Nat → Nat → Nat} {ad en : Nat → Nat} {ca : Nat → ClassId} {p : Program} {l : Launch} {e : Env} {s : State} {m : MethodId} {args : Array Value} {below : List Frame} {meth : Method} {c : Code} {res : mz_St} (E : mz_En SX 55 mz_cl dC dI ad ca p s m meth c prog_15_method_52_code 7 "MacroHouseModel" none) (n : Nat) (K125 : Int32 → Int32 → Int32 → Int32 → Int32 → mz_St → Option mz_St) (hK125 : ∀ (x2 : Int32) (x3 : Int32) (x4 : Int32) (x5 : Int32) (x6 : Int32) (t : mz_St), K125 x2 x3 x4 x5 x6 t = some res → ∀ (H : Heap) (locs : List Loc) (ls : Array Slot), mz_Wd mz_tM 55 mz_cl dC dI ad en ca s t H locs → lv_has ls 7 [(0, .ref (ad 0)), (2, .int x2), (3, .int x3), (4, .int x4), (5, .int x5), (6, .int x6)] → W p l e (r_MO_ifSame) s m args below meth c H locs 0 0 (MQ below (mz_Q SX mz_tM 55 mz_cl dC dI ad en ca none res) args s 0 0 (mz_A ad 55)) (F0 m 125 ls [])) : ∀ (x2 : Int32) (x3 : Int32) (x4 : Int32) (x6 : Int32) (s0 : Int32) (t : mz_St), f_MO_ifSame_175 n K125 x2 x3 x4 x6 s0 t = some res → ∀ (H : Heap) (locs : List Loc) (ls : Array Slot), mz_Wd mz_tM 55 mz_cl dC dI ad en ca s t H locs → lv_has ls 7 [(0, .ref (ad 0)), (2, .int x2), (3, .int x3), (4, .int x4), (6, .int x6)] → W p l e (r_MO_ifSame) s m args below meth c H locs 0 0 (MQ below (mz_Q SX mz_tM 55 mz_cl dC dI ad en ca none res) args s 0 0 (mz_A ad 55)) (F0 m 175 ls [.int s0]) := by
  obtain ⟨hx, hb, hml, hown, hcx, -, -, hSX, -, -, hSK⟩ := id E
  intro x2 x3 x4 x6 s0 t hf H locs ls w hl
  unfold f_MO_ifSame_175 at hf
  refine lv_istore (lv' := [(5, .int s0), (0, .ref (ad 0)), (2, .int x2), (3, .int x3), (4, .int x4), (6, .int x6)]) hx hb d_MO_ifSame_175 hl (by decide) rfl (fun ls hl => ?_)
  refine lv_iinc (v := (x6 + (1 : Int32))) (lv' := [(6, .int (x6 + (1 : Int32))), (5, .int s0), (0, .ref (ad 0)), (2, .int x2), (3, .int x3), (4, .int x4)]) hx hb d_MO_ifSame_177 hl (k := 5) rfl rfl (by decide) rfl (fun ls hl => ?_)
  refine lv_goto (tgt := 125) hx hb d_MO_ifSame_180 (by decide) ?_
  exact hK125 x2 x3 x4 s0 (x6 + (1 : Int32)) t hf _ _ _ w (lv_sub hl [2, 3, 4, 5, 1, 0] rfl)
set_option maxRecDepth 100000 in
set_option maxHeartbeats 4000000 in
theorem b_MO_ifSame_125 {SX : State → Heap → Prop} {dC : Nat → ClassId} {dI : Nat → Nat → Nat} {ad en : Nat → Nat} {ca : Nat → ClassId} {p : Program} {l : Launch} {e : Env} {s : State} {m : MethodId} {args : Array Value} {below : List Frame} {meth : Method} {c : Code} {res : mz_St} (E : mz_En SX 55 mz_cl dC dI ad ca p s m meth c prog_15_method_52_code 7 "MacroHouseModel" none) (n : Nat) (k : Nat) : ∀ (x2 : Int32) (x3 : Int32) (x4 : Int32) (x5 : Int32) (x6 : Int32) (t : mz_St), f_MO_ifSame_125 n k x2 x3 x4 x5 x6 t = some res → ∀ (H : Heap) (locs : List Loc) (ls : Array Slot), mz_Wd mz_tM 55 mz_cl dC dI ad en ca s t H locs → lv_has ls 7 [(0, .ref (ad 0)), (2, .int x2), (3, .int x3), (4, .int x4), (5, .int x5), (6, .int x6)] → W p l e (r_MO_ifSame) s m args below meth c H locs 0 0 (MQ below (mz_Q SX mz_tM 55 mz_cl dC dI ad en ca none res) args s 0 0 (mz_A ad 55)) (F0 m 125 ls []) := by
  obtain ⟨hx, hb, hml, hown, hcx, -, -, hSX, -, -, hSK⟩ := id E
  induction k with
  | zero => intro x2 x3 x4 x5 x6 t hf; exact absurd hf (by unfold f_MO_ifSame_125; exact fun h => nomatch h)
  | succ k ih =>
    intro x2 x3 x4 x5 x6 t hf H locs ls w hl
    unfold f_MO_ifSame_125 at hf
    refine lv_iload hx hb d_MO_ifSame_125 (lv_at hl 5 rfl) ?_
    refine lv_iload hx hb d_MO_ifSame_127 (lv_at hl 3 rfl) ?_
    refine lv_icmp_ge (tgt := 183) hx hb d_MO_ifSame_129 (by decide) (fun hc12 => ?_) (fun hc12 => ?_)
    · have hf := mz_t hc12 hf
      exact b_MO_ifSame_183 E n x2 x3 x5 t hf _ _ _ w (lv_sub hl [0, 1, 2, 4] rfl)
    · have hf := mz_f hc12 hf
      refine lv_iload hx hb d_MO_ifSame_132 (lv_at hl 4 rfl) ?_
      refine lv_if_eq (tgt := 183) hx hb d_MO_ifSame_134 (by decide) (fun hc17 => ?_) (fun hc17 => ?_)
      · have hf := mz_t hc17 hf
        exact b_MO_ifSame_183 E n x2 x3 x5 t hf _ _ _ w (lv_sub hl [0, 1, 2, 4] rfl)
      · have hf := mz_f hc17 hf
        refine lv_aload_n hx hb d_MO_ifSame_137 rfl (lv_at hl 0 rfl) ?_
        refine mz_get E w 0 52 (v := .ref (ad 37)) (by decide) rfl rfl ii_11 (by decide) (Nat.le_of_ble_eq_true rfl) k_1235 rfl d_MO_ifSame_138 ?_
        refine lv_aload_n hx hb d_MO_ifSame_141 rfl (lv_at hl 0 rfl) ?_
        refine mz_get E w 0 49 (v := .ref (ad 35)) (by decide) rfl rfl ii_11 (by decide) (Nat.le_of_ble_eq_true rfl) k_1232 rfl d_MO_ifSame_142 ?_
        refine lv_iload_n hx hb d_MO_ifSame_145 rfl (lv_at hl 1 rfl) ?_
        obtain ⟨hi18, hf⟩ := mz_gd hf
        refine mz_iald E w 35 (by decide) rfl hi18 d_MO_ifSame_146 ?_
        refine lv_iload hx hb d_MO_ifSame_147 (lv_at hl 5 rfl) ?_
        refine lv_iadd hx hb d_MO_ifSame_149 ?_
        obtain ⟨hi19, hf⟩ := mz_gd hf
        refine mz_iald E w 37 (by decide) rfl hi19 d_MO_ifSame_150 ?_
        refine lv_aload_n hx hb d_MO_ifSame_151 rfl (lv_at hl 0 rfl) ?_
        refine mz_get E w 0 52 (v := .ref (ad 37)) (by decide) rfl rfl ii_11 (by decide) (Nat.le_of_ble_eq_true rfl) k_1235 rfl d_MO_ifSame_152 ?_
        refine lv_aload_n hx hb d_MO_ifSame_155 rfl (lv_at hl 0 rfl) ?_
        refine mz_get E w 0 49 (v := .ref (ad 35)) (by decide) rfl rfl ii_11 (by decide) (Nat.le_of_ble_eq_true rfl) k_1232 rfl d_MO_ifSame_156 ?_
        refine lv_iload_n hx hb d_MO_ifSame_159 rfl (lv_at hl 1 rfl) ?_
        refine lv_iconst (v := (1 : Int32)) hx hb d_MO_ifSame_160 (by decide) ?_
        refine lv_iadd hx hb d_MO_ifSame_161 ?_
        obtain ⟨hi20, hf⟩ := mz_gd hf
        refine mz_iald E w 35 (by decide) rfl hi20 d_MO_ifSame_162 ?_
        refine lv_iload hx hb d_MO_ifSame_163 (lv_at hl 5 rfl) ?_
        refine lv_iadd hx hb d_MO_ifSame_165 ?_
        obtain ⟨hi21, hf⟩ := mz_gd hf
        refine mz_iald E w 37 (by decide) rfl hi21 d_MO_ifSame_166 ?_
        refine lv_icmp_ne (tgt := 174) hx hb d_MO_ifSame_167 (by decide) (fun hc22 => ?_) (fun hc22 => ?_)
        · have hf := mz_f hc22 hf
          refine lv_iconst (v := (0 : Int32)) hx hb d_MO_ifSame_174 (by decide) ?_
          exact b_MO_ifSame_175 E n (f_MO_ifSame_125 n k) ih x2 x3 x4 x6 (0 : Int32) t hf _ _ _ w (lv_sub hl [0, 1, 2, 3, 5] rfl)
        · have hf := mz_t hc22 hf
          refine lv_iconst (v := (1 : Int32)) hx hb d_MO_ifSame_170 (by decide) ?_
          refine lv_goto (tgt := 175) hx hb d_MO_ifSame_171 (by decide) ?_
          exact b_MO_ifSame_175 E n (f_MO_ifSame_125 n k) ih x2 x3 x4 x6 (1 : Int32) t hf _ _ _ w (lv_sub hl [0, 1, 2, 3, 5] rfl)
set_option maxRecDepth 100000 in
set_option maxHeartbeats 4000000 in
theorem b_MO_ifSame_120 {SX : State → Heap → Prop} {dC : Nat → ClassId} {dI : Nat → Nat → Nat} {ad en : Nat → Nat} {ca : Nat → ClassId} {p : Program} {l : Launch} {e : Env} {s : State} {m : MethodId} {args : Array Value} {below : List Frame} {meth : Method} {c : Code} {res : mz_St} (E : mz_En SX 55 mz_cl dC dI ad ca p s m meth c prog_15_method_52_code 7 "MacroHouseModel" none) (n : Nat) : ∀ (x2 : Int32) (x3 : Int32) (x4 : Int32) (s0 : Int32) (t : mz_St), f_MO_ifSame_120 n x2 x3 x4 s0 t = some res → ∀ (H : Heap) (locs : List Loc) (ls : Array Slot), mz_Wd mz_tM 55 mz_cl dC dI ad en ca s t H locs → lv_has ls 7 [(0, .ref (ad 0)), (2, .int x2), (3, .int x3), (4, .int x4)] → W p l e (r_MO_ifSame) s m args below meth c H locs 0 0 (MQ below (mz_Q SX mz_tM 55 mz_cl dC dI ad en ca none res) args s 0 0 (mz_A ad 55)) (F0 m 120 ls [.int s0]) := by
  obtain ⟨hx, hb, hml, hown, hcx, -, -, hSX, -, -, hSK⟩ := id E
  intro x2 x3 x4 s0 t hf H locs ls w hl
  unfold f_MO_ifSame_120 at hf
  refine lv_istore (lv' := [(5, .int s0), (0, .ref (ad 0)), (2, .int x2), (3, .int x3), (4, .int x4)]) hx hb d_MO_ifSame_120 hl (by decide) rfl (fun ls hl => ?_)
  refine lv_iconst (v := (0 : Int32)) hx hb d_MO_ifSame_122 (by decide) ?_
  refine lv_istore (lv' := [(6, .int (0 : Int32)), (5, .int s0), (0, .ref (ad 0)), (2, .int x2), (3, .int x3), (4, .int x4)]) hx hb d_MO_ifSame_123 hl (by decide) rfl (fun ls hl => ?_)
  exact b_MO_ifSame_125 E n n x2 x3 x4 s0 (0 : Int32) t hf _ _ _ w (lv_sub hl [2, 3, 4, 5, 1, 0] rfl)
set_option maxRecDepth 100000 in
set_option maxHeartbeats 4000000 in
theorem b_MO_ifSame_30 {SX : State → Heap → Prop} {dC : Nat → ClassId} {dI : Nat → Nat → Nat} {ad en : Nat → Nat} {ca : Nat → ClassId} {p : Program} {l : Launch} {e : Env} {s : State} {m : MethodId} {args : Array Value} {below : List Frame} {meth : Method} {c : Code} {res : mz_St} (E : mz_En SX 55 mz_cl dC dI ad ca p s m meth c prog_15_method_52_code 7 "MacroHouseModel" none) (n : Nat) : ∀ (x1 : Int32) (t : mz_St), f_MO_ifSame_30 n x1 t = some res → ∀ (H : Heap) (locs : List Loc) (ls : Array Slot), mz_Wd mz_tM 55 mz_cl dC dI ad en ca s t H locs → lv_has ls 7 [(0, .ref (ad 0)), (1, .int x1)] → W p l e (r_MO_ifSame) s m args below meth c H locs 0 0 (MQ below (mz_Q SX mz_tM 55 mz_cl dC dI ad en ca none res) args s 0 0 (mz_A ad 55)) (F0 m 30 ls []) := by
  obtain ⟨hx, hb, hml, hown, hcx, -, -, hSX, -, -, hSK⟩ := id E
  intro x1 t hf H locs ls w hl
  unfold f_MO_ifSame_30 at hf
  refine lv_iload_n hx hb d_MO_ifSame_30 rfl (lv_at hl 1 rfl) ?_
  refine lv_aload_n hx hb d_MO_ifSame_31 rfl (lv_at hl 0 rfl) ?_
  refine mz_get E w 0 60 (v := .int (mz_gI t 0 60)) (by decide) rfl rfl ii_11 (by decide) (Nat.le_of_ble_eq_true rfl) k_1243 rfl d_MO_ifSame_32 ?_
  refine lv_icmp_ne (tgt := 48) hx hb d_MO_ifSame_35 (by decide) (fun hc2 => ?_) (fun hc2 => ?_)
  · have hf := mz_f hc2 hf
    refine lv_aload_n hx hb d_MO_ifSame_48 rfl (lv_at hl 0 rfl) ?_
    refine mz_get E w 0 48 (v := .int (mz_gI t 0 48)) (by decide) rfl rfl ii_11 (by decide) (Nat.le_of_ble_eq_true rfl) k_1231 rfl d_MO_ifSame_49 ?_
    refine lv_istore_n (lv' := [(2, .int (mz_gI t 0 48)), (0, .ref (ad 0)), (1, .int x1)]) hx hb d_MO_ifSame_52 rfl hl (by decide) rfl (fun ls hl => ?_)
    refine lv_aload_n hx hb d_MO_ifSame_53 rfl (lv_at hl 1 rfl) ?_
    refine mz_get E w 0 51 (v := .int (mz_gI t 0 51)) (by decide) rfl rfl ii_11 (by decide) (Nat.le_of_ble_eq_true rfl) k_1234 rfl d_MO_ifSame_54 ?_
    refine lv_istore_n (lv' := [(3, .int (mz_gI t 0 51)), (2, .int (mz_gI t 0 48)), (0, .ref (ad 0)), (1, .int x1)]) hx hb d_MO_ifSame_57 rfl hl (by decide) rfl (fun ls hl => ?_)
    refine lv_aload_n hx hb d_MO_ifSame_58 rfl (lv_at hl 2 rfl) ?_
    refine lv_aload_n hx hb d_MO_ifSame_59 rfl (lv_at hl 2 rfl) ?_
    refine mz_get E w 0 61 (v := .int (mz_gI t 0 61)) (by decide) rfl rfl ii_11 (by decide) (Nat.le_of_ble_eq_true rfl) k_1244 rfl d_MO_ifSame_60 ?_
    refine lv_iload_n hx hb d_MO_ifSame_63 rfl (lv_at hl 3 rfl) ?_
    obtain ⟨q3, hq4, hf⟩ := mz_bd hf
    refine mz_callV E w (k := 0) (As := [.int (mz_gI t 0 61), .int x1]) (rest := []) (c_MO_hold hSK l n (mz_gI t 0 61) x1 t q3 hq4) (by decide) rfl rfl k_1632 k_15 k_1629 k_1631 ks_87 hm_MO_hold ⟨⟨rfl, rfl⟩, Nat.le_of_ble_eq_true rfl, Nat.le_of_ble_eq_true rfl⟩ rfl hl.1 rfl (Nat.le_of_ble_eq_true rfl) d_MO_ifSame_64 ⟨Nat.zero_le _, Nat.zero_le _⟩ (st1 := []) rfl (fun H locs w => ?_)
    refine lv_aload_n hx hb d_MO_ifSame_67 rfl (lv_at hl 2 rfl) ?_
    refine lv_iload_n hx hb d_MO_ifSame_68 rfl (lv_at hl 3 rfl) ?_
    refine lv_iconst (v := (1 : Int32)) hx hb d_MO_ifSame_69 (by decide) ?_
    refine lv_iadd hx hb d_MO_ifSame_70 ?_
    refine lv_aload_n hx hb d_MO_ifSame_71 rfl (lv_at hl 2 rfl) ?_
    refine mz_get E w 0 60 (v := .int (mz_gI q3 0 60)) (by decide) rfl rfl ii_11 (by decide) (Nat.le_of_ble_eq_true rfl) k_1243 rfl d_MO_ifSame_72 ?_
    obtain ⟨q5, hq6, hf⟩ := mz_bd hf
    refine mz_callV E w (k := 0) (As := [.int (x1 + (1 : Int32)), .int (mz_gI q3 0 60)]) (rest := []) (c_MO_hold hSK l n (x1 + (1 : Int32)) (mz_gI q3 0 60) q3 q5 hq6) (by decide) rfl rfl k_1632 k_15 k_1629 k_1631 ks_87 hm_MO_hold ⟨⟨rfl, rfl⟩, Nat.le_of_ble_eq_true rfl, Nat.le_of_ble_eq_true rfl⟩ rfl hl.1 rfl (Nat.le_of_ble_eq_true rfl) d_MO_ifSame_75 ⟨Nat.zero_le _, Nat.zero_le _⟩ (st1 := []) rfl (fun H locs w => ?_)
    refine lv_aload_n hx hb d_MO_ifSame_78 rfl (lv_at hl 2 rfl) ?_
    refine mz_get E w 0 50 (v := .ref (ad 36)) (by decide) rfl rfl ii_11 (by decide) (Nat.le_of_ble_eq_true rfl) k_1233 rfl d_MO_ifSame_79 ?_
    refine lv_iload_n hx hb d_MO_ifSame_82 rfl (lv_at hl 1 rfl) ?_
    obtain ⟨hi7, hf⟩ := mz_gd hf
    refine mz_iald E w 36 (by decide) rfl hi7 d_MO_ifSame_83 ?_
    refine lv_aload_n hx hb d_MO_ifSame_84 rfl (lv_at hl 2 rfl) ?_
    refine mz_get E w 0 49 (v := .ref (ad 35)) (by decide) rfl rfl ii_11 (by decide) (Nat.le_of_ble_eq_true rfl) k_1232 rfl d_MO_ifSame_85 ?_
    refine lv_iload_n hx hb d_MO_ifSame_88 rfl (lv_at hl 1 rfl) ?_
    obtain ⟨hi8, hf⟩ := mz_gd hf
    refine mz_iald E w 35 (by decide) rfl hi8 d_MO_ifSame_89 ?_
    refine lv_isub hx hb d_MO_ifSame_90 ?_
    refine lv_istore (lv' := [(4, .int ((mz_gI q5 36 (mz_gI t 0 48).toNatClampNeg) - (mz_gI q5 35 (mz_gI t 0 48).toNatClampNeg))), (3, .int (mz_gI t 0 51)), (2, .int (mz_gI t 0 48)), (0, .ref (ad 0)), (1, .int x1)]) hx hb d_MO_ifSame_91 hl (by decide) rfl (fun ls hl => ?_)
    refine lv_iload hx hb d_MO_ifSame_93 (lv_at hl 0 rfl) ?_
    refine lv_aload_n hx hb d_MO_ifSame_95 rfl (lv_at hl 3 rfl) ?_
    refine mz_get E w 0 50 (v := .ref (ad 36)) (by decide) rfl rfl ii_11 (by decide) (Nat.le_of_ble_eq_true rfl) k_1233 rfl d_MO_ifSame_96 ?_
    refine lv_iload_n hx hb d_MO_ifSame_99 rfl (lv_at hl 2 rfl) ?_
    refine lv_iconst (v := (1 : Int32)) hx hb d_MO_ifSame_100 (by decide) ?_
    refine lv_iadd hx hb d_MO_ifSame_101 ?_
    obtain ⟨hi9, hf⟩ := mz_gd hf
    refine mz_iald E w 36 (by decide) rfl hi9 d_MO_ifSame_102 ?_
    refine lv_aload_n hx hb d_MO_ifSame_103 rfl (lv_at hl 3 rfl) ?_
    refine mz_get E w 0 49 (v := .ref (ad 35)) (by decide) rfl rfl ii_11 (by decide) (Nat.le_of_ble_eq_true rfl) k_1232 rfl d_MO_ifSame_104 ?_
    refine lv_iload_n hx hb d_MO_ifSame_107 rfl (lv_at hl 2 rfl) ?_
    refine lv_iconst (v := (1 : Int32)) hx hb d_MO_ifSame_108 (by decide) ?_
    refine lv_iadd hx hb d_MO_ifSame_109 ?_
    obtain ⟨hi10, hf⟩ := mz_gd hf
    refine mz_iald E w 35 (by decide) rfl hi10 d_MO_ifSame_110 ?_
    refine lv_isub hx hb d_MO_ifSame_111 ?_
    refine lv_icmp_ne (tgt := 119) hx hb d_MO_ifSame_112 (by decide) (fun hc11 => ?_) (fun hc11 => ?_)
    · have hf := mz_f hc11 hf
      refine lv_iconst (v := (0 : Int32)) hx hb d_MO_ifSame_119 (by decide) ?_
      exact b_MO_ifSame_120 E n (mz_gI t 0 48) (mz_gI t 0 51) ((mz_gI q5 36 (mz_gI t 0 48).toNatClampNeg) - (mz_gI q5 35 (mz_gI t 0 48).toNatClampNeg)) (0 : Int32) q5 hf _ _ _ w (lv_sub hl [3, 2, 1, 0] rfl)
    · have hf := mz_t hc11 hf
      refine lv_iconst (v := (1 : Int32)) hx hb d_MO_ifSame_115 (by decide) ?_
      refine lv_goto (tgt := 120) hx hb d_MO_ifSame_116 (by decide) ?_
      exact b_MO_ifSame_120 E n (mz_gI t 0 48) (mz_gI t 0 51) ((mz_gI q5 36 (mz_gI t 0 48).toNatClampNeg) - (mz_gI q5 35 (mz_gI t 0 48).toNatClampNeg)) (1 : Int32) q5 hf _ _ _ w (lv_sub hl [3, 2, 1, 0] rfl)
  · have hf := mz_t hc2 hf
    refine lv_aload_n hx hb d_MO_ifSame_38 rfl (lv_at hl 0 rfl) ?_
    refine lv_iconst (v := (1 : Int32)) hx hb d_MO_ifSame_39 (by decide) ?_
    refine lv_aload_n hx hb d_MO_ifSame_40 rfl (lv_at hl 0 rfl) ?_
    refine mz_get E w 0 63 (v := .int (mz_gI t 0 63)) (by decide) rfl rfl ii_11 (by decide) (Nat.le_of_ble_eq_true rfl) k_1246 rfl d_MO_ifSame_41 ?_
    obtain ⟨q23, hq24, hf⟩ := mz_bd hf
    refine mz_callV E w (k := 0) (As := [.int (1 : Int32), .int (mz_gI t 0 63)]) (rest := []) (c_MO_fail hSK l n (1 : Int32) (mz_gI t 0 63) t q23 hq24) (by decide) rfl rfl k_1467 k_15 k_1464 k_1466 ks_53 hm_MO_fail ⟨⟨rfl, rfl⟩, Nat.le_of_ble_eq_true rfl, Nat.le_of_ble_eq_true rfl⟩ rfl hl.1 rfl (Nat.le_of_ble_eq_true rfl) d_MO_ifSame_44 ⟨Nat.zero_le _, Nat.zero_le _⟩ (st1 := []) rfl (fun H locs w => ?_)
    obtain rfl := Option.some.inj hf
    exact mz_vret E w rfl d_MO_ifSame_47
set_option maxRecDepth 100000 in
set_option maxHeartbeats 4000000 in
theorem b_MO_ifSame_5 {SX : State → Heap → Prop} {dC : Nat → ClassId} {dI : Nat → Nat → Nat} {ad en : Nat → Nat} {ca : Nat → ClassId} {p : Program} {l : Launch} {e : Env} {s : State} {m : MethodId} {args : Array Value} {below : List Frame} {meth : Method} {c : Code} {res : mz_St} (E : mz_En SX 55 mz_cl dC dI ad ca p s m meth c prog_15_method_52_code 7 "MacroHouseModel" none) (n : Nat) (k : Nat) : ∀ (x1 : Int32) (t : mz_St), f_MO_ifSame_5 n k x1 t = some res → ∀ (H : Heap) (locs : List Loc) (ls : Array Slot), mz_Wd mz_tM 55 mz_cl dC dI ad en ca s t H locs → lv_has ls 7 [(0, .ref (ad 0)), (1, .int x1)] → W p l e (r_MO_ifSame) s m args below meth c H locs 0 0 (MQ below (mz_Q SX mz_tM 55 mz_cl dC dI ad en ca none res) args s 0 0 (mz_A ad 55)) (F0 m 5 ls []) := by
  obtain ⟨hx, hb, hml, hown, hcx, -, -, hSX, -, -, hSK⟩ := id E
  induction k with
  | zero => intro x1 t hf; exact absurd hf (by unfold f_MO_ifSame_5; exact fun h => nomatch h)
  | succ k ih =>
    intro x1 t hf H locs ls w hl
    unfold f_MO_ifSame_5 at hf
    refine lv_iload_n hx hb d_MO_ifSame_5 rfl (lv_at hl 1 rfl) ?_
    refine lv_aload_n hx hb d_MO_ifSame_6 rfl (lv_at hl 0 rfl) ?_
    refine mz_get E w 0 60 (v := .int (mz_gI t 0 60)) (by decide) rfl rfl ii_11 (by decide) (Nat.le_of_ble_eq_true rfl) k_1243 rfl d_MO_ifSame_7 ?_
    refine lv_icmp_ge (tgt := 30) hx hb d_MO_ifSame_10 (by decide) (fun hc1 => ?_) (fun hc1 => ?_)
    · have hf := mz_t hc1 hf
      exact b_MO_ifSame_30 E n x1 t hf _ _ _ w (lv_sub hl [0, 1] rfl)
    · have hf := mz_f hc1 hf
      refine lv_aload_n hx hb d_MO_ifSame_13 rfl (lv_at hl 0 rfl) ?_
      refine mz_get E w 0 59 (v := .ref (ad 43)) (by decide) rfl rfl ii_11 (by decide) (Nat.le_of_ble_eq_true rfl) k_1242 rfl d_MO_ifSame_14 ?_
      refine lv_iload_n hx hb d_MO_ifSame_17 rfl (lv_at hl 1 rfl) ?_
      obtain ⟨hi25, hf⟩ := mz_gd hf
      refine mz_iald E w 43 (by decide) rfl hi25 d_MO_ifSame_18 ?_
      refine lv_bipush (v := (44 : Int32)) hx hb d_MO_ifSame_19 (by decide) ?_
      refine lv_icmp_eq (tgt := 30) hx hb d_MO_ifSame_21 (by decide) (fun hc26 => ?_) (fun hc26 => ?_)
      · have hf := mz_t hc26 hf
        exact b_MO_ifSame_30 E n x1 t hf _ _ _ w (lv_sub hl [0, 1] rfl)
      · have hf := mz_f hc26 hf
        refine lv_iinc (v := (x1 + (1 : Int32))) (lv' := [(1, .int (x1 + (1 : Int32))), (0, .ref (ad 0))]) hx hb d_MO_ifSame_24 hl (k := 1) rfl rfl (by decide) rfl (fun ls hl => ?_)
        refine lv_goto (tgt := 5) hx hb d_MO_ifSame_27 (by decide) ?_
        exact ih (x1 + (1 : Int32)) t hf _ _ _ w (lv_sub hl [1, 0] rfl)
set_option maxRecDepth 100000 in
set_option maxHeartbeats 4000000 in
theorem c_MO_ifSame {SX : State → Heap → Prop} {dC : Nat → ClassId} {dI : Nat → Nat → Nat} {ad en : Nat → Nat} {ca : Nat → ClassId} (hSK : mz_SK SX ad 55) (l : Launch) (n : Nat) (t : mz_St) (res : mz_St) (hf : f_MO_ifSame n t = some res) : mz_C SX mz_tM 55 mz_cl dC dI ad en ca l y_MO_ifSame prog_15_method_52_code 7 none (r_MO_ifSame) [.ref (ad 0)] t none res := by
  unfold f_MO_ifSame at hf
  refine mz_met hSK (by decide) (Nat.le_of_ble_eq_true rfl) ?_
  intro p e s m args below meth c ls E w hl
  obtain ⟨hx, hb, hml, hown, hcx, -, -, hSX, -, -, -⟩ := id E
  have hl : lv_has ls 7 [(0, .ref (ad 0))] := hl
  refine lv_aload_n hx hb d_MO_ifSame_0 rfl (lv_at hl 0 rfl) ?_
  refine mz_get E w 0 61 (v := .int (mz_gI t 0 61)) (by decide) rfl rfl ii_11 (by decide) (Nat.le_of_ble_eq_true rfl) k_1244 rfl d_MO_ifSame_1 ?_
  refine lv_istore_n (lv' := [(1, .int (mz_gI t 0 61)), (0, .ref (ad 0))]) hx hb d_MO_ifSame_4 rfl hl (by decide) rfl (fun ls hl => ?_)
  exact b_MO_ifSame_5 E n n (mz_gI t 0 61) t hf _ _ _ w (lv_sub hl [1, 0] rfl)

/-! MacroHouseModel.readDefault(I)V -/
abbrev r_MO_readDefault : Room := { frames := 0, cells := 0, slots := 0, locals := 0 }
def f_MO_readDefault_94 (n : Nat) (x1 : Int32) (x2 : Int32) (x3 : Int32) (t : mz_St) : Option mz_St := if ¬ ((mz_gI t 0 75) < 0 ∨ 8 ≤ (mz_gI t 0 75).toNatClampNeg) then (mz_let (mz_pI t 53 (mz_gI t 0 75).toNatClampNeg (x2 + x1)) fun t5 => if ¬ ((mz_gI t5 0 75) < 0 ∨ 8 ≤ (mz_gI t5 0 75).toNatClampNeg) then (mz_let (mz_pI t5 54 (mz_gI t5 0 75).toNatClampNeg (x3 + x1)) fun t7 => some t7) else none) else none
def f_MO_readDefault_70 (n : Nat) : Nat → Int32 → Int32 → Int32 → mz_St → Option mz_St
  | 0, _, _, _, _ => none
  | k + 1, x1, x2, x3, t => if x3 ≤ x2 then (f_MO_readDefault_94 n x1 x2 x3 t) else (if ¬ ((x3 - (1 : Int32)) < 0 ∨ 6000 ≤ (x3 - (1 : Int32)).toNatClampNeg) then (if (mz_gI t 43 (x3 - (1 : Int32)).toNatClampNeg) = (32 : Int32) then ((f_MO_readDefault_70 n k) x1 x2 (x3 + (-1 : Int32)) t) else (f_MO_readDefault_94 n x1 x2 x3 t)) else none)
def f_MO_readDefault_48 (n : Nat) : Nat → Int32 → Int32 → Int32 → mz_St → Option mz_St
  | 0, _, _, _, _ => none
  | k + 1, x1, x2, x3, t => if x3 ≤ x2 then (f_MO_readDefault_70 n n x1 x2 x3 t) else (if ¬ (x2 < 0 ∨ 6000 ≤ x2.toNatClampNeg) then (if (mz_gI t 43 x2.toNatClampNeg) = (32 : Int32) then ((f_MO_readDefault_48 n k) x1 (x2 + (1 : Int32)) x3 t) else (f_MO_readDefault_70 n n x1 x2 x3 t)) else none)
def f_MO_readDefault_43 (n : Nat) (x1 : Int32) (x2 : Int32) (t : mz_St) : Option mz_St := f_MO_readDefault_48 n n x1 x2 (mz_gI t 0 61) t
def f_MO_readDefault_5 (n : Nat) : Nat → Int32 → Int32 → mz_St → Option mz_St
  | 0, _, _, _ => none
  | k + 1, x1, x2, t => if (mz_gI t 0 60) ≤ (mz_gI t 0 61) then (f_MO_readDefault_43 n x1 x2 t) else (if ¬ ((mz_gI t 0 61) < 0 ∨ 6000 ≤ (mz_gI t 0 61).toNatClampNeg) then (if (mz_gI t 43 (mz_gI t 0 61).toNatClampNeg) = (44 : Int32) then (f_MO_readDefault_43 n x1 x2 t) else (mz_let (mz_pI t 0 61 ((mz_gI t 0 61) + (1 : Int32))) fun t14 => (f_MO_readDefault_5 n k) x1 x2 t14)) else none)
def f_MO_readDefault (n : Nat) (x1 : Int32) (t : mz_St) : Option mz_St := f_MO_readDefault_5 n n x1 (mz_gI t 0 61) t
set_option maxRecDepth 100000 in
set_option maxHeartbeats 4000000 in
theorem b_MO_readDefault_94 {SX : State → Heap → Prop} {dC : Nat → ClassId} {dI : Nat → Nat → Nat} {ad en : Nat → Nat} {ca : Nat → ClassId} {p : Program} {l : Launch} {e : Env} {s : State} {m : MethodId} {args : Array Value} {below : List Frame} {meth : Method} {c : Code} {res : mz_St} (E : mz_En SX 55 mz_cl dC dI ad ca p s m meth c prog_15_method_49_code 4 "MacroHouseModel" none) (n : Nat) : ∀ (x1 : Int32) (x2 : Int32) (x3 : Int32) (t : mz_St), f_MO_readDefault_94 n x1 x2 x3 t = some res → ∀ (H : Heap) (locs : List Loc) (ls : Array Slot), mz_Wd mz_tM 55 mz_cl dC dI ad en ca s t H locs → lv_has ls 4 [(0, .ref (ad 0)), (1, .int x1), (2, .int x2), (3, .int x3)] → W p l e (r_MO_readDefault) s m args below meth c H locs 0 0 (MQ below (mz_Q SX mz_tM 55 mz_cl dC dI ad en ca none res) args s 0 0 (mz_A ad 55)) (F0 m 94 ls []) := by
  obtain ⟨hx, hb, hml, hown, hcx, -, -, hSX, -, -, hSK⟩ := id E
  intro x1 x2 x3 t hf H locs ls w hl
  unfold f_MO_readDefault_94 at hf
  refine lv_aload_n hx hb d_MO_readDefault_94 rfl (lv_at hl 0 rfl) ?_
  refine mz_get E w 0 78 (v := .ref (ad 53)) (by decide) rfl rfl ii_11 (by decide) (Nat.le_of_ble_eq_true rfl) k_1261 rfl d_MO_readDefault_95 ?_
  refine lv_aload_n hx hb d_MO_readDefault_98 rfl (lv_at hl 0 rfl) ?_
  refine mz_get E w 0 75 (v := .int (mz_gI t 0 75)) (by decide) rfl rfl ii_11 (by decide) (Nat.le_of_ble_eq_true rfl) k_1258 rfl d_MO_readDefault_99 ?_
  refine lv_iload_n hx hb d_MO_readDefault_102 rfl (lv_at hl 2 rfl) ?_
  refine lv_iload_n hx hb d_MO_readDefault_103 rfl (lv_at hl 1 rfl) ?_
  refine lv_iadd hx hb d_MO_readDefault_104 ?_
  obtain ⟨hi4, hf⟩ := mz_gd hf
  refine mz_iast E w 53 (x := (x2 + x1)) (by decide) rfl hi4 d_MO_readDefault_105 (fun H locs w => ?_)
  obtain ⟨t5, e_t5, hf⟩ := mz_lt hf
  rw [← e_t5] at w
  refine lv_aload_n hx hb d_MO_readDefault_106 rfl (lv_at hl 0 rfl) ?_
  refine mz_get E w 0 79 (v := .ref (ad 54)) (by decide) rfl rfl ii_11 (by decide) (Nat.le_of_ble_eq_true rfl) k_1262 rfl d_MO_readDefault_107 ?_
  refine lv_aload_n hx hb d_MO_readDefault_110 rfl (lv_at hl 0 rfl) ?_
  refine mz_get E w 0 75 (v := .int (mz_gI t5 0 75)) (by decide) rfl rfl ii_11 (by decide) (Nat.le_of_ble_eq_true rfl) k_1258 rfl d_MO_readDefault_111 ?_
  refine lv_iload_n hx hb d_MO_readDefault_114 rfl (lv_at hl 3 rfl) ?_
  refine lv_iload_n hx hb d_MO_readDefault_115 rfl (lv_at hl 1 rfl) ?_
  refine lv_iadd hx hb d_MO_readDefault_116 ?_
  obtain ⟨hi6, hf⟩ := mz_gd hf
  refine mz_iast E w 54 (x := (x3 + x1)) (by decide) rfl hi6 d_MO_readDefault_117 (fun H locs w => ?_)
  obtain ⟨t7, e_t7, hf⟩ := mz_lt hf
  rw [← e_t7] at w
  obtain rfl := Option.some.inj hf
  exact mz_vret E w rfl d_MO_readDefault_118
set_option maxRecDepth 100000 in
set_option maxHeartbeats 4000000 in
theorem b_MO_readDefault_70 {SX : State → Heap → Prop} {dC : Nat → ClassId} {dI : Nat → Nat → Nat} {ad en : Nat → Nat} {ca : Nat → ClassId} {p : Program} {l : Launch} {e : Env} {s : State} {m : MethodId} {args : Array Value} {below : List Frame} {meth : Method} {c : Code} {res : mz_St} (E : mz_En SX 55 mz_cl dC dI ad ca p s m meth c prog_15_method_49_code 4 "MacroHouseModel" none) (n : Nat) (k : Nat) : ∀ (x1 : Int32) (x2 : Int32) (x3 : Int32) (t : mz_St), f_MO_readDefault_70 n k x1 x2 x3 t = some res → ∀ (H : Heap) (locs : List Loc) (ls : Array Slot), mz_Wd mz_tM 55 mz_cl dC dI ad en ca s t H locs → lv_has ls 4 [(0, .ref (ad 0)), (1, .int x1), (2, .int x2), (3, .int x3)] → W p l e (r_MO_readDefault) s m args below meth c H locs 0 0 (MQ below (mz_Q SX mz_tM 55 mz_cl dC dI ad en ca none res) args s 0 0 (mz_A ad 55)) (F0 m 70 ls []) := by
  obtain ⟨hx, hb, hml, hown, hcx, -, -, hSX, -, -, hSK⟩ := id E
  induction k with
  | zero => intro x1 x2 x3 t hf; exact absurd hf (by unfold f_MO_readDefault_70; exact fun h => nomatch h)
  | succ k ih =>
    intro x1 x2 x3 t hf H locs ls w hl
    unfold f_MO_readDefault_70 at hf
    refine lv_iload_n hx hb d_MO_readDefault_70 rfl (lv_at hl 2 rfl) ?_
    refine lv_iload_n hx hb d_MO_readDefault_71 rfl (lv_at hl 3 rfl) ?_
    refine lv_icmp_ge (tgt := 94) hx hb d_MO_readDefault_72 (by decide) (fun hc3 => ?_) (fun hc3 => ?_)
    · have hf := mz_t hc3 hf
      exact b_MO_readDefault_94 E n x1 x2 x3 t hf _ _ _ w (lv_sub hl [0, 1, 2, 3] rfl)
    · have hf := mz_f hc3 hf
      refine lv_aload_n hx hb d_MO_readDefault_75 rfl (lv_at hl 0 rfl) ?_
      refine mz_get E w 0 59 (v := .ref (ad 43)) (by decide) rfl rfl ii_11 (by decide) (Nat.le_of_ble_eq_true rfl) k_1242 rfl d_MO_readDefault_76 ?_
      refine lv_iload_n hx hb d_MO_readDefault_79 rfl (lv_at hl 3 rfl) ?_
      refine lv_iconst (v := (1 : Int32)) hx hb d_MO_readDefault_80 (by decide) ?_
      refine lv_isub hx hb d_MO_readDefault_81 ?_
      obtain ⟨hi8, hf⟩ := mz_gd hf
      refine mz_iald E w 43 (by decide) rfl hi8 d_MO_readDefault_82 ?_
      refine lv_bipush (v := (32 : Int32)) hx hb d_MO_readDefault_83 (by decide) ?_
      refine lv_icmp_ne (tgt := 94) hx hb d_MO_readDefault_85 (by decide) (fun hc9 => ?_) (fun hc9 => ?_)
      · have hf := mz_f hc9 hf
        exact b_MO_readDefault_94 E n x1 x2 x3 t hf _ _ _ w (lv_sub hl [0, 1, 2, 3] rfl)
      · have hf := mz_t hc9 hf
        refine lv_iinc (v := (x3 + (-1 : Int32))) (lv' := [(3, .int (x3 + (-1 : Int32))), (0, .ref (ad 0)), (1, .int x1), (2, .int x2)]) hx hb d_MO_readDefault_88 hl (k := 3) rfl rfl (by decide) rfl (fun ls hl => ?_)
        refine lv_goto (tgt := 70) hx hb d_MO_readDefault_91 (by decide) ?_
        exact ih x1 x2 (x3 + (-1 : Int32)) t hf _ _ _ w (lv_sub hl [1, 2, 3, 0] rfl)
set_option maxRecDepth 100000 in
set_option maxHeartbeats 4000000 in
theorem b_MO_readDefault_48 {SX : State → Heap → Prop} {dC : Nat → ClassId} {dI : Nat → Nat → Nat} {ad en : Nat → Nat} {ca : Nat → ClassId} {p : Program} {l : Launch} {e : Env} {s : State} {m : MethodId} {args : Array Value} {below : List Frame} {meth : Method} {c : Code} {res : mz_St} (E : mz_En SX 55 mz_cl dC dI ad ca p s m meth c prog_15_method_49_code 4 "MacroHouseModel" none) (n : Nat) (k : Nat) : ∀ (x1 : Int32) (x2 : Int32) (x3 : Int32) (t : mz_St), f_MO_readDefault_48 n k x1 x2 x3 t = some res → ∀ (H : Heap) (locs : List Loc) (ls : Array Slot), mz_Wd mz_tM 55 mz_cl dC dI ad en ca s t H locs → lv_has ls 4 [(0, .ref (ad 0)), (1, .int x1), (2, .int x2), (3, .int x3)] → W p l e (r_MO_readDefault) s m args below meth c H locs 0 0 (MQ below (mz_Q SX mz_tM 55 mz_cl dC dI ad en ca none res) args s 0 0 (mz_A ad 55)) (F0 m 48 ls []) := by
  obtain ⟨hx, hb, hml, hown, hcx, -, -, hSX, -, -, hSK⟩ := id E
  induction k with
  | zero => intro x1 x2 x3 t hf; exact absurd hf (by unfold f_MO_readDefault_48; exact fun h => nomatch h)
  | succ k ih =>
    intro x1 x2 x3 t hf H locs ls w hl
    unfold f_MO_readDefault_48 at hf
    refine lv_iload_n hx hb d_MO_readDefault_48 rfl (lv_at hl 2 rfl) ?_
    refine lv_iload_n hx hb d_MO_readDefault_49 rfl (lv_at hl 3 rfl) ?_
    refine lv_icmp_ge (tgt := 70) hx hb d_MO_readDefault_50 (by decide) (fun hc2 => ?_) (fun hc2 => ?_)
    · have hf := mz_t hc2 hf
      exact b_MO_readDefault_70 E n n x1 x2 x3 t hf _ _ _ w (lv_sub hl [0, 1, 2, 3] rfl)
    · have hf := mz_f hc2 hf
      refine lv_aload_n hx hb d_MO_readDefault_53 rfl (lv_at hl 0 rfl) ?_
      refine mz_get E w 0 59 (v := .ref (ad 43)) (by decide) rfl rfl ii_11 (by decide) (Nat.le_of_ble_eq_true rfl) k_1242 rfl d_MO_readDefault_54 ?_
      refine lv_iload_n hx hb d_MO_readDefault_57 rfl (lv_at hl 2 rfl) ?_
      obtain ⟨hi10, hf⟩ := mz_gd hf
      refine mz_iald E w 43 (by decide) rfl hi10 d_MO_readDefault_58 ?_
      refine lv_bipush (v := (32 : Int32)) hx hb d_MO_readDefault_59 (by decide) ?_
      refine lv_icmp_ne (tgt := 70) hx hb d_MO_readDefault_61 (by decide) (fun hc11 => ?_) (fun hc11 => ?_)
      · have hf := mz_f hc11 hf
        exact b_MO_readDefault_70 E n n x1 x2 x3 t hf _ _ _ w (lv_sub hl [0, 1, 2, 3] rfl)
      · have hf := mz_t hc11 hf
        refine lv_iinc (v := (x2 + (1 : Int32))) (lv' := [(2, .int (x2 + (1 : Int32))), (0, .ref (ad 0)), (1, .int x1), (3, .int x3)]) hx hb d_MO_readDefault_64 hl (k := 2) rfl rfl (by decide) rfl (fun ls hl => ?_)
        refine lv_goto (tgt := 48) hx hb d_MO_readDefault_67 (by decide) ?_
        exact ih x1 (x2 + (1 : Int32)) x3 t hf _ _ _ w (lv_sub hl [1, 2, 0, 3] rfl)
set_option maxRecDepth 100000 in
set_option maxHeartbeats 4000000 in
theorem b_MO_readDefault_43 {SX : State → Heap → Prop} {dC : Nat → ClassId} {dI : Nat → Nat → Nat} {ad en : Nat → Nat} {ca : Nat → ClassId} {p : Program} {l : Launch} {e : Env} {s : State} {m : MethodId} {args : Array Value} {below : List Frame} {meth : Method} {c : Code} {res : mz_St} (E : mz_En SX 55 mz_cl dC dI ad ca p s m meth c prog_15_method_49_code 4 "MacroHouseModel" none) (n : Nat) : ∀ (x1 : Int32) (x2 : Int32) (t : mz_St), f_MO_readDefault_43 n x1 x2 t = some res → ∀ (H : Heap) (locs : List Loc) (ls : Array Slot), mz_Wd mz_tM 55 mz_cl dC dI ad en ca s t H locs → lv_has ls 4 [(0, .ref (ad 0)), (1, .int x1), (2, .int x2)] → W p l e (r_MO_readDefault) s m args below meth c H locs 0 0 (MQ below (mz_Q SX mz_tM 55 mz_cl dC dI ad en ca none res) args s 0 0 (mz_A ad 55)) (F0 m 43 ls []) := by
  obtain ⟨hx, hb, hml, hown, hcx, -, -, hSX, -, -, hSK⟩ := id E
  intro x1 x2 t hf H locs ls w hl
  unfold f_MO_readDefault_43 at hf
  refine lv_aload_n hx hb d_MO_readDefault_43 rfl (lv_at hl 0 rfl) ?_
  refine mz_get E w 0 61 (v := .int (mz_gI t 0 61)) (by decide) rfl rfl ii_11 (by decide) (Nat.le_of_ble_eq_true rfl) k_1244 rfl d_MO_readDefault_44 ?_
  refine lv_istore_n (lv' := [(3, .int (mz_gI t 0 61)), (0, .ref (ad 0)), (1, .int x1), (2, .int x2)]) hx hb d_MO_readDefault_47 rfl hl (by decide) rfl (fun ls hl => ?_)
  exact b_MO_readDefault_48 E n n x1 x2 (mz_gI t 0 61) t hf _ _ _ w (lv_sub hl [1, 2, 3, 0] rfl)
set_option maxRecDepth 100000 in
set_option maxHeartbeats 4000000 in
theorem b_MO_readDefault_5 {SX : State → Heap → Prop} {dC : Nat → ClassId} {dI : Nat → Nat → Nat} {ad en : Nat → Nat} {ca : Nat → ClassId} {p : Program} {l : Launch} {e : Env} {s : State} {m : MethodId} {args : Array Value} {below : List Frame} {meth : Method} {c : Code} {res : mz_St} (E : mz_En SX 55 mz_cl dC dI ad ca p s m meth c prog_15_method_49_code 4 "MacroHouseModel" none) (n : Nat) (k : Nat) : ∀ (x1 : Int32) (x2 : Int32) (t : mz_St), f_MO_readDefault_5 n k x1 x2 t = some res → ∀ (H : Heap) (locs : List Loc) (ls : Array Slot), mz_Wd mz_tM 55 mz_cl dC dI ad en ca s t H locs → lv_has ls 4 [(0, .ref (ad 0)), (1, .int x1), (2, .int x2)] → W p l e (r_MO_readDefault) s m args below meth c H locs 0 0 (MQ below (mz_Q SX mz_tM 55 mz_cl dC dI ad en ca none res) args s 0 0 (mz_A ad 55)) (F0 m 5 ls []) := by
  obtain ⟨hx, hb, hml, hown, hcx, -, -, hSX, -, -, hSK⟩ := id E
  induction k with
  | zero => intro x1 x2 t hf; exact absurd hf (by unfold f_MO_readDefault_5; exact fun h => nomatch h)
  | succ k ih =>
    intro x1 x2 t hf H locs ls w hl
    unfold f_MO_readDefault_5 at hf
    refine lv_aload_n hx hb d_MO_readDefault_5 rfl (lv_at hl 0 rfl) ?_
    refine mz_get E w 0 61 (v := .int (mz_gI t 0 61)) (by decide) rfl rfl ii_11 (by decide) (Nat.le_of_ble_eq_true rfl) k_1244 rfl d_MO_readDefault_6 ?_
    refine lv_aload_n hx hb d_MO_readDefault_9 rfl (lv_at hl 0 rfl) ?_
    refine mz_get E w 0 60 (v := .int (mz_gI t 0 60)) (by decide) rfl rfl ii_11 (by decide) (Nat.le_of_ble_eq_true rfl) k_1243 rfl d_MO_readDefault_10 ?_
    refine lv_icmp_ge (tgt := 43) hx hb d_MO_readDefault_13 (by decide) (fun hc1 => ?_) (fun hc1 => ?_)
    · have hf := mz_t hc1 hf
      exact b_MO_readDefault_43 E n x1 x2 t hf _ _ _ w (lv_sub hl [0, 1, 2] rfl)
    · have hf := mz_f hc1 hf
      refine lv_aload_n hx hb d_MO_readDefault_16 rfl (lv_at hl 0 rfl) ?_
      refine mz_get E w 0 59 (v := .ref (ad 43)) (by decide) rfl rfl ii_11 (by decide) (Nat.le_of_ble_eq_true rfl) k_1242 rfl d_MO_readDefault_17 ?_
      refine lv_aload_n hx hb d_MO_readDefault_20 rfl (lv_at hl 0 rfl) ?_
      refine mz_get E w 0 61 (v := .int (mz_gI t 0 61)) (by decide) rfl rfl ii_11 (by decide) (Nat.le_of_ble_eq_true rfl) k_1244 rfl d_MO_readDefault_21 ?_
      obtain ⟨hi12, hf⟩ := mz_gd hf
      refine mz_iald E w 43 (by decide) rfl hi12 d_MO_readDefault_24 ?_
      refine lv_bipush (v := (44 : Int32)) hx hb d_MO_readDefault_25 (by decide) ?_
      refine lv_icmp_eq (tgt := 43) hx hb d_MO_readDefault_27 (by decide) (fun hc13 => ?_) (fun hc13 => ?_)
      · have hf := mz_t hc13 hf
        exact b_MO_readDefault_43 E n x1 x2 t hf _ _ _ w (lv_sub hl [0, 1, 2] rfl)
      · have hf := mz_f hc13 hf
        refine lv_aload_n hx hb d_MO_readDefault_30 rfl (lv_at hl 0 rfl) ?_
        refine lv_dup hx hb d_MO_readDefault_31 rfl ?_
        refine mz_get E w 0 61 (v := .int (mz_gI t 0 61)) (by decide) rfl rfl ii_11 (by decide) (Nat.le_of_ble_eq_true rfl) k_1244 rfl d_MO_readDefault_32 ?_
        refine lv_iconst (v := (1 : Int32)) hx hb d_MO_readDefault_35 (by decide) ?_
        refine lv_iadd hx hb d_MO_readDefault_36 ?_
        refine mz_put E w 0 61 (v := ((mz_gI t 0 61) + (1 : Int32))) (by decide) rfl rfl ii_11 tk_11 nm_11 (by decide) (Nat.le_of_ble_eq_true rfl) k_1244 rfl (tk_11 61 (by decide)) rfl rfl rfl d_MO_readDefault_37 (fun H locs w => ?_)
        obtain ⟨t14, e_t14, hf⟩ := mz_lt hf
        rw [← e_t14] at w
        refine lv_goto (tgt := 5) hx hb d_MO_readDefault_40 (by decide) ?_
        exact ih x1 x2 t14 hf _ _ _ w (lv_sub hl [0, 1, 2] rfl)
set_option maxRecDepth 100000 in
set_option maxHeartbeats 4000000 in
theorem c_MO_readDefault {SX : State → Heap → Prop} {dC : Nat → ClassId} {dI : Nat → Nat → Nat} {ad en : Nat → Nat} {ca : Nat → ClassId} (hSK : mz_SK SX ad 55) (l : Launch) (n : Nat) (x1 : Int32) (t : mz_St) (res : mz_St) (hf : f_MO_readDefault n x1 t = some res) : mz_C SX mz_tM 55 mz_cl dC dI ad en ca l y_MO_readDefault prog_15_method_49_code 4 none (r_MO_readDefault) [.ref (ad 0), .int x1] t none res := by
  unfold f_MO_readDefault at hf
  refine mz_met hSK (by decide) (Nat.le_of_ble_eq_true rfl) ?_
  intro p e s m args below meth c ls E w hl
  obtain ⟨hx, hb, hml, hown, hcx, -, -, hSX, -, -, -⟩ := id E
  have hl : lv_has ls 4 [(0, .ref (ad 0)), (1, .int x1)] := hl
  refine lv_aload_n hx hb d_MO_readDefault_0 rfl (lv_at hl 0 rfl) ?_
  refine mz_get E w 0 61 (v := .int (mz_gI t 0 61)) (by decide) rfl rfl ii_11 (by decide) (Nat.le_of_ble_eq_true rfl) k_1244 rfl d_MO_readDefault_1 ?_
  refine lv_istore_n (lv' := [(2, .int (mz_gI t 0 61)), (0, .ref (ad 0)), (1, .int x1)]) hx hb d_MO_readDefault_4 rfl hl (by decide) rfl (fun ls hl => ?_)
  exact b_MO_readDefault_5 E n n x1 (mz_gI t 0 61) t hf _ _ _ w (lv_sub hl [1, 2, 0] rfl)

/-! MacroHouseModel.readParameters(I)V -/
abbrev r_MO_readParameters : Room := { frames := 3, cells := 0, slots := 0, locals := 61 }
def f_MO_readParameters_211 (n : Nat) (K9 : Int32 → mz_St → Option mz_St) (x1 : Int32) (t : mz_St) : Option mz_St := mz_let (mz_pI t 0 75 ((mz_gI t 0 75) + (1 : Int32))) fun t27 => (f_MO_blanks n t27).bind fun q28 => K9 x1 q28
def f_MO_readParameters_126 (n : Nat) (K9 : Int32 → mz_St → Option mz_St) (x1 : Int32) (s1 : Int32) (t : mz_St) : Option mz_St := if s1 = 0 ∨ s1 = 1 then (mz_let (mz_pI t 0 62 s1) fun t12 => if (mz_gI t12 0 62) = 0 then (some t12) else (if ¬ ((mz_gI t12 0 75) < 0 ∨ 8 ≤ (mz_gI t12 0 75).toNatClampNeg) then (mz_let (mz_pL t12 51 (mz_gI t12 0 75).toNatClampNeg (mz_gL t12 0 65)) fun t15 => if ¬ ((mz_gI t15 0 75) < 0 ∨ 8 ≤ (mz_gI t15 0 75).toNatClampNeg) then (mz_let (mz_pL t15 52 (mz_gI t15 0 75).toNatClampNeg (mz_gL t15 0 66)) fun t17 => if ¬ ((mz_gI t17 0 75) < 0 ∨ 8 ≤ (mz_gI t17 0 75).toNatClampNeg) then (mz_let (mz_pI t17 53 (mz_gI t17 0 75).toNatClampNeg (-1 : Int32)) fun t19 => if ¬ ((mz_gI t19 0 75) < 0 ∨ 8 ≤ (mz_gI t19 0 75).toNatClampNeg) then (mz_let (mz_pI t19 54 (mz_gI t19 0 75).toNatClampNeg (-1 : Int32)) fun t21 => (f_MO_blanks n t21).bind fun q22 => (f_MO_here n q22).bind fun q24 => if q24.1 = (61 : Int32) then (mz_let (mz_pI q24.2 0 61 ((mz_gI q24.2 0 61) + (1 : Int32))) fun t30 => (f_MO_readDefault n x1 t30).bind fun q31 => f_MO_readParameters_211 n K9 x1 q31) else (f_MO_readParameters_211 n K9 x1 q24.2)) else none) else none) else none) else none)) else none
def f_MO_readParameters_125 (n : Nat) (K9 : Int32 → mz_St → Option mz_St) (x1 : Int32) (t : mz_St) : Option mz_St := f_MO_readParameters_126 n K9 x1 (0 : Int32) t
def f_MO_readParameters_95 (n : Nat) (K46 : Int32 → Int32 → mz_St → Option mz_St) (x1 : Int32) (x2 : Int32) (s1 : Int32) (t : mz_St) : Option mz_St := if s1 = 0 ∨ s1 = 1 then (mz_let (mz_pI t 0 62 s1) fun t36 => K46 x1 (x2 + (1 : Int32)) t36) else none
def f_MO_readParameters_94 (n : Nat) (K46 : Int32 → Int32 → mz_St → Option mz_St) (x1 : Int32) (x2 : Int32) (t : mz_St) : Option mz_St := f_MO_readParameters_95 n K46 x1 x2 (0 : Int32) t
def f_MO_readParameters_90 (n : Nat) (K46 : Int32 → Int32 → mz_St → Option mz_St) (x1 : Int32) (x2 : Int32) (t : mz_St) : Option mz_St := f_MO_readParameters_95 n K46 x1 x2 (1 : Int32) t
def f_MO_readParameters_46 (n : Nat) (K9 : Int32 → mz_St → Option mz_St) : Nat → Int32 → Int32 → mz_St → Option mz_St
  | 0, _, _, _ => none
  | k + 1, x1, x2, t => if (mz_gI t 0 75) ≤ x2 then (if (mz_gI t 0 62) = 0 then (f_MO_readParameters_125 n K9 x1 t) else (if (6 : Int32) ≤ (mz_gI t 0 75) then (f_MO_readParameters_125 n K9 x1 t) else (f_MO_readParameters_126 n K9 x1 (1 : Int32) t))) else (if (mz_gI t 0 62) = 0 then (f_MO_readParameters_94 n (f_MO_readParameters_46 n K9 k) x1 x2 t) else (if ¬ (x2 < 0 ∨ 8 ≤ x2.toNatClampNeg) then (if (lg_cmp (mz_gL t 51 x2.toNatClampNeg) (mz_gL t 0 65)) = 0 then (if ¬ (x2 < 0 ∨ 8 ≤ x2.toNatClampNeg) then (if (lg_cmp (mz_gL t 52 x2.toNatClampNeg) (mz_gL t 0 66)) = 0 then (f_MO_readParameters_94 n (f_MO_readParameters_46 n K9 k) x1 x2 t) else (f_MO_readParameters_90 n (f_MO_readParameters_46 n K9 k) x1 x2 t)) else none) else (f_MO_readParameters_90 n (f_MO_readParameters_46 n K9 k) x1 x2 t)) else none))
def f_MO_readParameters_40 (n : Nat) (K9 : Int32 → mz_St → Option mz_St) (x1 : Int32) (t : mz_St) : Option mz_St := (f_MO_word n t).bind fun q7 => f_MO_readParameters_46 n K9 n x1 (0 : Int32) q7
def f_MO_readParameters_9 (n : Nat) : Nat → Int32 → mz_St → Option mz_St
  | 0, _, _ => none
  | k + 1, x1, t => if (mz_gI t 0 62) = 0 then (some t) else (if (mz_gI t 0 60) ≤ (mz_gI t 0 61) then (some t) else (if (mz_gI t 0 75) ≤ 0 then (f_MO_readParameters_40 n (f_MO_readParameters_9 n k) x1 t) else ((f_MO_sign n (44 : Int32) t).bind fun q41 => f_MO_readParameters_40 n (f_MO_readParameters_9 n k) x1 q41)))
def f_MO_readParameters (n : Nat) (x1 : Int32) (t : mz_St) : Option mz_St := mz_let (mz_pI t 0 75 (0 : Int32)) fun t1 => (f_MO_blanks n t1).bind fun q2 => f_MO_readParameters_9 n n x1 q2
set_option maxRecDepth 100000 in
set_option maxHeartbeats 4000000 in
theorem b_MO_readParameters_211 {SX : State → Heap → Prop} {dC : Nat → ClassId} {dI : Nat → Nat → Nat} {ad en : Nat → Nat} {ca : Nat → ClassId} {p : Program} {l : Launch} {e : Env} {s : State} {m : MethodId} {args : Array Value} {below : List Frame} {meth : Method} {c : Code} {res : mz_St} (E : mz_En SX 55 mz_cl dC dI ad ca p s m meth c prog_15_method_48_code 3 "MacroHouseModel" none) (n : Nat) (K9 : Int32 → mz_St → Option mz_St) (hK9 : ∀ (x1 : Int32) (t : mz_St), K9 x1 t = some res → ∀ (H : Heap) (locs : List Loc) (ls : Array Slot), mz_Wd mz_tM 55 mz_cl dC dI ad en ca s t H locs → lv_has ls 3 [(0, .ref (ad 0)), (1, .int x1)] → W p l e (r_MO_readParameters) s m args below meth c H locs 0 0 (MQ below (mz_Q SX mz_tM 55 mz_cl dC dI ad en ca none res) args s 0 0 (mz_A ad 55)) (F0 m 9 ls [])) : ∀ (x1 : Int32) (t : mz_St), f_MO_readParameters_211 n K9 x1 t = some res → ∀ (H : Heap) (locs : List Loc) (ls : Array Slot), mz_Wd mz_tM 55 mz_cl dC dI ad en ca s t H locs → lv_has ls 3 [(0, .ref (ad 0)), (1, .int x1)] → W p l e (r_MO_readParameters) s m args below meth c H locs 0 0 (MQ below (mz_Q SX mz_tM 55 mz_cl dC dI ad en ca none res) args s 0 0 (mz_A ad 55)) (F0 m 211 ls []) := by
  obtain ⟨hx, hb, hml, hown, hcx, -, -, hSX, -, -, hSK⟩ := id E
  intro x1 t hf H locs ls w hl
  unfold f_MO_readParameters_211 at hf
  refine lv_aload_n hx hb d_MO_readParameters_211 rfl (lv_at hl 0 rfl) ?_
  refine lv_dup hx hb d_MO_readParameters_212 rfl ?_
  refine mz_get E w 0 75 (v := .int (mz_gI t 0 75)) (by decide) rfl rfl ii_11 (by decide) (Nat.le_of_ble_eq_true rfl) k_1258 rfl d_MO_readParameters_213 ?_
  refine lv_iconst (v := (1 : Int32)) hx hb d_MO_readParameters_216 (by decide) ?_
  refine lv_iadd hx hb d_MO_readParameters_217 ?_
  refine mz_put E w 0 75 (v := ((mz_gI t 0 75) + (1 : Int32))) (by decide) rfl rfl ii_11 tk_11 nm_11 (by decide) (Nat.le_of_ble_eq_true rfl) k_1258 rfl (tk_11 75 (by decide)) rfl rfl rfl d_MO_readParameters_218 (fun H locs w => ?_)
  obtain ⟨t27, e_t27, hf⟩ := mz_lt hf
  rw [← e_t27] at w
  refine lv_aload_n hx hb d_MO_readParameters_221 rfl (lv_at hl 0 rfl) ?_
  obtain ⟨q28, hq29, hf⟩ := mz_bd hf
  refine mz_callV E w (k := 0) (As := []) (rest := []) (c_MO_blanks hSK l n t27 q28 hq29) (by decide) rfl rfl k_1549 k_15 k_1546 k_1548 ks_67 hm_MO_blanks ⟨⟨rfl, rfl⟩, Nat.le_of_ble_eq_true rfl, Nat.le_of_ble_eq_true rfl⟩ rfl hl.1 rfl (Nat.le_of_ble_eq_true rfl) d_MO_readParameters_222 ⟨Nat.zero_le _, Nat.zero_le _⟩ (st1 := []) rfl (fun H locs w => ?_)
  refine lv_goto (tgt := 9) hx hb d_MO_readParameters_225 (by decide) ?_
  exact hK9 x1 q28 hf _ _ _ w (lv_sub hl [0, 1] rfl)
set_option maxRecDepth 100000 in
set_option maxHeartbeats 4000000 in
theorem b_MO_readParameters_126 {SX : State → Heap → Prop} {dC : Nat → ClassId} {dI : Nat → Nat → Nat} {ad en : Nat → Nat} {ca : Nat → ClassId} {p : Program} {l : Launch} {e : Env} {s : State} {m : MethodId} {args : Array Value} {below : List Frame} {meth : Method} {c : Code} {res : mz_St} (E : mz_En SX 55 mz_cl dC dI ad ca p s m meth c prog_15_method_48_code 3 "MacroHouseModel" none) (n : Nat) (K9 : Int32 → mz_St → Option mz_St) (hK9 : ∀ (x1 : Int32) (t : mz_St), K9 x1 t = some res → ∀ (H : Heap) (locs : List Loc) (ls : Array Slot), mz_Wd mz_tM 55 mz_cl dC dI ad en ca s t H locs → lv_has ls 3 [(0, .ref (ad 0)), (1, .int x1)] → W p l e (r_MO_readParameters) s m args below meth c H locs 0 0 (MQ below (mz_Q SX mz_tM 55 mz_cl dC dI ad en ca none res) args s 0 0 (mz_A ad 55)) (F0 m 9 ls [])) : ∀ (x1 : Int32) (s1 : Int32) (t : mz_St), f_MO_readParameters_126 n K9 x1 s1 t = some res → ∀ (H : Heap) (locs : List Loc) (ls : Array Slot), mz_Wd mz_tM 55 mz_cl dC dI ad en ca s t H locs → lv_has ls 3 [(0, .ref (ad 0)), (1, .int x1)] → W p l e (r_MO_readParameters) s m args below meth c H locs 0 0 (MQ below (mz_Q SX mz_tM 55 mz_cl dC dI ad en ca none res) args s 0 0 (mz_A ad 55)) (F0 m 126 ls [.int s1, .ref (ad 0)]) := by
  obtain ⟨hx, hb, hml, hown, hcx, -, -, hSX, -, -, hSK⟩ := id E
  intro x1 s1 t hf H locs ls w hl
  unfold f_MO_readParameters_126 at hf
  obtain ⟨hz11, hf⟩ := mz_gd hf
  refine mz_put E w 0 62 (v := s1) (by decide) rfl rfl ii_11 tk_11 nm_11 (by decide) (Nat.le_of_ble_eq_true rfl) k_1245 rfl (tk_11 62 (by decide)) rfl (mz_b01 hz11) (mz_f01 hz11) d_MO_readParameters_126 (fun H locs w => ?_)
  obtain ⟨t12, e_t12, hf⟩ := mz_lt hf
  rw [← e_t12] at w
  refine lv_aload_n hx hb d_MO_readParameters_129 rfl (lv_at hl 0 rfl) ?_
  refine mz_get E w 0 62 (v := .int (mz_gI t12 0 62)) (by decide) rfl rfl ii_11 (by decide) (Nat.le_of_ble_eq_true rfl) k_1245 rfl d_MO_readParameters_130 ?_
  refine lv_if_ne (tgt := 137) hx hb d_MO_readParameters_133 (by decide) (fun hc13 => ?_) (fun hc13 => ?_)
  · have hf := mz_f hc13 hf
    refine lv_aload_n hx hb d_MO_readParameters_137 rfl (lv_at hl 0 rfl) ?_
    refine mz_get E w 0 76 (v := .ref (ad 51)) (by decide) rfl rfl ii_11 (by decide) (Nat.le_of_ble_eq_true rfl) k_1259 rfl d_MO_readParameters_138 ?_
    refine lv_aload_n hx hb d_MO_readParameters_141 rfl (lv_at hl 0 rfl) ?_
    refine mz_get E w 0 75 (v := .int (mz_gI t12 0 75)) (by decide) rfl rfl ii_11 (by decide) (Nat.le_of_ble_eq_true rfl) k_1258 rfl d_MO_readParameters_142 ?_
    refine lv_aload_n hx hb d_MO_readParameters_145 rfl (lv_at hl 0 rfl) ?_
    refine mz_get E w 0 65 (v := .long (mz_gL t12 0 65)) (by decide) rfl rfl ii_11 (by decide) (Nat.le_of_ble_eq_true rfl) k_1248 rfl d_MO_readParameters_146 ?_
    obtain ⟨hi14, hf⟩ := mz_gd hf
    refine mz_last E w 51 (x := (mz_gL t12 0 65)) (by decide) rfl hi14 d_MO_readParameters_149 (fun H locs w => ?_)
    obtain ⟨t15, e_t15, hf⟩ := mz_lt hf
    rw [← e_t15] at w
    refine lv_aload_n hx hb d_MO_readParameters_150 rfl (lv_at hl 0 rfl) ?_
    refine mz_get E w 0 77 (v := .ref (ad 52)) (by decide) rfl rfl ii_11 (by decide) (Nat.le_of_ble_eq_true rfl) k_1260 rfl d_MO_readParameters_151 ?_
    refine lv_aload_n hx hb d_MO_readParameters_154 rfl (lv_at hl 0 rfl) ?_
    refine mz_get E w 0 75 (v := .int (mz_gI t15 0 75)) (by decide) rfl rfl ii_11 (by decide) (Nat.le_of_ble_eq_true rfl) k_1258 rfl d_MO_readParameters_155 ?_
    refine lv_aload_n hx hb d_MO_readParameters_158 rfl (lv_at hl 0 rfl) ?_
    refine mz_get E w 0 66 (v := .long (mz_gL t15 0 66)) (by decide) rfl rfl ii_11 (by decide) (Nat.le_of_ble_eq_true rfl) k_1249 rfl d_MO_readParameters_159 ?_
    obtain ⟨hi16, hf⟩ := mz_gd hf
    refine mz_last E w 52 (x := (mz_gL t15 0 66)) (by decide) rfl hi16 d_MO_readParameters_162 (fun H locs w => ?_)
    obtain ⟨t17, e_t17, hf⟩ := mz_lt hf
    rw [← e_t17] at w
    refine lv_aload_n hx hb d_MO_readParameters_163 rfl (lv_at hl 0 rfl) ?_
    refine mz_get E w 0 78 (v := .ref (ad 53)) (by decide) rfl rfl ii_11 (by decide) (Nat.le_of_ble_eq_true rfl) k_1261 rfl d_MO_readParameters_164 ?_
    refine lv_aload_n hx hb d_MO_readParameters_167 rfl (lv_at hl 0 rfl) ?_
    refine mz_get E w 0 75 (v := .int (mz_gI t17 0 75)) (by decide) rfl rfl ii_11 (by decide) (Nat.le_of_ble_eq_true rfl) k_1258 rfl d_MO_readParameters_168 ?_
    refine lv_iconst (v := (-1 : Int32)) hx hb d_MO_readParameters_171 (by decide) ?_
    obtain ⟨hi18, hf⟩ := mz_gd hf
    refine mz_iast E w 53 (x := (-1 : Int32)) (by decide) rfl hi18 d_MO_readParameters_172 (fun H locs w => ?_)
    obtain ⟨t19, e_t19, hf⟩ := mz_lt hf
    rw [← e_t19] at w
    refine lv_aload_n hx hb d_MO_readParameters_173 rfl (lv_at hl 0 rfl) ?_
    refine mz_get E w 0 79 (v := .ref (ad 54)) (by decide) rfl rfl ii_11 (by decide) (Nat.le_of_ble_eq_true rfl) k_1262 rfl d_MO_readParameters_174 ?_
    refine lv_aload_n hx hb d_MO_readParameters_177 rfl (lv_at hl 0 rfl) ?_
    refine mz_get E w 0 75 (v := .int (mz_gI t19 0 75)) (by decide) rfl rfl ii_11 (by decide) (Nat.le_of_ble_eq_true rfl) k_1258 rfl d_MO_readParameters_178 ?_
    refine lv_iconst (v := (-1 : Int32)) hx hb d_MO_readParameters_181 (by decide) ?_
    obtain ⟨hi20, hf⟩ := mz_gd hf
    refine mz_iast E w 54 (x := (-1 : Int32)) (by decide) rfl hi20 d_MO_readParameters_182 (fun H locs w => ?_)
    obtain ⟨t21, e_t21, hf⟩ := mz_lt hf
    rw [← e_t21] at w
    refine lv_aload_n hx hb d_MO_readParameters_183 rfl (lv_at hl 0 rfl) ?_
    obtain ⟨q22, hq23, hf⟩ := mz_bd hf
    refine mz_callV E w (k := 0) (As := []) (rest := []) (c_MO_blanks hSK l n t21 q22 hq23) (by decide) rfl rfl k_1549 k_15 k_1546 k_1548 ks_67 hm_MO_blanks ⟨⟨rfl, rfl⟩, Nat.le_of_ble_eq_true rfl, Nat.le_of_ble_eq_true rfl⟩ rfl hl.1 rfl (Nat.le_of_ble_eq_true rfl) d_MO_readParameters_184 ⟨Nat.zero_le _, Nat.zero_le _⟩ (st1 := []) rfl (fun H locs w => ?_)
    refine lv_aload_n hx hb d_MO_readParameters_187 rfl (lv_at hl 0 rfl) ?_
    obtain ⟨q24, hq25, hf⟩ := mz_bd hf
    refine mz_callV E w (k := 0) (As := []) (rest := []) (c_MO_here hSK l n q22 q24 hq25) (by decide) rfl rfl k_1553 k_15 k_1550 k_1552 ks_68 hm_MO_here ⟨⟨rfl, rfl⟩, Nat.le_of_ble_eq_true rfl, Nat.le_of_ble_eq_true rfl⟩ rfl hl.1 rfl (Nat.le_of_ble_eq_true rfl) d_MO_readParameters_188 ⟨Nat.zero_le _, Nat.zero_le _⟩ (st1 := [.int q24.1]) rfl (fun H locs w => ?_)
    refine lv_bipush (v := (61 : Int32)) hx hb d_MO_readParameters_191 (by decide) ?_
    refine lv_icmp_ne (tgt := 211) hx hb d_MO_readParameters_193 (by decide) (fun hc26 => ?_) (fun hc26 => ?_)
    · have hf := mz_f hc26 hf
      exact b_MO_readParameters_211 E n K9 hK9 x1 q24.2 hf _ _ _ w (lv_sub hl [0, 1] rfl)
    · have hf := mz_t hc26 hf
      refine lv_aload_n hx hb d_MO_readParameters_196 rfl (lv_at hl 0 rfl) ?_
      refine lv_dup hx hb d_MO_readParameters_197 rfl ?_
      refine mz_get E w 0 61 (v := .int (mz_gI q24.2 0 61)) (by decide) rfl rfl ii_11 (by decide) (Nat.le_of_ble_eq_true rfl) k_1244 rfl d_MO_readParameters_198 ?_
      refine lv_iconst (v := (1 : Int32)) hx hb d_MO_readParameters_201 (by decide) ?_
      refine lv_iadd hx hb d_MO_readParameters_202 ?_
      refine mz_put E w 0 61 (v := ((mz_gI q24.2 0 61) + (1 : Int32))) (by decide) rfl rfl ii_11 tk_11 nm_11 (by decide) (Nat.le_of_ble_eq_true rfl) k_1244 rfl (tk_11 61 (by decide)) rfl rfl rfl d_MO_readParameters_203 (fun H locs w => ?_)
      obtain ⟨t30, e_t30, hf⟩ := mz_lt hf
      rw [← e_t30] at w
      refine lv_aload_n hx hb d_MO_readParameters_206 rfl (lv_at hl 0 rfl) ?_
      refine lv_iload_n hx hb d_MO_readParameters_207 rfl (lv_at hl 1 rfl) ?_
      obtain ⟨q31, hq32, hf⟩ := mz_bd hf
      refine mz_callV E w (k := 0) (As := [.int x1]) (rest := []) (c_MO_readDefault hSK l n x1 t30 q31 hq32) (by decide) rfl rfl k_1644 k_15 k_1641 k_1643 ks_90 hm_MO_readDefault ⟨⟨rfl, rfl⟩, Nat.le_of_ble_eq_true rfl, Nat.le_of_ble_eq_true rfl⟩ rfl hl.1 rfl (Nat.le_of_ble_eq_true rfl) d_MO_readParameters_208 ⟨Nat.zero_le _, Nat.zero_le _⟩ (st1 := []) rfl (fun H locs w => ?_)
      exact b_MO_readParameters_211 E n K9 hK9 x1 q31 hf _ _ _ w (lv_sub hl [0, 1] rfl)
  · have hf := mz_t hc13 hf
    obtain rfl := Option.some.inj hf
    exact mz_vret E w rfl d_MO_readParameters_136
set_option maxRecDepth 100000 in
set_option maxHeartbeats 4000000 in
theorem b_MO_readParameters_125 {SX : State → Heap → Prop} {dC : Nat → ClassId} {dI : Nat → Nat → Nat} {ad en : Nat → Nat} {ca : Nat → ClassId} {p : Program} {l : Launch} {e : Env} {s : State} {m : MethodId} {args : Array Value} {below : List Frame} {meth : Method} {c : Code} {res : mz_St} (E : mz_En SX 55 mz_cl dC dI ad ca p s m meth c prog_15_method_48_code 3 "MacroHouseModel" none) (n : Nat) (K9 : Int32 → mz_St → Option mz_St) (hK9 : ∀ (x1 : Int32) (t : mz_St), K9 x1 t = some res → ∀ (H : Heap) (locs : List Loc) (ls : Array Slot), mz_Wd mz_tM 55 mz_cl dC dI ad en ca s t H locs → lv_has ls 3 [(0, .ref (ad 0)), (1, .int x1)] → W p l e (r_MO_readParameters) s m args below meth c H locs 0 0 (MQ below (mz_Q SX mz_tM 55 mz_cl dC dI ad en ca none res) args s 0 0 (mz_A ad 55)) (F0 m 9 ls [])) : ∀ (x1 : Int32) (t : mz_St), f_MO_readParameters_125 n K9 x1 t = some res → ∀ (H : Heap) (locs : List Loc) (ls : Array Slot), mz_Wd mz_tM 55 mz_cl dC dI ad en ca s t H locs → lv_has ls 3 [(0, .ref (ad 0)), (1, .int x1)] → W p l e (r_MO_readParameters) s m args below meth c H locs 0 0 (MQ below (mz_Q SX mz_tM 55 mz_cl dC dI ad en ca none res) args s 0 0 (mz_A ad 55)) (F0 m 125 ls [.ref (ad 0)]) := by
  obtain ⟨hx, hb, hml, hown, hcx, -, -, hSX, -, -, hSK⟩ := id E
  intro x1 t hf H locs ls w hl
  unfold f_MO_readParameters_125 at hf
  refine lv_iconst (v := (0 : Int32)) hx hb d_MO_readParameters_125 (by decide) ?_
  exact b_MO_readParameters_126 E n K9 hK9 x1 (0 : Int32) t hf _ _ _ w (lv_sub hl [0, 1] rfl)
set_option maxRecDepth 100000 in
set_option maxHeartbeats 4000000 in
theorem b_MO_readParameters_95 {SX : State → Heap → Prop} {dC : Nat → ClassId} {dI : Nat → Nat → Nat} {ad en : Nat → Nat} {ca : Nat → ClassId} {p : Program} {l : Launch} {e : Env} {s : State} {m : MethodId} {args : Array Value} {below : List Frame} {meth : Method} {c : Code} {res : mz_St} (E : mz_En SX 55 mz_cl dC dI ad ca p s m meth c prog_15_method_48_code 3 "MacroHouseModel" none) (n : Nat) (K46 : Int32 → Int32 → mz_St → Option mz_St) (hK46 : ∀ (x1 : Int32) (x2 : Int32) (t : mz_St), K46 x1 x2 t = some res → ∀ (H : Heap) (locs : List Loc) (ls : Array Slot), mz_Wd mz_tM 55 mz_cl dC dI ad en ca s t H locs → lv_has ls 3 [(0, .ref (ad 0)), (1, .int x1), (2, .int x2)] → W p l e (r_MO_readParameters) s m args below meth c H locs 0 0 (MQ below (mz_Q SX mz_tM 55 mz_cl dC dI ad en ca none res) args s 0 0 (mz_A ad 55)) (F0 m 46 ls [])) : ∀ (x1 : Int32) (x2 : Int32) (s1 : Int32) (t : mz_St), f_MO_readParameters_95 n K46 x1 x2 s1 t = some res → ∀ (H : Heap) (locs : List Loc) (ls : Array Slot), mz_Wd mz_tM 55 mz_cl dC dI ad en ca s t H locs → lv_has ls 3 [(0, .ref (ad 0)), (1, .int x1), (2, .int x2)] → W p l e (r_MO_readParameters) s m args below meth c H locs 0 0 (MQ below (mz_Q SX mz_tM 55 mz_cl dC dI ad en ca none res) args s 0 0 (mz_A ad 55)) (F0 m 95 ls [.int s1, .ref (ad 0)]) := by
  obtain ⟨hx, hb, hml, hown, hcx, -, -, hSX, -, -, hSK⟩ := id E
  intro x1 x2 s1 t hf H locs ls w hl
  unfold f_MO_readParameters_95 at hf
  obtain ⟨hz35, hf⟩ := mz_gd hf
  refine mz_put E w 0 62 (v := s1) (by decide) rfl rfl ii_11 tk_11 nm_11 (by decide) (Nat.le_of_ble_eq_true rfl) k_1245 rfl (tk_11 62 (by decide)) rfl (mz_b01 hz35) (mz_f01 hz35) d_MO_readParameters_95 (fun H locs w => ?_)
  obtain ⟨t36, e_t36, hf⟩ := mz_lt hf
  rw [← e_t36] at w
  refine lv_iinc (v := (x2 + (1 : Int32))) (lv' := [(2, .int (x2 + (1 : Int32))), (0, .ref (ad 0)), (1, .int x1)]) hx hb d_MO_readParameters_98 hl (k := 2) rfl rfl (by decide) rfl (fun ls hl => ?_)
  refine lv_goto (tgt := 46) hx hb d_MO_readParameters_101 (by decide) ?_
  exact hK46 x1 (x2 + (1 : Int32)) t36 hf _ _ _ w (lv_sub hl [1, 2, 0] rfl)
set_option maxRecDepth 100000 in
set_option maxHeartbeats 4000000 in
theorem b_MO_readParameters_94 {SX : State → Heap → Prop} {dC : Nat → ClassId} {dI : Nat → Nat → Nat} {ad en : Nat → Nat} {ca : Nat → ClassId} {p : Program} {l : Launch} {e : Env} {s : State} {m : MethodId} {args : Array Value} {below : List Frame} {meth : Method} {c : Code} {res : mz_St} (E : mz_En SX 55 mz_cl dC dI ad ca p s m meth c prog_15_method_48_code 3 "MacroHouseModel" none) (n : Nat) (K46 : Int32 → Int32 → mz_St → Option mz_St) (hK46 : ∀ (x1 : Int32) (x2 : Int32) (t : mz_St), K46 x1 x2 t = some res → ∀ (H : Heap) (locs : List Loc) (ls : Array Slot), mz_Wd mz_tM 55 mz_cl dC dI ad en ca s t H locs → lv_has ls 3 [(0, .ref (ad 0)), (1, .int x1), (2, .int x2)] → W p l e (r_MO_readParameters) s m args below meth c H locs 0 0 (MQ below (mz_Q SX mz_tM 55 mz_cl dC dI ad en ca none res) args s 0 0 (mz_A ad 55)) (F0 m 46 ls [])) : ∀ (x1 : Int32) (x2 : Int32) (t : mz_St), f_MO_readParameters_94 n K46 x1 x2 t = some res → ∀ (H : Heap) (locs : List Loc) (ls : Array Slot), mz_Wd mz_tM 55 mz_cl dC dI ad en ca s t H locs → lv_has ls 3 [(0, .ref (ad 0)), (1, .int x1), (2, .int x2)] → W p l e (r_MO_readParameters) s m args below meth c H locs 0 0 (MQ below (mz_Q SX mz_tM 55 mz_cl dC dI ad en ca none res) args s 0 0 (mz_A ad 55)) (F0 m 94 ls [.ref (ad 0)]) := by
  obtain ⟨hx, hb, hml, hown, hcx, -, -, hSX, -, -, hSK⟩ := id E
  intro x1 x2 t hf H locs ls w hl
  unfold f_MO_readParameters_94 at hf
  refine lv_iconst (v := (0 : Int32)) hx hb d_MO_readParameters_94 (by decide) ?_
  exact b_MO_readParameters_95 E n K46 hK46 x1 x2 (0 : Int32) t hf _ _ _ w (lv_sub hl [0, 1, 2] rfl)
set_option maxRecDepth 100000 in
set_option maxHeartbeats 4000000 in
theorem b_MO_readParameters_90 {SX : State → Heap → Prop} {dC : Nat → ClassId} {dI : Nat → Nat → Nat} {ad en : Nat → Nat} {ca : Nat → ClassId} {p : Program} {l : Launch} {e : Env} {s : State} {m : MethodId} {args : Array Value} {below : List Frame} {meth : Method} {c : Code} {res : mz_St} (E : mz_En SX 55 mz_cl dC dI ad ca p s m meth c prog_15_method_48_code 3 "MacroHouseModel" none) (n : Nat) (K46 : Int32 → Int32 → mz_St → Option mz_St) (hK46 : ∀ (x1 : Int32) (x2 : Int32) (t : mz_St), K46 x1 x2 t = some res → ∀ (H : Heap) (locs : List Loc) (ls : Array Slot), mz_Wd mz_tM 55 mz_cl dC dI ad en ca s t H locs → lv_has ls 3 [(0, .ref (ad 0)), (1, .int x1), (2, .int x2)] → W p l e (r_MO_readParameters) s m args below meth c H locs 0 0 (MQ below (mz_Q SX mz_tM 55 mz_cl dC dI ad en ca none res) args s 0 0 (mz_A ad 55)) (F0 m 46 ls [])) : ∀ (x1 : Int32) (x2 : Int32) (t : mz_St), f_MO_readParameters_90 n K46 x1 x2 t = some res → ∀ (H : Heap) (locs : List Loc) (ls : Array Slot), mz_Wd mz_tM 55 mz_cl dC dI ad en ca s t H locs → lv_has ls 3 [(0, .ref (ad 0)), (1, .int x1), (2, .int x2)] → W p l e (r_MO_readParameters) s m args below meth c H locs 0 0 (MQ below (mz_Q SX mz_tM 55 mz_cl dC dI ad en ca none res) args s 0 0 (mz_A ad 55)) (F0 m 90 ls [.ref (ad 0)]) := by
  obtain ⟨hx, hb, hml, hown, hcx, -, -, hSX, -, -, hSK⟩ := id E
  intro x1 x2 t hf H locs ls w hl
  unfold f_MO_readParameters_90 at hf
  refine lv_iconst (v := (1 : Int32)) hx hb d_MO_readParameters_90 (by decide) ?_
  refine lv_goto (tgt := 95) hx hb d_MO_readParameters_91 (by decide) ?_
  exact b_MO_readParameters_95 E n K46 hK46 x1 x2 (1 : Int32) t hf _ _ _ w (lv_sub hl [0, 1, 2] rfl)
set_option maxRecDepth 100000 in
set_option maxHeartbeats 4000000 in
theorem b_MO_readParameters_46 {SX : State → Heap → Prop} {dC : Nat → ClassId} {dI : Nat → Nat → Nat} {ad en : Nat → Nat} {ca : Nat → ClassId} {p : Program} {l : Launch} {e : Env} {s : State} {m : MethodId} {args : Array Value} {below : List Frame} {meth : Method} {c : Code} {res : mz_St} (E : mz_En SX 55 mz_cl dC dI ad ca p s m meth c prog_15_method_48_code 3 "MacroHouseModel" none) (n : Nat) (K9 : Int32 → mz_St → Option mz_St) (hK9 : ∀ (x1 : Int32) (t : mz_St), K9 x1 t = some res → ∀ (H : Heap) (locs : List Loc) (ls : Array Slot), mz_Wd mz_tM 55 mz_cl dC dI ad en ca s t H locs → lv_has ls 3 [(0, .ref (ad 0)), (1, .int x1)] → W p l e (r_MO_readParameters) s m args below meth c H locs 0 0 (MQ below (mz_Q SX mz_tM 55 mz_cl dC dI ad en ca none res) args s 0 0 (mz_A ad 55)) (F0 m 9 ls [])) (k : Nat) : ∀ (x1 : Int32) (x2 : Int32) (t : mz_St), f_MO_readParameters_46 n K9 k x1 x2 t = some res → ∀ (H : Heap) (locs : List Loc) (ls : Array Slot), mz_Wd mz_tM 55 mz_cl dC dI ad en ca s t H locs → lv_has ls 3 [(0, .ref (ad 0)), (1, .int x1), (2, .int x2)] → W p l e (r_MO_readParameters) s m args below meth c H locs 0 0 (MQ below (mz_Q SX mz_tM 55 mz_cl dC dI ad en ca none res) args s 0 0 (mz_A ad 55)) (F0 m 46 ls []) := by
  obtain ⟨hx, hb, hml, hown, hcx, -, -, hSX, -, -, hSK⟩ := id E
  induction k with
  | zero => intro x1 x2 t hf; exact absurd hf (by unfold f_MO_readParameters_46; exact fun h => nomatch h)
  | succ k ih =>
    intro x1 x2 t hf H locs ls w hl
    unfold f_MO_readParameters_46 at hf
    refine lv_iload_n hx hb d_MO_readParameters_46 rfl (lv_at hl 2 rfl) ?_
    refine lv_aload_n hx hb d_MO_readParameters_47 rfl (lv_at hl 0 rfl) ?_
    refine mz_get E w 0 75 (v := .int (mz_gI t 0 75)) (by decide) rfl rfl ii_11 (by decide) (Nat.le_of_ble_eq_true rfl) k_1258 rfl d_MO_readParameters_48 ?_
    refine lv_icmp_ge (tgt := 104) hx hb d_MO_readParameters_51 (by decide) (fun hc9 => ?_) (fun hc9 => ?_)
    · have hf := mz_t hc9 hf
      refine lv_aload_n hx hb d_MO_readParameters_104 rfl (lv_at hl 0 rfl) ?_
      refine lv_aload_n hx hb d_MO_readParameters_105 rfl (lv_at hl 0 rfl) ?_
      refine mz_get E w 0 62 (v := .int (mz_gI t 0 62)) (by decide) rfl rfl ii_11 (by decide) (Nat.le_of_ble_eq_true rfl) k_1245 rfl d_MO_readParameters_106 ?_
      refine lv_if_eq (tgt := 125) hx hb d_MO_readParameters_109 (by decide) (fun hc10 => ?_) (fun hc10 => ?_)
      · have hf := mz_t hc10 hf
        exact b_MO_readParameters_125 E n K9 hK9 x1 t hf _ _ _ w (lv_sub hl [0, 1] rfl)
      · have hf := mz_f hc10 hf
        refine lv_aload_n hx hb d_MO_readParameters_112 rfl (lv_at hl 0 rfl) ?_
        refine mz_get E w 0 75 (v := .int (mz_gI t 0 75)) (by decide) rfl rfl ii_11 (by decide) (Nat.le_of_ble_eq_true rfl) k_1258 rfl d_MO_readParameters_113 ?_
        refine lv_bipush (v := (6 : Int32)) hx hb d_MO_readParameters_116 (by decide) ?_
        refine lv_icmp_ge (tgt := 125) hx hb d_MO_readParameters_118 (by decide) (fun hc33 => ?_) (fun hc33 => ?_)
        · have hf := mz_t hc33 hf
          exact b_MO_readParameters_125 E n K9 hK9 x1 t hf _ _ _ w (lv_sub hl [0, 1] rfl)
        · have hf := mz_f hc33 hf
          refine lv_iconst (v := (1 : Int32)) hx hb d_MO_readParameters_121 (by decide) ?_
          refine lv_goto (tgt := 126) hx hb d_MO_readParameters_122 (by decide) ?_
          exact b_MO_readParameters_126 E n K9 hK9 x1 (1 : Int32) t hf _ _ _ w (lv_sub hl [0, 1] rfl)
    · have hf := mz_f hc9 hf
      refine lv_aload_n hx hb d_MO_readParameters_54 rfl (lv_at hl 0 rfl) ?_
      refine lv_aload_n hx hb d_MO_readParameters_55 rfl (lv_at hl 0 rfl) ?_
      refine mz_get E w 0 62 (v := .int (mz_gI t 0 62)) (by decide) rfl rfl ii_11 (by decide) (Nat.le_of_ble_eq_true rfl) k_1245 rfl d_MO_readParameters_56 ?_
      refine lv_if_eq (tgt := 94) hx hb d_MO_readParameters_59 (by decide) (fun hc34 => ?_) (fun hc34 => ?_)
      · have hf := mz_t hc34 hf
        exact b_MO_readParameters_94 E n (f_MO_readParameters_46 n K9 k) ih x1 x2 t hf _ _ _ w (lv_sub hl [0, 1, 2] rfl)
      · have hf := mz_f hc34 hf
        refine lv_aload_n hx hb d_MO_readParameters_62 rfl (lv_at hl 0 rfl) ?_
        refine mz_get E w 0 76 (v := .ref (ad 51)) (by decide) rfl rfl ii_11 (by decide) (Nat.le_of_ble_eq_true rfl) k_1259 rfl d_MO_readParameters_63 ?_
        refine lv_iload_n hx hb d_MO_readParameters_66 rfl (lv_at hl 2 rfl) ?_
        obtain ⟨hi37, hf⟩ := mz_gd hf
        refine mz_lald E w 51 (by decide) rfl hi37 d_MO_readParameters_67 ?_
        refine lv_aload_n hx hb d_MO_readParameters_68 rfl (lv_at hl 0 rfl) ?_
        refine mz_get E w 0 65 (v := .long (mz_gL t 0 65)) (by decide) rfl rfl ii_11 (by decide) (Nat.le_of_ble_eq_true rfl) k_1248 rfl d_MO_readParameters_69 ?_
        refine W.lcmp hx hb d_MO_readParameters_72 ?_
        refine lv_if_ne (tgt := 90) hx hb d_MO_readParameters_73 (by decide) (fun hc38 => ?_) (fun hc38 => ?_)
        · have hf := mz_f hc38 hf
          exact b_MO_readParameters_90 E n (f_MO_readParameters_46 n K9 k) ih x1 x2 t hf _ _ _ w (lv_sub hl [0, 1, 2] rfl)
        · have hf := mz_t hc38 hf
          refine lv_aload_n hx hb d_MO_readParameters_76 rfl (lv_at hl 0 rfl) ?_
          refine mz_get E w 0 77 (v := .ref (ad 52)) (by decide) rfl rfl ii_11 (by decide) (Nat.le_of_ble_eq_true rfl) k_1260 rfl d_MO_readParameters_77 ?_
          refine lv_iload_n hx hb d_MO_readParameters_80 rfl (lv_at hl 2 rfl) ?_
          obtain ⟨hi39, hf⟩ := mz_gd hf
          refine mz_lald E w 52 (by decide) rfl hi39 d_MO_readParameters_81 ?_
          refine lv_aload_n hx hb d_MO_readParameters_82 rfl (lv_at hl 0 rfl) ?_
          refine mz_get E w 0 66 (v := .long (mz_gL t 0 66)) (by decide) rfl rfl ii_11 (by decide) (Nat.le_of_ble_eq_true rfl) k_1249 rfl d_MO_readParameters_83 ?_
          refine W.lcmp hx hb d_MO_readParameters_86 ?_
          refine lv_if_eq (tgt := 94) hx hb d_MO_readParameters_87 (by decide) (fun hc40 => ?_) (fun hc40 => ?_)
          · have hf := mz_t hc40 hf
            exact b_MO_readParameters_94 E n (f_MO_readParameters_46 n K9 k) ih x1 x2 t hf _ _ _ w (lv_sub hl [0, 1, 2] rfl)
          · have hf := mz_f hc40 hf
            exact b_MO_readParameters_90 E n (f_MO_readParameters_46 n K9 k) ih x1 x2 t hf _ _ _ w (lv_sub hl [0, 1, 2] rfl)
set_option maxRecDepth 100000 in
set_option maxHeartbeats 4000000 in
theorem b_MO_readParameters_40 {SX : State → Heap → Prop} {dC : Nat → ClassId} {dI : Nat → Nat → Nat} {ad en : Nat → Nat} {ca : Nat → ClassId} {p : Program} {l : Launch} {e : Env} {s : State} {m : MethodId} {args : Array Value} {below : List Frame} {meth : Method} {c : Code} {res : mz_St} (E : mz_En SX 55 mz_cl dC dI ad ca p s m meth c prog_15_method_48_code 3 "MacroHouseModel" none) (n : Nat) (K9 : Int32 → mz_St → Option mz_St) (hK9 : ∀ (x1 : Int32) (t : mz_St), K9 x1 t = some res → ∀ (H : Heap) (locs : List Loc) (ls : Array Slot), mz_Wd mz_tM 55 mz_cl dC dI ad en ca s t H locs → lv_has ls 3 [(0, .ref (ad 0)), (1, .int x1)] → W p l e (r_MO_readParameters) s m args below meth c H locs 0 0 (MQ below (mz_Q SX mz_tM 55 mz_cl dC dI ad en ca none res) args s 0 0 (mz_A ad 55)) (F0 m 9 ls [])) : ∀ (x1 : Int32) (t : mz_St), f_MO_readParameters_40 n K9 x1 t = some res → ∀ (H : Heap) (locs : List Loc) (ls : Array Slot), mz_Wd mz_tM 55 mz_cl dC dI ad en ca s t H locs → lv_has ls 3 [(0, .ref (ad 0)), (1, .int x1)] → W p l e (r_MO_readParameters) s m args below meth c H locs 0 0 (MQ below (mz_Q SX mz_tM 55 mz_cl dC dI ad en ca none res) args s 0 0 (mz_A ad 55)) (F0 m 40 ls []) := by
  obtain ⟨hx, hb, hml, hown, hcx, -, -, hSX, -, -, hSK⟩ := id E
  intro x1 t hf H locs ls w hl
  unfold f_MO_readParameters_40 at hf
  refine lv_aload_n hx hb d_MO_readParameters_40 rfl (lv_at hl 0 rfl) ?_
  obtain ⟨q7, hq8, hf⟩ := mz_bd hf
  refine mz_callV E w (k := 0) (As := []) (rest := []) (c_MO_word hSK l n t q7 hq8) (by decide) rfl rfl k_1557 k_15 k_1554 k_1556 ks_69 hm_MO_word ⟨⟨rfl, rfl⟩, Nat.le_of_ble_eq_true rfl, Nat.le_of_ble_eq_true rfl⟩ rfl hl.1 rfl (Nat.le_of_ble_eq_true rfl) d_MO_readParameters_41 ⟨Nat.zero_le _, Nat.zero_le _⟩ (st1 := []) rfl (fun H locs w => ?_)
  refine lv_iconst (v := (0 : Int32)) hx hb d_MO_readParameters_44 (by decide) ?_
  refine lv_istore_n (lv' := [(2, .int (0 : Int32)), (0, .ref (ad 0)), (1, .int x1)]) hx hb d_MO_readParameters_45 rfl hl (by decide) rfl (fun ls hl => ?_)
  exact b_MO_readParameters_46 E n K9 hK9 n x1 (0 : Int32) q7 hf _ _ _ w (lv_sub hl [1, 2, 0] rfl)
set_option maxRecDepth 100000 in
set_option maxHeartbeats 4000000 in
theorem b_MO_readParameters_9 {SX : State → Heap → Prop} {dC : Nat → ClassId} {dI : Nat → Nat → Nat} {ad en : Nat → Nat} {ca : Nat → ClassId} {p : Program} {l : Launch} {e : Env} {s : State} {m : MethodId} {args : Array Value} {below : List Frame} {meth : Method} {c : Code} {res : mz_St} (E : mz_En SX 55 mz_cl dC dI ad ca p s m meth c prog_15_method_48_code 3 "MacroHouseModel" none) (n : Nat) (k : Nat) : ∀ (x1 : Int32) (t : mz_St), f_MO_readParameters_9 n k x1 t = some res → ∀ (H : Heap) (locs : List Loc) (ls : Array Slot), mz_Wd mz_tM 55 mz_cl dC dI ad en ca s t H locs → lv_has ls 3 [(0, .ref (ad 0)), (1, .int x1)] → W p l e (r_MO_readParameters) s m args below meth c H locs 0 0 (MQ below (mz_Q SX mz_tM 55 mz_cl dC dI ad en ca none res) args s 0 0 (mz_A ad 55)) (F0 m 9 ls []) := by
  obtain ⟨hx, hb, hml, hown, hcx, -, -, hSX, -, -, hSK⟩ := id E
  induction k with
  | zero => intro x1 t hf; exact absurd hf (by unfold f_MO_readParameters_9; exact fun h => nomatch h)
  | succ k ih =>
    intro x1 t hf H locs ls w hl
    unfold f_MO_readParameters_9 at hf
    refine lv_aload_n hx hb d_MO_readParameters_9 rfl (lv_at hl 0 rfl) ?_
    refine mz_get E w 0 62 (v := .int (mz_gI t 0 62)) (by decide) rfl rfl ii_11 (by decide) (Nat.le_of_ble_eq_true rfl) k_1245 rfl d_MO_readParameters_10 ?_
    refine lv_if_eq (tgt := 228) hx hb d_MO_readParameters_13 (by decide) (fun hc4 => ?_) (fun hc4 => ?_)
    · have hf := mz_t hc4 hf
      obtain rfl := Option.some.inj hf
      exact mz_vret E w rfl d_MO_readParameters_228
    · have hf := mz_f hc4 hf
      refine lv_aload_n hx hb d_MO_readParameters_16 rfl (lv_at hl 0 rfl) ?_
      refine mz_get E w 0 61 (v := .int (mz_gI t 0 61)) (by decide) rfl rfl ii_11 (by decide) (Nat.le_of_ble_eq_true rfl) k_1244 rfl d_MO_readParameters_17 ?_
      refine lv_aload_n hx hb d_MO_readParameters_20 rfl (lv_at hl 0 rfl) ?_
      refine mz_get E w 0 60 (v := .int (mz_gI t 0 60)) (by decide) rfl rfl ii_11 (by decide) (Nat.le_of_ble_eq_true rfl) k_1243 rfl d_MO_readParameters_21 ?_
      refine lv_icmp_ge (tgt := 228) hx hb d_MO_readParameters_24 (by decide) (fun hc5 => ?_) (fun hc5 => ?_)
      · have hf := mz_t hc5 hf
        obtain rfl := Option.some.inj hf
        exact mz_vret E w rfl d_MO_readParameters_228
      · have hf := mz_f hc5 hf
        refine lv_aload_n hx hb d_MO_readParameters_27 rfl (lv_at hl 0 rfl) ?_
        refine mz_get E w 0 75 (v := .int (mz_gI t 0 75)) (by decide) rfl rfl ii_11 (by decide) (Nat.le_of_ble_eq_true rfl) k_1258 rfl d_MO_readParameters_28 ?_
        refine lv_if_le (tgt := 40) hx hb d_MO_readParameters_31 (by decide) (fun hc6 => ?_) (fun hc6 => ?_)
        · have hf := mz_t hc6 hf
          exact b_MO_readParameters_40 E n (f_MO_readParameters_9 n k) ih x1 t hf _ _ _ w (lv_sub hl [0, 1] rfl)
        · have hf := mz_f hc6 hf
          refine lv_aload_n hx hb d_MO_readParameters_34 rfl (lv_at hl 0 rfl) ?_
          refine lv_bipush (v := (44 : Int32)) hx hb d_MO_readParameters_35 (by decide) ?_
          obtain ⟨q41, hq42, hf⟩ := mz_bd hf
          refine mz_callV E w (k := 0) (As := [.int (44 : Int32)]) (rest := []) (c_MO_sign hSK l n (44 : Int32) t q41 hq42) (by decide) rfl rfl k_1604 k_15 k_1601 k_1603 ks_80 hm_MO_sign ⟨⟨rfl, rfl⟩, Nat.le_of_ble_eq_true rfl, Nat.le_of_ble_eq_true rfl⟩ rfl hl.1 rfl (Nat.le_of_ble_eq_true rfl) d_MO_readParameters_37 ⟨Nat.zero_le _, Nat.zero_le _⟩ (st1 := []) rfl (fun H locs w => ?_)
          exact b_MO_readParameters_40 E n (f_MO_readParameters_9 n k) ih x1 q41 hf _ _ _ w (lv_sub hl [0, 1] rfl)
set_option maxRecDepth 100000 in
set_option maxHeartbeats 4000000 in
theorem c_MO_readParameters {SX : State → Heap → Prop} {dC : Nat → ClassId} {dI : Nat → Nat → Nat} {ad en : Nat → Nat} {ca : Nat → ClassId} (hSK : mz_SK SX ad 55) (l : Launch) (n : Nat) (x1 : Int32) (t : mz_St) (res : mz_St) (hf : f_MO_readParameters n x1 t = some res) : mz_C SX mz_tM 55 mz_cl dC dI ad en ca l y_MO_readParameters prog_15_method_48_code 3 none (r_MO_readParameters) [.ref (ad 0), .int x1] t none res := by
  unfold f_MO_readParameters at hf
  refine mz_met hSK (by decide) (Nat.le_of_ble_eq_true rfl) ?_
  intro p e s m args below meth c ls E w hl
  obtain ⟨hx, hb, hml, hown, hcx, -, -, hSX, -, -, -⟩ := id E
  have hl : lv_has ls 3 [(0, .ref (ad 0)), (1, .int x1)] := hl
  refine lv_aload_n hx hb d_MO_readParameters_0 rfl (lv_at hl 0 rfl) ?_
  refine lv_iconst (v := (0 : Int32)) hx hb d_MO_readParameters_1 (by decide) ?_
  refine mz_put E w 0 75 (v := (0 : Int32)) (by decide) rfl rfl ii_11 tk_11 nm_11 (by decide) (Nat.le_of_ble_eq_true rfl) k_1258 rfl (tk_11 75 (by decide)) rfl rfl rfl d_MO_readParameters_2 (fun H locs w => ?_)
  obtain ⟨t1, e_t1, hf⟩ := mz_lt hf
  rw [← e_t1] at w
  refine lv_aload_n hx hb d_MO_readParameters_5 rfl (lv_at hl 0 rfl) ?_
  obtain ⟨q2, hq3, hf⟩ := mz_bd hf
  refine mz_callV E w (k := 0) (As := []) (rest := []) (c_MO_blanks hSK l n t1 q2 hq3) (by decide) rfl rfl k_1549 k_15 k_1546 k_1548 ks_67 hm_MO_blanks ⟨⟨rfl, rfl⟩, Nat.le_of_ble_eq_true rfl, Nat.le_of_ble_eq_true rfl⟩ rfl hl.1 rfl (Nat.le_of_ble_eq_true rfl) d_MO_readParameters_6 ⟨Nat.zero_le _, Nat.zero_le _⟩ (st1 := []) rfl (fun H locs w => ?_)
  exact b_MO_readParameters_9 E n n x1 q2 hf _ _ _ w (lv_sub hl [0, 1] rfl)

/-! MacroHouseModel.macroOf(JJ)I -/
abbrev r_MO_macroOf : Room := { frames := 0, cells := 0, slots := 0, locals := 0 }
def f_MO_macroOf_46 (n : Nat) (K6 : Int64 → Int64 → Int32 → Int32 → mz_St → Option (Int32 × mz_St)) (x1 : Int64) (x3 : Int64) (x6 : Int32) (s0 : Int32) (t : mz_St) : Option (Int32 × mz_St) := K6 x1 x3 s0 (x6 + (1 : Int32)) t
def f_MO_macroOf_44 (n : Nat) (K6 : Int64 → Int64 → Int32 → Int32 → mz_St → Option (Int32 × mz_St)) (x1 : Int64) (x3 : Int64) (x5 : Int32) (x6 : Int32) (t : mz_St) : Option (Int32 × mz_St) := f_MO_macroOf_46 n K6 x1 x3 x6 x5 t
def f_MO_macroOf_6 (n : Nat) : Nat → Int64 → Int64 → Int32 → Int32 → mz_St → Option (Int32 × mz_St)
  | 0, _, _, _, _, _ => none
  | k + 1, x1, x3, x5, x6, t => if (mz_gI t 0 12) ≤ x6 then (some (x5, t)) else (if ¬ (x6 < 0 ∨ 16 ≤ x6.toNatClampNeg) then (if (lg_cmp (mz_gL t 4 x6.toNatClampNeg) x1) = 0 then (if ¬ (x6 < 0 ∨ 16 ≤ x6.toNatClampNeg) then (if (lg_cmp (mz_gL t 5 x6.toNatClampNeg) x3) = 0 then (f_MO_macroOf_46 n (f_MO_macroOf_6 n k) x1 x3 x6 x6 t) else (f_MO_macroOf_44 n (f_MO_macroOf_6 n k) x1 x3 x5 x6 t)) else none) else (f_MO_macroOf_44 n (f_MO_macroOf_6 n k) x1 x3 x5 x6 t)) else none)
def f_MO_macroOf (n : Nat) (x1 : Int64) (x3 : Int64) (t : mz_St) : Option (Int32 × mz_St) := f_MO_macroOf_6 n n x1 x3 (-1 : Int32) (0 : Int32) t
set_option maxRecDepth 100000 in
set_option maxHeartbeats 4000000 in
theorem b_MO_macroOf_46 {SX : State → Heap → Prop} {dC : Nat → ClassId} {dI : Nat → Nat → Nat} {ad en : Nat → Nat} {ca : Nat → ClassId} {p : Program} {l : Launch} {e : Env} {s : State} {m : MethodId} {args : Array Value} {below : List Frame} {meth : Method} {c : Code} {res : (Int32 × mz_St)} (E : mz_En SX 55 mz_cl dC dI ad ca p s m meth c prog_15_method_46_code 7 "MacroHouseModel" (some (.int))) (n : Nat) (K6 : Int64 → Int64 → Int32 → Int32 → mz_St → Option (Int32 × mz_St)) (hK6 : ∀ (x1 : Int64) (x3 : Int64) (x5 : Int32) (x6 : Int32) (t : mz_St), K6 x1 x3 x5 x6 t = some res → ∀ (H : Heap) (locs : List Loc) (ls : Array Slot), mz_Wd mz_tM 55 mz_cl dC dI ad en ca s t H locs → lv_has ls 7 [(0, .ref (ad 0)), (1, .long x1), (3, .long x3), (5, .int x5), (6, .int x6)] → W p l e (r_MO_macroOf) s m args below meth c H locs 0 0 (MQ below (mz_Q SX mz_tM 55 mz_cl dC dI ad en ca (some (.int res.1)) res.2) args s 0 0 (mz_A ad 55)) (F0 m 6 ls [])) : ∀ (x1 : Int64) (x3 : Int64) (x6 : Int32) (s0 : Int32) (t : mz_St), f_MO_macroOf_46 n K6 x1 x3 x6 s0 t = some res → ∀ (H : Heap) (locs : List Loc) (ls : Array Slot), mz_Wd mz_tM 55 mz_cl dC dI ad en ca s t H locs → lv_has ls 7 [(0, .ref (ad 0)), (1, .long x1), (3, .long x3), (6, .int x6)] → W p l e (r_MO_macroOf) s m args below meth c H locs 0 0 (MQ below (mz_Q SX mz_tM 55 mz_cl dC dI ad en ca (some (.int res.1)) res.2) args s 0 0 (mz_A ad 55)) (F0 m 46 ls [.int s0]) := by
  obtain ⟨hx, hb, hml, hown, hcx, -, -, hSX, -, -, hSK⟩ := id E
  intro x1 x3 x6 s0 t hf H locs ls w hl
  unfold f_MO_macroOf_46 at hf
  refine lv_istore (lv' := [(5, .int s0), (0, .ref (ad 0)), (1, .long x1), (3, .long x3), (6, .int x6)]) hx hb d_MO_macroOf_46 hl (by decide) rfl (fun ls hl => ?_)
  refine lv_iinc (v := (x6 + (1 : Int32))) (lv' := [(6, .int (x6 + (1 : Int32))), (5, .int s0), (0, .ref (ad 0)), (1, .long x1), (3, .long x3)]) hx hb d_MO_macroOf_48 hl (k := 4) rfl rfl (by decide) rfl (fun ls hl => ?_)
  refine lv_goto (tgt := 6) hx hb d_MO_macroOf_51 (by decide) ?_
  exact hK6 x1 x3 s0 (x6 + (1 : Int32)) t hf _ _ _ w (lv_sub hl [2, 3, 4, 1, 0] rfl)
set_option maxRecDepth 100000 in
set_option maxHeartbeats 4000000 in
theorem b_MO_macroOf_44 {SX : State → Heap → Prop} {dC : Nat → ClassId} {dI : Nat → Nat → Nat} {ad en : Nat → Nat} {ca : Nat → ClassId} {p : Program} {l : Launch} {e : Env} {s : State} {m : MethodId} {args : Array Value} {below : List Frame} {meth : Method} {c : Code} {res : (Int32 × mz_St)} (E : mz_En SX 55 mz_cl dC dI ad ca p s m meth c prog_15_method_46_code 7 "MacroHouseModel" (some (.int))) (n : Nat) (K6 : Int64 → Int64 → Int32 → Int32 → mz_St → Option (Int32 × mz_St)) (hK6 : ∀ (x1 : Int64) (x3 : Int64) (x5 : Int32) (x6 : Int32) (t : mz_St), K6 x1 x3 x5 x6 t = some res → ∀ (H : Heap) (locs : List Loc) (ls : Array Slot), mz_Wd mz_tM 55 mz_cl dC dI ad en ca s t H locs → lv_has ls 7 [(0, .ref (ad 0)), (1, .long x1), (3, .long x3), (5, .int x5), (6, .int x6)] → W p l e (r_MO_macroOf) s m args below meth c H locs 0 0 (MQ below (mz_Q SX mz_tM 55 mz_cl dC dI ad en ca (some (.int res.1)) res.2) args s 0 0 (mz_A ad 55)) (F0 m 6 ls [])) : ∀ (x1 : Int64) (x3 : Int64) (x5 : Int32) (x6 : Int32) (t : mz_St), f_MO_macroOf_44 n K6 x1 x3 x5 x6 t = some res → ∀ (H : Heap) (locs : List Loc) (ls : Array Slot), mz_Wd mz_tM 55 mz_cl dC dI ad en ca s t H locs → lv_has ls 7 [(0, .ref (ad 0)), (1, .long x1), (3, .long x3), (5, .int x5), (6, .int x6)] → W p l e (r_MO_macroOf) s m args below meth c H locs 0 0 (MQ below (mz_Q SX mz_tM 55 mz_cl dC dI ad en ca (some (.int res.1)) res.2) args s 0 0 (mz_A ad 55)) (F0 m 44 ls []) := by
  obtain ⟨hx, hb, hml, hown, hcx, -, -, hSX, -, -, hSK⟩ := id E
  intro x1 x3 x5 x6 t hf H locs ls w hl
  unfold f_MO_macroOf_44 at hf
  refine lv_iload hx hb d_MO_macroOf_44 (lv_at hl 3 rfl) ?_
  exact b_MO_macroOf_46 E n K6 hK6 x1 x3 x6 x5 t hf _ _ _ w (lv_sub hl [0, 1, 2, 4] rfl)
set_option maxRecDepth 100000 in
set_option maxHeartbeats 4000000 in
theorem b_MO_macroOf_6 {SX : State → Heap → Prop} {dC : Nat → ClassId} {dI : Nat → Nat → Nat} {ad en : Nat → Nat} {ca : Nat → ClassId} {p : Program} {l : Launch} {e : Env} {s : State} {m : MethodId} {args : Array Value} {below : List Frame} {meth : Method} {c : Code} {res : (Int32 × mz_St)} (E : mz_En SX 55 mz_cl dC dI ad ca p s m meth c prog_15_method_46_code 7 "MacroHouseModel" (some (.int))) (n : Nat) (k : Nat) : ∀ (x1 : Int64) (x3 : Int64) (x5 : Int32) (x6 : Int32) (t : mz_St), f_MO_macroOf_6 n k x1 x3 x5 x6 t = some res → ∀ (H : Heap) (locs : List Loc) (ls : Array Slot), mz_Wd mz_tM 55 mz_cl dC dI ad en ca s t H locs → lv_has ls 7 [(0, .ref (ad 0)), (1, .long x1), (3, .long x3), (5, .int x5), (6, .int x6)] → W p l e (r_MO_macroOf) s m args below meth c H locs 0 0 (MQ below (mz_Q SX mz_tM 55 mz_cl dC dI ad en ca (some (.int res.1)) res.2) args s 0 0 (mz_A ad 55)) (F0 m 6 ls []) := by
  obtain ⟨hx, hb, hml, hown, hcx, -, -, hSX, -, -, hSK⟩ := id E
  induction k with
  | zero => intro x1 x3 x5 x6 t hf; exact absurd hf (by unfold f_MO_macroOf_6; exact fun h => nomatch h)
  | succ k ih =>
    intro x1 x3 x5 x6 t hf H locs ls w hl
    unfold f_MO_macroOf_6 at hf
    refine lv_iload hx hb d_MO_macroOf_6 (lv_at hl 4 rfl) ?_
    refine lv_aload_n hx hb d_MO_macroOf_8 rfl (lv_at hl 0 rfl) ?_
    refine mz_get E w 0 12 (v := .int (mz_gI t 0 12)) (by decide) rfl rfl ii_11 (by decide) (Nat.le_of_ble_eq_true rfl) k_1195 rfl d_MO_macroOf_9 ?_
    refine lv_icmp_ge (tgt := 54) hx hb d_MO_macroOf_12 (by decide) (fun hc1 => ?_) (fun hc1 => ?_)
    · have hf := mz_t hc1 hf
      refine lv_iload hx hb d_MO_macroOf_54 (lv_at hl 3 rfl) ?_
      obtain rfl := Option.some.inj hf
      exact mz_iret E w rfl d_MO_macroOf_56
    · have hf := mz_f hc1 hf
      refine lv_aload_n hx hb d_MO_macroOf_15 rfl (lv_at hl 0 rfl) ?_
      refine mz_get E w 0 13 (v := .ref (ad 4)) (by decide) rfl rfl ii_11 (by decide) (Nat.le_of_ble_eq_true rfl) k_1196 rfl d_MO_macroOf_16 ?_
      refine lv_iload hx hb d_MO_macroOf_19 (lv_at hl 4 rfl) ?_
      obtain ⟨hi2, hf⟩ := mz_gd hf
      refine mz_lald E w 4 (by decide) rfl hi2 d_MO_macroOf_21 ?_
      refine lv_lload_n hx hb d_MO_macroOf_22 rfl (lv_at hl 1 rfl) ?_
      refine W.lcmp hx hb d_MO_macroOf_23 ?_
      refine lv_if_ne (tgt := 44) hx hb d_MO_macroOf_24 (by decide) (fun hc3 => ?_) (fun hc3 => ?_)
      · have hf := mz_f hc3 hf
        exact b_MO_macroOf_44 E n (f_MO_macroOf_6 n k) ih x1 x3 x5 x6 t hf _ _ _ w (lv_sub hl [0, 1, 2, 3, 4] rfl)
      · have hf := mz_t hc3 hf
        refine lv_aload_n hx hb d_MO_macroOf_27 rfl (lv_at hl 0 rfl) ?_
        refine mz_get E w 0 14 (v := .ref (ad 5)) (by decide) rfl rfl ii_11 (by decide) (Nat.le_of_ble_eq_true rfl) k_1197 rfl d_MO_macroOf_28 ?_
        refine lv_iload hx hb d_MO_macroOf_31 (lv_at hl 4 rfl) ?_
        obtain ⟨hi4, hf⟩ := mz_gd hf
        refine mz_lald E w 5 (by decide) rfl hi4 d_MO_macroOf_33 ?_
        refine lv_lload_n hx hb d_MO_macroOf_34 rfl (lv_at hl 2 rfl) ?_
        refine W.lcmp hx hb d_MO_macroOf_35 ?_
        refine lv_if_ne (tgt := 44) hx hb d_MO_macroOf_36 (by decide) (fun hc5 => ?_) (fun hc5 => ?_)
        · have hf := mz_f hc5 hf
          exact b_MO_macroOf_44 E n (f_MO_macroOf_6 n k) ih x1 x3 x5 x6 t hf _ _ _ w (lv_sub hl [0, 1, 2, 3, 4] rfl)
        · have hf := mz_t hc5 hf
          refine lv_iload hx hb d_MO_macroOf_39 (lv_at hl 4 rfl) ?_
          refine lv_goto (tgt := 46) hx hb d_MO_macroOf_41 (by decide) ?_
          exact b_MO_macroOf_46 E n (f_MO_macroOf_6 n k) ih x1 x3 x6 x6 t hf _ _ _ w (lv_sub hl [0, 1, 2, 4] rfl)
set_option maxRecDepth 100000 in
set_option maxHeartbeats 4000000 in
theorem c_MO_macroOf {SX : State → Heap → Prop} {dC : Nat → ClassId} {dI : Nat → Nat → Nat} {ad en : Nat → Nat} {ca : Nat → ClassId} (hSK : mz_SK SX ad 55) (l : Launch) (n : Nat) (x1 : Int64) (x3 : Int64) (t : mz_St) (res : (Int32 × mz_St)) (hf : f_MO_macroOf n x1 x3 t = some res) : mz_C SX mz_tM 55 mz_cl dC dI ad en ca l y_MO_macroOf prog_15_method_46_code 7 (some (.int)) (r_MO_macroOf) [.ref (ad 0), .long x1, .long x3] t (some (.int res.1)) res.2 := by
  unfold f_MO_macroOf at hf
  refine mz_met hSK (by decide) (Nat.le_of_ble_eq_true rfl) ?_
  intro p e s m args below meth c ls E w hl
  obtain ⟨hx, hb, hml, hown, hcx, -, -, hSX, -, -, -⟩ := id E
  have hl : lv_has ls 7 [(0, .ref (ad 0)), (1, .long x1), (3, .long x3)] := hl
  refine lv_iconst (v := (-1 : Int32)) hx hb d_MO_macroOf_0 (by decide) ?_
  refine lv_istore (lv' := [(5, .int (-1 : Int32)), (0, .ref (ad 0)), (1, .long x1), (3, .long x3)]) hx hb d_MO_macroOf_1 hl (by decide) rfl (fun ls hl => ?_)
  refine lv_iconst (v := (0 : Int32)) hx hb d_MO_macroOf_3 (by decide) ?_
  refine lv_istore (lv' := [(6, .int (0 : Int32)), (5, .int (-1 : Int32)), (0, .ref (ad 0)), (1, .long x1), (3, .long x3)]) hx hb d_MO_macroOf_4 hl (by decide) rfl (fun ls hl => ?_)
  exact b_MO_macroOf_6 E n n x1 x3 (-1 : Int32) (0 : Int32) t hf _ _ _ w (lv_sub hl [2, 3, 4, 1, 0] rfl)

/-! MacroHouseModel.define(I)V -/
abbrev r_MO_define : Room := { frames := 4, cells := 0, slots := 0, locals := 83 }
def f_MO_define_317 (n : Nat) : Nat → Int32 → mz_St → Option mz_St
  | 0, _, _ => none
  | k + 1, x9, t => if (mz_gI t 0 75) ≤ x9 then (mz_let (mz_pI t 0 12 ((mz_gI t 0 12) + (1 : Int32))) fun t35 => some t35) else (if ¬ (x9 < 0 ∨ 8 ≤ x9.toNatClampNeg) then (if ¬ ((((6 : Int32) * (mz_gI t 0 12)) + x9) < 0 ∨ 96 ≤ (((6 : Int32) * (mz_gI t 0 12)) + x9).toNatClampNeg) then (mz_let (mz_pL t 11 (((6 : Int32) * (mz_gI t 0 12)) + x9).toNatClampNeg (mz_gL t 51 x9.toNatClampNeg)) fun t38 => if ¬ (x9 < 0 ∨ 8 ≤ x9.toNatClampNeg) then (if ¬ ((((6 : Int32) * (mz_gI t38 0 12)) + x9) < 0 ∨ 96 ≤ (((6 : Int32) * (mz_gI t38 0 12)) + x9).toNatClampNeg) then (mz_let (mz_pL t38 12 (((6 : Int32) * (mz_gI t38 0 12)) + x9).toNatClampNeg (mz_gL t38 52 x9.toNatClampNeg)) fun t41 => if ¬ (x9 < 0 ∨ 8 ≤ x9.toNatClampNeg) then (if ¬ ((((6 : Int32) * (mz_gI t41 0 12)) + x9) < 0 ∨ 96 ≤ (((6 : Int32) * (mz_gI t41 0 12)) + x9).toNatClampNeg) then (mz_let (mz_pI t41 13 (((6 : Int32) * (mz_gI t41 0 12)) + x9).toNatClampNeg (mz_gI t41 53 x9.toNatClampNeg)) fun t44 => if ¬ (x9 < 0 ∨ 8 ≤ x9.toNatClampNeg) then (if ¬ ((((6 : Int32) * (mz_gI t44 0 12)) + x9) < 0 ∨ 96 ≤ (((6 : Int32) * (mz_gI t44 0 12)) + x9).toNatClampNeg) then (mz_let (mz_pI t44 14 (((6 : Int32) * (mz_gI t44 0 12)) + x9).toNatClampNeg (mz_gI t44 54 x9.toNatClampNeg)) fun t47 => (f_MO_define_317 n k) (x9 + (1 : Int32)) t47) else none) else none) else none) else none) else none) else none) else none) else none)
def f_MO_define_220 (n : Nat) (x1 : Int32) (x2 : Int64) (x4 : Int64) (x6 : Int32) (x7 : Int32) (t : mz_St) : Option mz_St := if (mz_gI t 0 6) ≤ 0 then (if ¬ ((0 : Int32) < 0 ∨ 14 ≤ (0 : Int32).toNatClampNeg) then (mz_let (mz_pI t 25 (0 : Int32).toNatClampNeg x7) fun t19 => if ¬ ((mz_gI t19 0 12) < 0 ∨ 16 ≤ (mz_gI t19 0 12).toNatClampNeg) then (mz_let (mz_pL t19 4 (mz_gI t19 0 12).toNatClampNeg x2) fun t21 => if ¬ ((mz_gI t21 0 12) < 0 ∨ 16 ≤ (mz_gI t21 0 12).toNatClampNeg) then (mz_let (mz_pL t21 5 (mz_gI t21 0 12).toNatClampNeg x4) fun t23 => if ¬ ((mz_gI t23 0 12) < 0 ∨ 16 ≤ (mz_gI t23 0 12).toNatClampNeg) then (mz_let (mz_pI t23 6 (mz_gI t23 0 12).toNatClampNeg x6) fun t25 => if ¬ ((mz_gI t25 0 12) < 0 ∨ 16 ≤ (mz_gI t25 0 12).toNatClampNeg) then (mz_let (mz_pI t25 7 (mz_gI t25 0 12).toNatClampNeg (x7 - (1 : Int32))) fun t27 => if ¬ ((mz_gI t27 0 12) < 0 ∨ 16 ≤ (mz_gI t27 0 12).toNatClampNeg) then (mz_let (mz_pI t27 8 (mz_gI t27 0 12).toNatClampNeg x1) fun t29 => if ¬ ((mz_gI t29 0 12) < 0 ∨ 16 ≤ (mz_gI t29 0 12).toNatClampNeg) then (mz_let (mz_pI t29 9 (mz_gI t29 0 12).toNatClampNeg (0 : Int32)) fun t31 => if ¬ ((mz_gI t31 0 12) < 0 ∨ 16 ≤ (mz_gI t31 0 12).toNatClampNeg) then (mz_let (mz_pI t31 10 (mz_gI t31 0 12).toNatClampNeg (mz_gI t31 0 75)) fun t33 => f_MO_define_317 n n (0 : Int32) t33) else none) else none) else none) else none) else none) else none) else none) else none) else (some t)
def f_MO_define_194 (n : Nat) (x1 : Int32) (x2 : Int64) (x4 : Int64) (x6 : Int32) (x7 : Int32) (t : mz_St) : Option mz_St := if (mz_gI t 0 6) = 0 then (if (mz_gI t 0 12) = (16 : Int32) then ((f_MO_fail n (6 : Int32) (mz_gI t 0 63) t).bind fun q49 => f_MO_define_220 n x1 x2 x4 x6 x7 q49) else (f_MO_define_220 n x1 x2 x4 x6 x7 t)) else (f_MO_define_220 n x1 x2 x4 x6 x7 t)
def f_MO_define_180 (n : Nat) (x1 : Int32) (x2 : Int64) (x4 : Int64) (x6 : Int32) (x7 : Int32) (x8 : Int32) (t : mz_St) : Option mz_St := if x8 = 0 then ((f_MO_fail n (5 : Int32) (mz_gI t 0 63) t).bind fun q51 => f_MO_define_194 n x1 x2 x4 x6 x7 q51) else (f_MO_define_194 n x1 x2 x4 x6 x7 t)
def f_MO_define_172 (n : Nat) (K111 : Int32 → Int64 → Int64 → Int32 → Int32 → Int32 → mz_St → Option mz_St) (x1 : Int32) (x2 : Int64) (x4 : Int64) (x6 : Int32) (x7 : Int32) (s0 : Int32) (t : mz_St) : Option mz_St := K111 x1 x2 x4 x6 (x7 + (1 : Int32)) s0 t
def f_MO_define_160 (n : Nat) (K111 : Int32 → Int64 → Int64 → Int32 → Int32 → Int32 → mz_St → Option mz_St) (x1 : Int32) (x2 : Int64) (x4 : Int64) (x6 : Int32) (x7 : Int32) (x9 : Int32) (t : mz_St) : Option mz_St := if x9 = (9 : Int32) then (f_MO_define_172 n K111 x1 x2 x4 x6 x7 (1 : Int32) t) else (f_MO_define_172 n K111 x1 x2 x4 x6 x7 (0 : Int32) t)
def f_MO_define_111 (n : Nat) : Nat → Int32 → Int64 → Int64 → Int32 → Int32 → Int32 → mz_St → Option mz_St
  | 0, _, _, _, _, _, _, _ => none
  | k + 1, x1, x2, x4, x6, x7, x8, t => if x8 = 0 then (if (mz_gI t 0 3) ≤ x7 then (f_MO_define_180 n x1 x2 x4 x6 x7 x8 t) else (if (mz_gI t 0 6) = 0 then ((f_MO_look n x7 t).bind fun q55 => (f_MO_firstOf n x7 q55).bind fun q57 => if q57.1 = (8 : Int32) then ((f_MO_fail n (5 : Int32) x7 q57.2).bind fun q61 => f_MO_define_160 n (f_MO_define_111 n k) x1 x2 x4 x6 x7 q57.1 q61) else (f_MO_define_160 n (f_MO_define_111 n k) x1 x2 x4 x6 x7 q57.1 q57.2)) else (f_MO_define_180 n x1 x2 x4 x6 x7 x8 t))) else (f_MO_define_180 n x1 x2 x4 x6 x7 x8 t)
def f_MO_define_34 (n : Nat) (x1 : Int32) (x2 : Int64) (x4 : Int64) (s1 : Int32) (t : mz_St) : Option mz_St := (f_MO_readParameters n s1 t).bind fun q4 => (f_MO_lineEnds n q4).bind fun q6 => if (mz_gI q6 0 62) = 0 then ((f_MO_fail n (1 : Int32) (mz_gI q6 0 63) q6).bind fun q67 => some q67) else ((f_MO_macroOf n x2 x4 q6).bind fun q9 => if q9.1 < 0 then (if (mz_gI q9.2 0 34) ≤ (1 : Int32) then (if ¬ ((0 : Int32) < 0 ∨ 14 ≤ (0 : Int32).toNatClampNeg) then (f_MO_define_111 n n x1 x2 x4 (mz_gI q9.2 25 (0 : Int32).toNatClampNeg) (mz_gI q9.2 25 (0 : Int32).toNatClampNeg) (0 : Int32) q9.2) else none) else ((f_MO_fail n (5 : Int32) (mz_gI q9.2 0 63) q9.2).bind fun q63 => some q63)) else ((f_MO_fail n (2 : Int32) (mz_gI q9.2 0 63) q9.2).bind fun q65 => some q65))
def f_MO_define (n : Nat) (x1 : Int32) (t : mz_St) : Option mz_St := (f_MO_word n t).bind fun q1 => if (mz_gI q1 0 34) = (1 : Int32) then (if ¬ (x1 < 0 ∨ 3001 ≤ x1.toNatClampNeg) then (f_MO_define_34 n x1 (mz_gL q1 0 65) (mz_gL q1 0 66) (mz_gI q1 2 x1.toNatClampNeg) q1) else none) else (f_MO_define_34 n x1 (mz_gL q1 0 65) (mz_gL q1 0 66) (0 : Int32) q1)
set_option maxRecDepth 100000 in
set_option maxHeartbeats 4000000 in
theorem b_MO_define_317 {SX : State → Heap → Prop} {dC : Nat → ClassId} {dI : Nat → Nat → Nat} {ad en : Nat → Nat} {ca : Nat → ClassId} {p : Program} {l : Launch} {e : Env} {s : State} {m : MethodId} {args : Array Value} {below : List Frame} {meth : Method} {c : Code} {res : mz_St} (E : mz_En SX 55 mz_cl dC dI ad ca p s m meth c prog_15_method_50_code 10 "MacroHouseModel" none) (n : Nat) (k : Nat) : ∀ (x9 : Int32) (t : mz_St), f_MO_define_317 n k x9 t = some res → ∀ (H : Heap) (locs : List Loc) (ls : Array Slot), mz_Wd mz_tM 55 mz_cl dC dI ad en ca s t H locs → lv_has ls 10 [(0, .ref (ad 0)), (9, .int x9)] → W p l e (r_MO_define) s m args below meth c H locs 0 0 (MQ below (mz_Q SX mz_tM 55 mz_cl dC dI ad en ca none res) args s 0 0 (mz_A ad 55)) (F0 m 317 ls []) := by
  obtain ⟨hx, hb, hml, hown, hcx, -, -, hSX, -, -, hSK⟩ := id E
  induction k with
  | zero => intro x9 t hf; exact absurd hf (by unfold f_MO_define_317; exact fun h => nomatch h)
  | succ k ih =>
    intro x9 t hf H locs ls w hl
    unfold f_MO_define_317 at hf
    refine lv_iload hx hb d_MO_define_317 (lv_at hl 1 rfl) ?_
    refine lv_aload_n hx hb d_MO_define_319 rfl (lv_at hl 0 rfl) ?_
    refine mz_get E w 0 75 (v := .int (mz_gI t 0 75)) (by decide) rfl rfl ii_11 (by decide) (Nat.le_of_ble_eq_true rfl) k_1258 rfl d_MO_define_320 ?_
    refine lv_icmp_ge (tgt := 420) hx hb d_MO_define_323 (by decide) (fun hc34 => ?_) (fun hc34 => ?_)
    · have hf := mz_t hc34 hf
      refine lv_aload_n hx hb d_MO_define_420 rfl (lv_at hl 0 rfl) ?_
      refine lv_dup hx hb d_MO_define_421 rfl ?_
      refine mz_get E w 0 12 (v := .int (mz_gI t 0 12)) (by decide) rfl rfl ii_11 (by decide) (Nat.le_of_ble_eq_true rfl) k_1195 rfl d_MO_define_422 ?_
      refine lv_iconst (v := (1 : Int32)) hx hb d_MO_define_425 (by decide) ?_
      refine lv_iadd hx hb d_MO_define_426 ?_
      refine mz_put E w 0 12 (v := ((mz_gI t 0 12) + (1 : Int32))) (by decide) rfl rfl ii_11 tk_11 nm_11 (by decide) (Nat.le_of_ble_eq_true rfl) k_1195 rfl (tk_11 12 (by decide)) rfl rfl rfl d_MO_define_427 (fun H locs w => ?_)
      obtain ⟨t35, e_t35, hf⟩ := mz_lt hf
      rw [← e_t35] at w
      obtain rfl := Option.some.inj hf
      exact mz_vret E w rfl d_MO_define_430
    · have hf := mz_f hc34 hf
      refine lv_aload_n hx hb d_MO_define_326 rfl (lv_at hl 0 rfl) ?_
      refine mz_get E w 0 20 (v := .ref (ad 11)) (by decide) rfl rfl ii_11 (by decide) (Nat.le_of_ble_eq_true rfl) k_1203 rfl d_MO_define_327 ?_
      refine lv_bipush (v := (6 : Int32)) hx hb d_MO_define_330 (by decide) ?_
      refine lv_aload_n hx hb d_MO_define_332 rfl (lv_at hl 0 rfl) ?_
      refine mz_get E w 0 12 (v := .int (mz_gI t 0 12)) (by decide) rfl rfl ii_11 (by decide) (Nat.le_of_ble_eq_true rfl) k_1195 rfl d_MO_define_333 ?_
      refine lv_imul hx hb d_MO_define_336 ?_
      refine lv_iload hx hb d_MO_define_337 (lv_at hl 1 rfl) ?_
      refine lv_iadd hx hb d_MO_define_339 ?_
      refine lv_aload_n hx hb d_MO_define_340 rfl (lv_at hl 0 rfl) ?_
      refine mz_get E w 0 76 (v := .ref (ad 51)) (by decide) rfl rfl ii_11 (by decide) (Nat.le_of_ble_eq_true rfl) k_1259 rfl d_MO_define_341 ?_
      refine lv_iload hx hb d_MO_define_344 (lv_at hl 1 rfl) ?_
      obtain ⟨hi36, hf⟩ := mz_gd hf
      refine mz_lald E w 51 (by decide) rfl hi36 d_MO_define_346 ?_
      obtain ⟨hi37, hf⟩ := mz_gd hf
      refine mz_last E w 11 (x := (mz_gL t 51 x9.toNatClampNeg)) (by decide) rfl hi37 d_MO_define_347 (fun H locs w => ?_)
      obtain ⟨t38, e_t38, hf⟩ := mz_lt hf
      rw [← e_t38] at w
      refine lv_aload_n hx hb d_MO_define_348 rfl (lv_at hl 0 rfl) ?_
      refine mz_get E w 0 21 (v := .ref (ad 12)) (by decide) rfl rfl ii_11 (by decide) (Nat.le_of_ble_eq_true rfl) k_1204 rfl d_MO_define_349 ?_
      refine lv_bipush (v := (6 : Int32)) hx hb d_MO_define_352 (by decide) ?_
      refine lv_aload_n hx hb d_MO_define_354 rfl (lv_at hl 0 rfl) ?_
      refine mz_get E w 0 12 (v := .int (mz_gI t38 0 12)) (by decide) rfl rfl ii_11 (by decide) (Nat.le_of_ble_eq_true rfl) k_1195 rfl d_MO_define_355 ?_
      refine lv_imul hx hb d_MO_define_358 ?_
      refine lv_iload hx hb d_MO_define_359 (lv_at hl 1 rfl) ?_
      refine lv_iadd hx hb d_MO_define_361 ?_
      refine lv_aload_n hx hb d_MO_define_362 rfl (lv_at hl 0 rfl) ?_
      refine mz_get E w 0 77 (v := .ref (ad 52)) (by decide) rfl rfl ii_11 (by decide) (Nat.le_of_ble_eq_true rfl) k_1260 rfl d_MO_define_363 ?_
      refine lv_iload hx hb d_MO_define_366 (lv_at hl 1 rfl) ?_
      obtain ⟨hi39, hf⟩ := mz_gd hf
      refine mz_lald E w 52 (by decide) rfl hi39 d_MO_define_368 ?_
      obtain ⟨hi40, hf⟩ := mz_gd hf
      refine mz_last E w 12 (x := (mz_gL t38 52 x9.toNatClampNeg)) (by decide) rfl hi40 d_MO_define_369 (fun H locs w => ?_)
      obtain ⟨t41, e_t41, hf⟩ := mz_lt hf
      rw [← e_t41] at w
      refine lv_aload_n hx hb d_MO_define_370 rfl (lv_at hl 0 rfl) ?_
      refine mz_get E w 0 22 (v := .ref (ad 13)) (by decide) rfl rfl ii_11 (by decide) (Nat.le_of_ble_eq_true rfl) k_1205 rfl d_MO_define_371 ?_
      refine lv_bipush (v := (6 : Int32)) hx hb d_MO_define_374 (by decide) ?_
      refine lv_aload_n hx hb d_MO_define_376 rfl (lv_at hl 0 rfl) ?_
      refine mz_get E w 0 12 (v := .int (mz_gI t41 0 12)) (by decide) rfl rfl ii_11 (by decide) (Nat.le_of_ble_eq_true rfl) k_1195 rfl d_MO_define_377 ?_
      refine lv_imul hx hb d_MO_define_380 ?_
      refine lv_iload hx hb d_MO_define_381 (lv_at hl 1 rfl) ?_
      refine lv_iadd hx hb d_MO_define_383 ?_
      refine lv_aload_n hx hb d_MO_define_384 rfl (lv_at hl 0 rfl) ?_
      refine mz_get E w 0 78 (v := .ref (ad 53)) (by decide) rfl rfl ii_11 (by decide) (Nat.le_of_ble_eq_true rfl) k_1261 rfl d_MO_define_385 ?_
      refine lv_iload hx hb d_MO_define_388 (lv_at hl 1 rfl) ?_
      obtain ⟨hi42, hf⟩ := mz_gd hf
      refine mz_iald E w 53 (by decide) rfl hi42 d_MO_define_390 ?_
      obtain ⟨hi43, hf⟩ := mz_gd hf
      refine mz_iast E w 13 (x := (mz_gI t41 53 x9.toNatClampNeg)) (by decide) rfl hi43 d_MO_define_391 (fun H locs w => ?_)
      obtain ⟨t44, e_t44, hf⟩ := mz_lt hf
      rw [← e_t44] at w
      refine lv_aload_n hx hb d_MO_define_392 rfl (lv_at hl 0 rfl) ?_
      refine mz_get E w 0 23 (v := .ref (ad 14)) (by decide) rfl rfl ii_11 (by decide) (Nat.le_of_ble_eq_true rfl) k_1206 rfl d_MO_define_393 ?_
      refine lv_bipush (v := (6 : Int32)) hx hb d_MO_define_396 (by decide) ?_
      refine lv_aload_n hx hb d_MO_define_398 rfl (lv_at hl 0 rfl) ?_
      refine mz_get E w 0 12 (v := .int (mz_gI t44 0 12)) (by decide) rfl rfl ii_11 (by decide) (Nat.le_of_ble_eq_true rfl) k_1195 rfl d_MO_define_399 ?_
      refine lv_imul hx hb d_MO_define_402 ?_
      refine lv_iload hx hb d_MO_define_403 (lv_at hl 1 rfl) ?_
      refine lv_iadd hx hb d_MO_define_405 ?_
      refine lv_aload_n hx hb d_MO_define_406 rfl (lv_at hl 0 rfl) ?_
      refine mz_get E w 0 79 (v := .ref (ad 54)) (by decide) rfl rfl ii_11 (by decide) (Nat.le_of_ble_eq_true rfl) k_1262 rfl d_MO_define_407 ?_
      refine lv_iload hx hb d_MO_define_410 (lv_at hl 1 rfl) ?_
      obtain ⟨hi45, hf⟩ := mz_gd hf
      refine mz_iald E w 54 (by decide) rfl hi45 d_MO_define_412 ?_
      obtain ⟨hi46, hf⟩ := mz_gd hf
      refine mz_iast E w 14 (x := (mz_gI t44 54 x9.toNatClampNeg)) (by decide) rfl hi46 d_MO_define_413 (fun H locs w => ?_)
      obtain ⟨t47, e_t47, hf⟩ := mz_lt hf
      rw [← e_t47] at w
      refine lv_iinc (v := (x9 + (1 : Int32))) (lv' := [(9, .int (x9 + (1 : Int32))), (0, .ref (ad 0))]) hx hb d_MO_define_414 hl (k := 1) rfl rfl (by decide) rfl (fun ls hl => ?_)
      refine lv_goto (tgt := 317) hx hb d_MO_define_417 (by decide) ?_
      exact ih (x9 + (1 : Int32)) t47 hf _ _ _ w (lv_sub hl [1, 0] rfl)
set_option maxRecDepth 100000 in
set_option maxHeartbeats 4000000 in
theorem b_MO_define_220 {SX : State → Heap → Prop} {dC : Nat → ClassId} {dI : Nat → Nat → Nat} {ad en : Nat → Nat} {ca : Nat → ClassId} {p : Program} {l : Launch} {e : Env} {s : State} {m : MethodId} {args : Array Value} {below : List Frame} {meth : Method} {c : Code} {res : mz_St} (E : mz_En SX 55 mz_cl dC dI ad ca p s m meth c prog_15_method_50_code 10 "MacroHouseModel" none) (n : Nat) : ∀ (x1 : Int32) (x2 : Int64) (x4 : Int64) (x6 : Int32) (x7 : Int32) (t : mz_St), f_MO_define_220 n x1 x2 x4 x6 x7 t = some res → ∀ (H : Heap) (locs : List Loc) (ls : Array Slot), mz_Wd mz_tM 55 mz_cl dC dI ad en ca s t H locs → lv_has ls 10 [(0, .ref (ad 0)), (1, .int x1), (2, .long x2), (4, .long x4), (6, .int x6), (7, .int x7)] → W p l e (r_MO_define) s m args below meth c H locs 0 0 (MQ below (mz_Q SX mz_tM 55 mz_cl dC dI ad en ca none res) args s 0 0 (mz_A ad 55)) (F0 m 220 ls []) := by
  obtain ⟨hx, hb, hml, hown, hcx, -, -, hSX, -, -, hSK⟩ := id E
  intro x1 x2 x4 x6 x7 t hf H locs ls w hl
  unfold f_MO_define_220 at hf
  refine lv_aload_n hx hb d_MO_define_220 rfl (lv_at hl 0 rfl) ?_
  refine mz_get E w 0 6 (v := .int (mz_gI t 0 6)) (by decide) rfl rfl ii_11 (by decide) (Nat.le_of_ble_eq_true rfl) k_1189 rfl d_MO_define_221 ?_
  refine lv_if_le (tgt := 228) hx hb d_MO_define_224 (by decide) (fun hc17 => ?_) (fun hc17 => ?_)
  · have hf := mz_t hc17 hf
    refine lv_aload_n hx hb d_MO_define_228 rfl (lv_at hl 0 rfl) ?_
    refine mz_get E w 0 38 (v := .ref (ad 25)) (by decide) rfl rfl ii_11 (by decide) (Nat.le_of_ble_eq_true rfl) k_1221 rfl d_MO_define_229 ?_
    refine lv_iconst (v := (0 : Int32)) hx hb d_MO_define_232 (by decide) ?_
    refine lv_iload hx hb d_MO_define_233 (lv_at hl 5 rfl) ?_
    obtain ⟨hi18, hf⟩ := mz_gd hf
    refine mz_iast E w 25 (x := x7) (by decide) rfl hi18 d_MO_define_235 (fun H locs w => ?_)
    obtain ⟨t19, e_t19, hf⟩ := mz_lt hf
    rw [← e_t19] at w
    refine lv_aload_n hx hb d_MO_define_236 rfl (lv_at hl 0 rfl) ?_
    refine mz_get E w 0 13 (v := .ref (ad 4)) (by decide) rfl rfl ii_11 (by decide) (Nat.le_of_ble_eq_true rfl) k_1196 rfl d_MO_define_237 ?_
    refine lv_aload_n hx hb d_MO_define_240 rfl (lv_at hl 0 rfl) ?_
    refine mz_get E w 0 12 (v := .int (mz_gI t19 0 12)) (by decide) rfl rfl ii_11 (by decide) (Nat.le_of_ble_eq_true rfl) k_1195 rfl d_MO_define_241 ?_
    refine lv_lload_n hx hb d_MO_define_244 rfl (lv_at hl 2 rfl) ?_
    obtain ⟨hi20, hf⟩ := mz_gd hf
    refine mz_last E w 4 (x := x2) (by decide) rfl hi20 d_MO_define_245 (fun H locs w => ?_)
    obtain ⟨t21, e_t21, hf⟩ := mz_lt hf
    rw [← e_t21] at w
    refine lv_aload_n hx hb d_MO_define_246 rfl (lv_at hl 0 rfl) ?_
    refine mz_get E w 0 14 (v := .ref (ad 5)) (by decide) rfl rfl ii_11 (by decide) (Nat.le_of_ble_eq_true rfl) k_1197 rfl d_MO_define_247 ?_
    refine lv_aload_n hx hb d_MO_define_250 rfl (lv_at hl 0 rfl) ?_
    refine mz_get E w 0 12 (v := .int (mz_gI t21 0 12)) (by decide) rfl rfl ii_11 (by decide) (Nat.le_of_ble_eq_true rfl) k_1195 rfl d_MO_define_251 ?_
    refine lv_lload hx hb d_MO_define_254 (lv_at hl 3 rfl) ?_
    obtain ⟨hi22, hf⟩ := mz_gd hf
    refine mz_last E w 5 (x := x4) (by decide) rfl hi22 d_MO_define_256 (fun H locs w => ?_)
    obtain ⟨t23, e_t23, hf⟩ := mz_lt hf
    rw [← e_t23] at w
    refine lv_aload_n hx hb d_MO_define_257 rfl (lv_at hl 0 rfl) ?_
    refine mz_get E w 0 15 (v := .ref (ad 6)) (by decide) rfl rfl ii_11 (by decide) (Nat.le_of_ble_eq_true rfl) k_1198 rfl d_MO_define_258 ?_
    refine lv_aload_n hx hb d_MO_define_261 rfl (lv_at hl 0 rfl) ?_
    refine mz_get E w 0 12 (v := .int (mz_gI t23 0 12)) (by decide) rfl rfl ii_11 (by decide) (Nat.le_of_ble_eq_true rfl) k_1195 rfl d_MO_define_262 ?_
    refine lv_iload hx hb d_MO_define_265 (lv_at hl 4 rfl) ?_
    obtain ⟨hi24, hf⟩ := mz_gd hf
    refine mz_iast E w 6 (x := x6) (by decide) rfl hi24 d_MO_define_267 (fun H locs w => ?_)
    obtain ⟨t25, e_t25, hf⟩ := mz_lt hf
    rw [← e_t25] at w
    refine lv_aload_n hx hb d_MO_define_268 rfl (lv_at hl 0 rfl) ?_
    refine mz_get E w 0 16 (v := .ref (ad 7)) (by decide) rfl rfl ii_11 (by decide) (Nat.le_of_ble_eq_true rfl) k_1199 rfl d_MO_define_269 ?_
    refine lv_aload_n hx hb d_MO_define_272 rfl (lv_at hl 0 rfl) ?_
    refine mz_get E w 0 12 (v := .int (mz_gI t25 0 12)) (by decide) rfl rfl ii_11 (by decide) (Nat.le_of_ble_eq_true rfl) k_1195 rfl d_MO_define_273 ?_
    refine lv_iload hx hb d_MO_define_276 (lv_at hl 5 rfl) ?_
    refine lv_iconst (v := (1 : Int32)) hx hb d_MO_define_278 (by decide) ?_
    refine lv_isub hx hb d_MO_define_279 ?_
    obtain ⟨hi26, hf⟩ := mz_gd hf
    refine mz_iast E w 7 (x := (x7 - (1 : Int32))) (by decide) rfl hi26 d_MO_define_280 (fun H locs w => ?_)
    obtain ⟨t27, e_t27, hf⟩ := mz_lt hf
    rw [← e_t27] at w
    refine lv_aload_n hx hb d_MO_define_281 rfl (lv_at hl 0 rfl) ?_
    refine mz_get E w 0 17 (v := .ref (ad 8)) (by decide) rfl rfl ii_11 (by decide) (Nat.le_of_ble_eq_true rfl) k_1200 rfl d_MO_define_282 ?_
    refine lv_aload_n hx hb d_MO_define_285 rfl (lv_at hl 0 rfl) ?_
    refine mz_get E w 0 12 (v := .int (mz_gI t27 0 12)) (by decide) rfl rfl ii_11 (by decide) (Nat.le_of_ble_eq_true rfl) k_1195 rfl d_MO_define_286 ?_
    refine lv_iload_n hx hb d_MO_define_289 rfl (lv_at hl 1 rfl) ?_
    obtain ⟨hi28, hf⟩ := mz_gd hf
    refine mz_iast E w 8 (x := x1) (by decide) rfl hi28 d_MO_define_290 (fun H locs w => ?_)
    obtain ⟨t29, e_t29, hf⟩ := mz_lt hf
    rw [← e_t29] at w
    refine lv_aload_n hx hb d_MO_define_291 rfl (lv_at hl 0 rfl) ?_
    refine mz_get E w 0 18 (v := .ref (ad 9)) (by decide) rfl rfl ii_11 (by decide) (Nat.le_of_ble_eq_true rfl) k_1201 rfl d_MO_define_292 ?_
    refine lv_aload_n hx hb d_MO_define_295 rfl (lv_at hl 0 rfl) ?_
    refine mz_get E w 0 12 (v := .int (mz_gI t29 0 12)) (by decide) rfl rfl ii_11 (by decide) (Nat.le_of_ble_eq_true rfl) k_1195 rfl d_MO_define_296 ?_
    refine lv_iconst (v := (0 : Int32)) hx hb d_MO_define_299 (by decide) ?_
    obtain ⟨hi30, hf⟩ := mz_gd hf
    refine mz_iast E w 9 (x := (0 : Int32)) (by decide) rfl hi30 d_MO_define_300 (fun H locs w => ?_)
    obtain ⟨t31, e_t31, hf⟩ := mz_lt hf
    rw [← e_t31] at w
    refine lv_aload_n hx hb d_MO_define_301 rfl (lv_at hl 0 rfl) ?_
    refine mz_get E w 0 19 (v := .ref (ad 10)) (by decide) rfl rfl ii_11 (by decide) (Nat.le_of_ble_eq_true rfl) k_1202 rfl d_MO_define_302 ?_
    refine lv_aload_n hx hb d_MO_define_305 rfl (lv_at hl 0 rfl) ?_
    refine mz_get E w 0 12 (v := .int (mz_gI t31 0 12)) (by decide) rfl rfl ii_11 (by decide) (Nat.le_of_ble_eq_true rfl) k_1195 rfl d_MO_define_306 ?_
    refine lv_aload_n hx hb d_MO_define_309 rfl (lv_at hl 0 rfl) ?_
    refine mz_get E w 0 75 (v := .int (mz_gI t31 0 75)) (by decide) rfl rfl ii_11 (by decide) (Nat.le_of_ble_eq_true rfl) k_1258 rfl d_MO_define_310 ?_
    obtain ⟨hi32, hf⟩ := mz_gd hf
    refine mz_iast E w 10 (x := (mz_gI t31 0 75)) (by decide) rfl hi32 d_MO_define_313 (fun H locs w => ?_)
    obtain ⟨t33, e_t33, hf⟩ := mz_lt hf
    rw [← e_t33] at w
    refine lv_iconst (v := (0 : Int32)) hx hb d_MO_define_314 (by decide) ?_
    refine lv_istore (lv' := [(9, .int (0 : Int32)), (0, .ref (ad 0)), (1, .int x1), (2, .long x2), (4, .long x4), (6, .int x6), (7, .int x7)]) hx hb d_MO_define_315 hl (by decide) rfl (fun ls hl => ?_)
    exact b_MO_define_317 E n n (0 : Int32) t33 hf _ _ _ w (lv_sub hl [1, 0] rfl)
  · have hf := mz_f hc17 hf
    obtain rfl := Option.some.inj hf
    exact mz_vret E w rfl d_MO_define_227
set_option maxRecDepth 100000 in
set_option maxHeartbeats 4000000 in
theorem b_MO_define_194 {SX : State → Heap → Prop} {dC : Nat → ClassId} {dI : Nat → Nat → Nat} {ad en : Nat → Nat} {ca : Nat → ClassId} {p : Program} {l : Launch} {e : Env} {s : State} {m : MethodId} {args : Array Value} {below : List Frame} {meth : Method} {c : Code} {res : mz_St} (E : mz_En SX 55 mz_cl dC dI ad ca p s m meth c prog_15_method_50_code 10 "MacroHouseModel" none) (n : Nat) : ∀ (x1 : Int32) (x2 : Int64) (x4 : Int64) (x6 : Int32) (x7 : Int32) (t : mz_St), f_MO_define_194 n x1 x2 x4 x6 x7 t = some res → ∀ (H : Heap) (locs : List Loc) (ls : Array Slot), mz_Wd mz_tM 55 mz_cl dC dI ad en ca s t H locs → lv_has ls 10 [(0, .ref (ad 0)), (1, .int x1), (2, .long x2), (4, .long x4), (6, .int x6), (7, .int x7)] → W p l e (r_MO_define) s m args below meth c H locs 0 0 (MQ below (mz_Q SX mz_tM 55 mz_cl dC dI ad en ca none res) args s 0 0 (mz_A ad 55)) (F0 m 194 ls []) := by
  obtain ⟨hx, hb, hml, hown, hcx, -, -, hSX, -, -, hSK⟩ := id E
  intro x1 x2 x4 x6 x7 t hf H locs ls w hl
  unfold f_MO_define_194 at hf
  refine lv_aload_n hx hb d_MO_define_194 rfl (lv_at hl 0 rfl) ?_
  refine mz_get E w 0 6 (v := .int (mz_gI t 0 6)) (by decide) rfl rfl ii_11 (by decide) (Nat.le_of_ble_eq_true rfl) k_1189 rfl d_MO_define_195 ?_
  refine lv_if_ne (tgt := 220) hx hb d_MO_define_198 (by decide) (fun hc16 => ?_) (fun hc16 => ?_)
  · have hf := mz_f hc16 hf
    exact b_MO_define_220 E n x1 x2 x4 x6 x7 t hf _ _ _ w (lv_sub hl [0, 1, 2, 3, 4, 5] rfl)
  · have hf := mz_t hc16 hf
    refine lv_aload_n hx hb d_MO_define_201 rfl (lv_at hl 0 rfl) ?_
    refine mz_get E w 0 12 (v := .int (mz_gI t 0 12)) (by decide) rfl rfl ii_11 (by decide) (Nat.le_of_ble_eq_true rfl) k_1195 rfl d_MO_define_202 ?_
    refine lv_bipush (v := (16 : Int32)) hx hb d_MO_define_205 (by decide) ?_
    refine lv_icmp_ne (tgt := 220) hx hb d_MO_define_207 (by decide) (fun hc48 => ?_) (fun hc48 => ?_)
    · have hf := mz_f hc48 hf
      exact b_MO_define_220 E n x1 x2 x4 x6 x7 t hf _ _ _ w (lv_sub hl [0, 1, 2, 3, 4, 5] rfl)
    · have hf := mz_t hc48 hf
      refine lv_aload_n hx hb d_MO_define_210 rfl (lv_at hl 0 rfl) ?_
      refine lv_bipush (v := (6 : Int32)) hx hb d_MO_define_211 (by decide) ?_
      refine lv_aload_n hx hb d_MO_define_213 rfl (lv_at hl 0 rfl) ?_
      refine mz_get E w 0 63 (v := .int (mz_gI t 0 63)) (by decide) rfl rfl ii_11 (by decide) (Nat.le_of_ble_eq_true rfl) k_1246 rfl d_MO_define_214 ?_
      obtain ⟨q49, hq50, hf⟩ := mz_bd hf
      refine mz_callV E w (k := 0) (As := [.int (6 : Int32), .int (mz_gI t 0 63)]) (rest := []) (c_MO_fail hSK l n (6 : Int32) (mz_gI t 0 63) t q49 hq50) (by decide) rfl rfl k_1467 k_15 k_1464 k_1466 ks_53 hm_MO_fail ⟨⟨rfl, rfl⟩, Nat.le_of_ble_eq_true rfl, Nat.le_of_ble_eq_true rfl⟩ rfl hl.1 rfl (Nat.le_of_ble_eq_true rfl) d_MO_define_217 ⟨Nat.zero_le _, Nat.zero_le _⟩ (st1 := []) rfl (fun H locs w => ?_)
      exact b_MO_define_220 E n x1 x2 x4 x6 x7 q49 hf _ _ _ w (lv_sub hl [0, 1, 2, 3, 4, 5] rfl)
set_option maxRecDepth 100000 in
set_option maxHeartbeats 4000000 in
theorem b_MO_define_180 {SX : State → Heap → Prop} {dC : Nat → ClassId} {dI : Nat → Nat → Nat} {ad en : Nat → Nat} {ca : Nat → ClassId} {p : Program} {l : Launch} {e : Env} {s : State} {m : MethodId} {args : Array Value} {below : List Frame} {meth : Method} {c : Code} {res : mz_St} (E : mz_En SX 55 mz_cl dC dI ad ca p s m meth c prog_15_method_50_code 10 "MacroHouseModel" none) (n : Nat) : ∀ (x1 : Int32) (x2 : Int64) (x4 : Int64) (x6 : Int32) (x7 : Int32) (x8 : Int32) (t : mz_St), f_MO_define_180 n x1 x2 x4 x6 x7 x8 t = some res → ∀ (H : Heap) (locs : List Loc) (ls : Array Slot), mz_Wd mz_tM 55 mz_cl dC dI ad en ca s t H locs → lv_has ls 10 [(0, .ref (ad 0)), (1, .int x1), (2, .long x2), (4, .long x4), (6, .int x6), (7, .int x7), (8, .int x8)] → W p l e (r_MO_define) s m args below meth c H locs 0 0 (MQ below (mz_Q SX mz_tM 55 mz_cl dC dI ad en ca none res) args s 0 0 (mz_A ad 55)) (F0 m 180 ls []) := by
  obtain ⟨hx, hb, hml, hown, hcx, -, -, hSX, -, -, hSK⟩ := id E
  intro x1 x2 x4 x6 x7 x8 t hf H locs ls w hl
  unfold f_MO_define_180 at hf
  refine lv_iload hx hb d_MO_define_180 (lv_at hl 6 rfl) ?_
  refine lv_if_ne (tgt := 194) hx hb d_MO_define_182 (by decide) (fun hc15 => ?_) (fun hc15 => ?_)
  · have hf := mz_f hc15 hf
    exact b_MO_define_194 E n x1 x2 x4 x6 x7 t hf _ _ _ w (lv_sub hl [0, 1, 2, 3, 4, 5] rfl)
  · have hf := mz_t hc15 hf
    refine lv_aload_n hx hb d_MO_define_185 rfl (lv_at hl 0 rfl) ?_
    refine lv_iconst (v := (5 : Int32)) hx hb d_MO_define_186 (by decide) ?_
    refine lv_aload_n hx hb d_MO_define_187 rfl (lv_at hl 0 rfl) ?_
    refine mz_get E w 0 63 (v := .int (mz_gI t 0 63)) (by decide) rfl rfl ii_11 (by decide) (Nat.le_of_ble_eq_true rfl) k_1246 rfl d_MO_define_188 ?_
    obtain ⟨q51, hq52, hf⟩ := mz_bd hf
    refine mz_callV E w (k := 0) (As := [.int (5 : Int32), .int (mz_gI t 0 63)]) (rest := []) (c_MO_fail hSK l n (5 : Int32) (mz_gI t 0 63) t q51 hq52) (by decide) rfl rfl k_1467 k_15 k_1464 k_1466 ks_53 hm_MO_fail ⟨⟨rfl, rfl⟩, Nat.le_of_ble_eq_true rfl, Nat.le_of_ble_eq_true rfl⟩ rfl hl.1 rfl (Nat.le_of_ble_eq_true rfl) d_MO_define_191 ⟨Nat.zero_le _, Nat.zero_le _⟩ (st1 := []) rfl (fun H locs w => ?_)
    exact b_MO_define_194 E n x1 x2 x4 x6 x7 q51 hf _ _ _ w (lv_sub hl [0, 1, 2, 3, 4, 5] rfl)
set_option maxRecDepth 100000 in
set_option maxHeartbeats 4000000 in
theorem b_MO_define_172 {SX : State → Heap → Prop} {dC : Nat → ClassId} {dI : Nat → Nat → Nat} {ad en : Nat → Nat} {ca : Nat → ClassId} {p : Program} {l : Launch} {e : Env} {s : State} {m : MethodId} {args : Array Value} {below : List Frame} {meth : Method} {c : Code} {res : mz_St} (E : mz_En SX 55 mz_cl dC dI ad ca p s m meth c prog_15_method_50_code 10 "MacroHouseModel" none) (n : Nat) (K111 : Int32 → Int64 → Int64 → Int32 → Int32 → Int32 → mz_St → Option mz_St) (hK111 : ∀ (x1 : Int32) (x2 : Int64) (x4 : Int64) (x6 : Int32) (x7 : Int32) (x8 : Int32) (t : mz_St), K111 x1 x2 x4 x6 x7 x8 t = some res → ∀ (H : Heap) (locs : List Loc) (ls : Array Slot), mz_Wd mz_tM 55 mz_cl dC dI ad en ca s t H locs → lv_has ls 10 [(0, .ref (ad 0)), (1, .int x1), (2, .long x2), (4, .long x4), (6, .int x6), (7, .int x7), (8, .int x8)] → W p l e (r_MO_define) s m args below meth c H locs 0 0 (MQ below (mz_Q SX mz_tM 55 mz_cl dC dI ad en ca none res) args s 0 0 (mz_A ad 55)) (F0 m 111 ls [])) : ∀ (x1 : Int32) (x2 : Int64) (x4 : Int64) (x6 : Int32) (x7 : Int32) (s0 : Int32) (t : mz_St), f_MO_define_172 n K111 x1 x2 x4 x6 x7 s0 t = some res → ∀ (H : Heap) (locs : List Loc) (ls : Array Slot), mz_Wd mz_tM 55 mz_cl dC dI ad en ca s t H locs → lv_has ls 10 [(0, .ref (ad 0)), (1, .int x1), (2, .long x2), (4, .long x4), (6, .int x6), (7, .int x7)] → W p l e (r_MO_define) s m args below meth c H locs 0 0 (MQ below (mz_Q SX mz_tM 55 mz_cl dC dI ad en ca none res) args s 0 0 (mz_A ad 55)) (F0 m 172 ls [.int s0]) := by
  obtain ⟨hx, hb, hml, hown, hcx, -, -, hSX, -, -, hSK⟩ := id E
  intro x1 x2 x4 x6 x7 s0 t hf H locs ls w hl
  unfold f_MO_define_172 at hf
  refine lv_istore (lv' := [(8, .int s0), (0, .ref (ad 0)), (1, .int x1), (2, .long x2), (4, .long x4), (6, .int x6), (7, .int x7)]) hx hb d_MO_define_172 hl (by decide) rfl (fun ls hl => ?_)
  refine lv_iinc (v := (x7 + (1 : Int32))) (lv' := [(7, .int (x7 + (1 : Int32))), (8, .int s0), (0, .ref (ad 0)), (1, .int x1), (2, .long x2), (4, .long x4), (6, .int x6)]) hx hb d_MO_define_174 hl (k := 6) rfl rfl (by decide) rfl (fun ls hl => ?_)
  refine lv_goto (tgt := 111) hx hb d_MO_define_177 (by decide) ?_
  exact hK111 x1 x2 x4 x6 (x7 + (1 : Int32)) s0 t hf _ _ _ w (lv_sub hl [2, 3, 4, 5, 6, 0, 1] rfl)
set_option maxRecDepth 100000 in
set_option maxHeartbeats 4000000 in
theorem b_MO_define_160 {SX : State → Heap → Prop} {dC : Nat → ClassId} {dI : Nat → Nat → Nat} {ad en : Nat → Nat} {ca : Nat → ClassId} {p : Program} {l : Launch} {e : Env} {s : State} {m : MethodId} {args : Array Value} {below : List Frame} {meth : Method} {c : Code} {res : mz_St} (E : mz_En SX 55 mz_cl dC dI ad ca p s m meth c prog_15_method_50_code 10 "MacroHouseModel" none) (n : Nat) (K111 : Int32 → Int64 → Int64 → Int32 → Int32 → Int32 → mz_St → Option mz_St) (hK111 : ∀ (x1 : Int32) (x2 : Int64) (x4 : Int64) (x6 : Int32) (x7 : Int32) (x8 : Int32) (t : mz_St), K111 x1 x2 x4 x6 x7 x8 t = some res → ∀ (H : Heap) (locs : List Loc) (ls : Array Slot), mz_Wd mz_tM 55 mz_cl dC dI ad en ca s t H locs → lv_has ls 10 [(0, .ref (ad 0)), (1, .int x1), (2, .long x2), (4, .long x4), (6, .int x6), (7, .int x7), (8, .int x8)] → W p l e (r_MO_define) s m args below meth c H locs 0 0 (MQ below (mz_Q SX mz_tM 55 mz_cl dC dI ad en ca none res) args s 0 0 (mz_A ad 55)) (F0 m 111 ls [])) : ∀ (x1 : Int32) (x2 : Int64) (x4 : Int64) (x6 : Int32) (x7 : Int32) (x9 : Int32) (t : mz_St), f_MO_define_160 n K111 x1 x2 x4 x6 x7 x9 t = some res → ∀ (H : Heap) (locs : List Loc) (ls : Array Slot), mz_Wd mz_tM 55 mz_cl dC dI ad en ca s t H locs → lv_has ls 10 [(0, .ref (ad 0)), (1, .int x1), (2, .long x2), (4, .long x4), (6, .int x6), (7, .int x7), (9, .int x9)] → W p l e (r_MO_define) s m args below meth c H locs 0 0 (MQ below (mz_Q SX mz_tM 55 mz_cl dC dI ad en ca none res) args s 0 0 (mz_A ad 55)) (F0 m 160 ls []) := by
  obtain ⟨hx, hb, hml, hown, hcx, -, -, hSX, -, -, hSK⟩ := id E
  intro x1 x2 x4 x6 x7 x9 t hf H locs ls w hl
  unfold f_MO_define_160 at hf
  refine lv_iload hx hb d_MO_define_160 (lv_at hl 6 rfl) ?_
  refine lv_bipush (v := (9 : Int32)) hx hb d_MO_define_162 (by decide) ?_
  refine lv_icmp_ne (tgt := 171) hx hb d_MO_define_164 (by decide) (fun hc60 => ?_) (fun hc60 => ?_)
  · have hf := mz_f hc60 hf
    refine lv_iconst (v := (0 : Int32)) hx hb d_MO_define_171 (by decide) ?_
    exact b_MO_define_172 E n K111 hK111 x1 x2 x4 x6 x7 (0 : Int32) t hf _ _ _ w (lv_sub hl [0, 1, 2, 3, 4, 5] rfl)
  · have hf := mz_t hc60 hf
    refine lv_iconst (v := (1 : Int32)) hx hb d_MO_define_167 (by decide) ?_
    refine lv_goto (tgt := 172) hx hb d_MO_define_168 (by decide) ?_
    exact b_MO_define_172 E n K111 hK111 x1 x2 x4 x6 x7 (1 : Int32) t hf _ _ _ w (lv_sub hl [0, 1, 2, 3, 4, 5] rfl)
set_option maxRecDepth 100000 in
set_option maxHeartbeats 4000000 in
theorem b_MO_define_111 {SX : State → Heap → Prop} {dC : Nat → ClassId} {dI : Nat → Nat → Nat} {ad en : Nat → Nat} {ca : Nat → ClassId} {p : Program} {l : Launch} {e : Env} {s : State} {m : MethodId} {args : Array Value} {below : List Frame} {meth : Method} {c : Code} {res : mz_St} (E : mz_En SX 55 mz_cl dC dI ad ca p s m meth c prog_15_method_50_code 10 "MacroHouseModel" none) (n : Nat) (k : Nat) : ∀ (x1 : Int32) (x2 : Int64) (x4 : Int64) (x6 : Int32) (x7 : Int32) (x8 : Int32) (t : mz_St), f_MO_define_111 n k x1 x2 x4 x6 x7 x8 t = some res → ∀ (H : Heap) (locs : List Loc) (ls : Array Slot), mz_Wd mz_tM 55 mz_cl dC dI ad en ca s t H locs → lv_has ls 10 [(0, .ref (ad 0)), (1, .int x1), (2, .long x2), (4, .long x4), (6, .int x6), (7, .int x7), (8, .int x8)] → W p l e (r_MO_define) s m args below meth c H locs 0 0 (MQ below (mz_Q SX mz_tM 55 mz_cl dC dI ad en ca none res) args s 0 0 (mz_A ad 55)) (F0 m 111 ls []) := by
  obtain ⟨hx, hb, hml, hown, hcx, -, -, hSX, -, -, hSK⟩ := id E
  induction k with
  | zero => intro x1 x2 x4 x6 x7 x8 t hf; exact absurd hf (by unfold f_MO_define_111; exact fun h => nomatch h)
  | succ k ih =>
    intro x1 x2 x4 x6 x7 x8 t hf H locs ls w hl
    unfold f_MO_define_111 at hf
    refine lv_iload hx hb d_MO_define_111 (lv_at hl 6 rfl) ?_
    refine lv_if_ne (tgt := 180) hx hb d_MO_define_113 (by decide) (fun hc14 => ?_) (fun hc14 => ?_)
    · have hf := mz_f hc14 hf
      exact b_MO_define_180 E n x1 x2 x4 x6 x7 x8 t hf _ _ _ w (lv_sub hl [0, 1, 2, 3, 4, 5, 6] rfl)
    · have hf := mz_t hc14 hf
      refine lv_iload hx hb d_MO_define_116 (lv_at hl 5 rfl) ?_
      refine lv_aload_n hx hb d_MO_define_118 rfl (lv_at hl 0 rfl) ?_
      refine mz_get E w 0 3 (v := .int (mz_gI t 0 3)) (by decide) rfl rfl ii_11 (by decide) (Nat.le_of_ble_eq_true rfl) k_1186 rfl d_MO_define_119 ?_
      refine lv_icmp_ge (tgt := 180) hx hb d_MO_define_122 (by decide) (fun hc53 => ?_) (fun hc53 => ?_)
      · have hf := mz_t hc53 hf
        exact b_MO_define_180 E n x1 x2 x4 x6 x7 x8 t hf _ _ _ w (lv_sub hl [0, 1, 2, 3, 4, 5, 6] rfl)
      · have hf := mz_f hc53 hf
        refine lv_aload_n hx hb d_MO_define_125 rfl (lv_at hl 0 rfl) ?_
        refine mz_get E w 0 6 (v := .int (mz_gI t 0 6)) (by decide) rfl rfl ii_11 (by decide) (Nat.le_of_ble_eq_true rfl) k_1189 rfl d_MO_define_126 ?_
        refine lv_if_ne (tgt := 180) hx hb d_MO_define_129 (by decide) (fun hc54 => ?_) (fun hc54 => ?_)
        · have hf := mz_f hc54 hf
          exact b_MO_define_180 E n x1 x2 x4 x6 x7 x8 t hf _ _ _ w (lv_sub hl [0, 1, 2, 3, 4, 5, 6] rfl)
        · have hf := mz_t hc54 hf
          refine lv_aload_n hx hb d_MO_define_132 rfl (lv_at hl 0 rfl) ?_
          refine lv_iload hx hb d_MO_define_133 (lv_at hl 5 rfl) ?_
          obtain ⟨q55, hq56, hf⟩ := mz_bd hf
          refine mz_callV E w (k := 0) (As := [.int x7]) (rest := []) (c_MO_look hSK l n x7 t q55 hq56) (by decide) rfl rfl k_1475 k_15 k_1472 k_1474 ks_55 hm_MO_look ⟨⟨rfl, rfl⟩, Nat.le_of_ble_eq_true rfl, Nat.le_of_ble_eq_true rfl⟩ rfl hl.1 rfl (Nat.le_of_ble_eq_true rfl) d_MO_define_135 ⟨Nat.zero_le _, Nat.zero_le _⟩ (st1 := []) rfl (fun H locs w => ?_)
          refine lv_aload_n hx hb d_MO_define_138 rfl (lv_at hl 0 rfl) ?_
          refine lv_iload hx hb d_MO_define_139 (lv_at hl 5 rfl) ?_
          obtain ⟨q57, hq58, hf⟩ := mz_bd hf
          refine mz_callV E w (k := 0) (As := [.int x7]) (rest := []) (c_MO_firstOf hSK l n x7 q55 q57 hq58) (by decide) rfl rfl k_1479 k_15 k_1476 k_1478 ks_56 hm_MO_firstOf ⟨⟨rfl, rfl⟩, Nat.le_of_ble_eq_true rfl, Nat.le_of_ble_eq_true rfl⟩ rfl hl.1 rfl (Nat.le_of_ble_eq_true rfl) d_MO_define_141 ⟨Nat.zero_le _, Nat.zero_le _⟩ (st1 := [.int q57.1]) rfl (fun H locs w => ?_)
          refine lv_istore (lv' := [(9, .int q57.1), (0, .ref (ad 0)), (1, .int x1), (2, .long x2), (4, .long x4), (6, .int x6), (7, .int x7), (8, .int x8)]) hx hb d_MO_define_144 hl (by decide) rfl (fun ls hl => ?_)
          refine lv_iload hx hb d_MO_define_146 (lv_at hl 0 rfl) ?_
          refine lv_bipush (v := (8 : Int32)) hx hb d_MO_define_148 (by decide) ?_
          refine lv_icmp_ne (tgt := 160) hx hb d_MO_define_150 (by decide) (fun hc59 => ?_) (fun hc59 => ?_)
          · have hf := mz_f hc59 hf
            exact b_MO_define_160 E n (f_MO_define_111 n k) ih x1 x2 x4 x6 x7 q57.1 q57.2 hf _ _ _ w (lv_sub hl [1, 2, 3, 4, 5, 6, 0] rfl)
          · have hf := mz_t hc59 hf
            refine lv_aload_n hx hb d_MO_define_153 rfl (lv_at hl 1 rfl) ?_
            refine lv_iconst (v := (5 : Int32)) hx hb d_MO_define_154 (by decide) ?_
            refine lv_iload hx hb d_MO_define_155 (lv_at hl 6 rfl) ?_
            obtain ⟨q61, hq62, hf⟩ := mz_bd hf
            refine mz_callV E w (k := 0) (As := [.int (5 : Int32), .int x7]) (rest := []) (c_MO_fail hSK l n (5 : Int32) x7 q57.2 q61 hq62) (by decide) rfl rfl k_1467 k_15 k_1464 k_1466 ks_53 hm_MO_fail ⟨⟨rfl, rfl⟩, Nat.le_of_ble_eq_true rfl, Nat.le_of_ble_eq_true rfl⟩ rfl hl.1 rfl (Nat.le_of_ble_eq_true rfl) d_MO_define_157 ⟨Nat.zero_le _, Nat.zero_le _⟩ (st1 := []) rfl (fun H locs w => ?_)
            exact b_MO_define_160 E n (f_MO_define_111 n k) ih x1 x2 x4 x6 x7 q57.1 q61 hf _ _ _ w (lv_sub hl [1, 2, 3, 4, 5, 6, 0] rfl)
set_option maxRecDepth 100000 in
set_option maxHeartbeats 4000000 in
theorem b_MO_define_34 {SX : State → Heap → Prop} {dC : Nat → ClassId} {dI : Nat → Nat → Nat} {ad en : Nat → Nat} {ca : Nat → ClassId} {p : Program} {l : Launch} {e : Env} {s : State} {m : MethodId} {args : Array Value} {below : List Frame} {meth : Method} {c : Code} {res : mz_St} (E : mz_En SX 55 mz_cl dC dI ad ca p s m meth c prog_15_method_50_code 10 "MacroHouseModel" none) (n : Nat) : ∀ (x1 : Int32) (x2 : Int64) (x4 : Int64) (s1 : Int32) (t : mz_St), f_MO_define_34 n x1 x2 x4 s1 t = some res → ∀ (H : Heap) (locs : List Loc) (ls : Array Slot), mz_Wd mz_tM 55 mz_cl dC dI ad en ca s t H locs → lv_has ls 10 [(0, .ref (ad 0)), (1, .int x1), (2, .long x2), (4, .long x4)] → W p l e (r_MO_define) s m args below meth c H locs 0 0 (MQ below (mz_Q SX mz_tM 55 mz_cl dC dI ad en ca none res) args s 0 0 (mz_A ad 55)) (F0 m 34 ls [.int s1, .ref (ad 0)]) := by
  obtain ⟨hx, hb, hml, hown, hcx, -, -, hSX, -, -, hSK⟩ := id E
  intro x1 x2 x4 s1 t hf H locs ls w hl
  unfold f_MO_define_34 at hf
  obtain ⟨q4, hq5, hf⟩ := mz_bd hf
  refine mz_callV E w (k := 0) (As := [.int s1]) (rest := []) (c_MO_readParameters hSK l n s1 t q4 hq5) (by decide) rfl rfl k_1640 k_15 k_1637 k_1639 ks_89 hm_MO_readParameters ⟨⟨rfl, rfl⟩, Nat.le_of_ble_eq_true rfl, Nat.le_of_ble_eq_true rfl⟩ rfl hl.1 rfl (Nat.le_of_ble_eq_true rfl) d_MO_define_34 ⟨Nat.zero_le _, Nat.zero_le _⟩ (st1 := []) rfl (fun H locs w => ?_)
  refine lv_aload_n hx hb d_MO_define_37 rfl (lv_at hl 0 rfl) ?_
  obtain ⟨q6, hq7, hf⟩ := mz_bd hf
  refine mz_callV E w (k := 0) (As := []) (rest := []) (c_MO_lineEnds hSK l n q4 q6 hq7) (by decide) rfl rfl k_1608 k_15 k_1605 k_1607 ks_81 hm_MO_lineEnds ⟨⟨rfl, rfl⟩, Nat.le_of_ble_eq_true rfl, Nat.le_of_ble_eq_true rfl⟩ rfl hl.1 rfl (Nat.le_of_ble_eq_true rfl) d_MO_define_38 ⟨Nat.zero_le _, Nat.zero_le _⟩ (st1 := []) rfl (fun H locs w => ?_)
  refine lv_aload_n hx hb d_MO_define_41 rfl (lv_at hl 0 rfl) ?_
  refine mz_get E w 0 62 (v := .int (mz_gI q6 0 62)) (by decide) rfl rfl ii_11 (by decide) (Nat.le_of_ble_eq_true rfl) k_1245 rfl d_MO_define_42 ?_
  refine lv_if_ne (tgt := 58) hx hb d_MO_define_45 (by decide) (fun hc8 => ?_) (fun hc8 => ?_)
  · have hf := mz_f hc8 hf
    refine lv_aload_n hx hb d_MO_define_58 rfl (lv_at hl 0 rfl) ?_
    refine lv_lload_n hx hb d_MO_define_59 rfl (lv_at hl 2 rfl) ?_
    refine lv_lload hx hb d_MO_define_60 (lv_at hl 3 rfl) ?_
    obtain ⟨q9, hq10, hf⟩ := mz_bd hf
    refine mz_callV E w (k := 0) (As := [.long x2, .long x4]) (rest := []) (c_MO_macroOf hSK l n x2 x4 q6 q9 hq10) (by decide) rfl rfl k_1648 k_15 k_1645 k_1647 ks_91 hm_MO_macroOf ⟨⟨rfl, rfl⟩, Nat.le_of_ble_eq_true rfl, Nat.le_of_ble_eq_true rfl⟩ rfl hl.1 rfl (Nat.le_of_ble_eq_true rfl) d_MO_define_62 ⟨Nat.zero_le _, Nat.zero_le _⟩ (st1 := [.int q9.1]) rfl (fun H locs w => ?_)
    refine lv_if_lt (tgt := 78) hx hb d_MO_define_65 (by decide) (fun hc11 => ?_) (fun hc11 => ?_)
    · have hf := mz_t hc11 hf
      refine lv_aload_n hx hb d_MO_define_78 rfl (lv_at hl 0 rfl) ?_
      refine mz_get E w 0 34 (v := .int (mz_gI q9.2 0 34)) (by decide) rfl rfl ii_11 (by decide) (Nat.le_of_ble_eq_true rfl) k_1217 rfl d_MO_define_79 ?_
      refine lv_iconst (v := (1 : Int32)) hx hb d_MO_define_82 (by decide) ?_
      refine lv_icmp_le (tgt := 96) hx hb d_MO_define_83 (by decide) (fun hc12 => ?_) (fun hc12 => ?_)
      · have hf := mz_t hc12 hf
        refine lv_aload_n hx hb d_MO_define_96 rfl (lv_at hl 0 rfl) ?_
        refine mz_get E w 0 38 (v := .ref (ad 25)) (by decide) rfl rfl ii_11 (by decide) (Nat.le_of_ble_eq_true rfl) k_1221 rfl d_MO_define_97 ?_
        refine lv_iconst (v := (0 : Int32)) hx hb d_MO_define_100 (by decide) ?_
        obtain ⟨hi13, hf⟩ := mz_gd hf
        refine mz_iald E w 25 (by decide) rfl hi13 d_MO_define_101 ?_
        refine lv_istore (lv' := [(6, .int (mz_gI q9.2 25 (0 : Int32).toNatClampNeg)), (0, .ref (ad 0)), (1, .int x1), (2, .long x2), (4, .long x4)]) hx hb d_MO_define_102 hl (by decide) rfl (fun ls hl => ?_)
        refine lv_iload hx hb d_MO_define_104 (lv_at hl 0 rfl) ?_
        refine lv_istore (lv' := [(7, .int (mz_gI q9.2 25 (0 : Int32).toNatClampNeg)), (6, .int (mz_gI q9.2 25 (0 : Int32).toNatClampNeg)), (0, .ref (ad 0)), (1, .int x1), (2, .long x2), (4, .long x4)]) hx hb d_MO_define_106 hl (by decide) rfl (fun ls hl => ?_)
        refine lv_iconst (v := (0 : Int32)) hx hb d_MO_define_108 (by decide) ?_
        refine lv_istore (lv' := [(8, .int (0 : Int32)), (7, .int (mz_gI q9.2 25 (0 : Int32).toNatClampNeg)), (6, .int (mz_gI q9.2 25 (0 : Int32).toNatClampNeg)), (0, .ref (ad 0)), (1, .int x1), (2, .long x2), (4, .long x4)]) hx hb d_MO_define_109 hl (by decide) rfl (fun ls hl => ?_)
        exact b_MO_define_111 E n n x1 x2 x4 (mz_gI q9.2 25 (0 : Int32).toNatClampNeg) (mz_gI q9.2 25 (0 : Int32).toNatClampNeg) (0 : Int32) q9.2 hf _ _ _ w (lv_sub hl [3, 4, 5, 6, 2, 1, 0] rfl)
      · have hf := mz_f hc12 hf
        refine lv_aload_n hx hb d_MO_define_86 rfl (lv_at hl 0 rfl) ?_
        refine lv_iconst (v := (5 : Int32)) hx hb d_MO_define_87 (by decide) ?_
        refine lv_aload_n hx hb d_MO_define_88 rfl (lv_at hl 0 rfl) ?_
        refine mz_get E w 0 63 (v := .int (mz_gI q9.2 0 63)) (by decide) rfl rfl ii_11 (by decide) (Nat.le_of_ble_eq_true rfl) k_1246 rfl d_MO_define_89 ?_
        obtain ⟨q63, hq64, hf⟩ := mz_bd hf
        refine mz_callV E w (k := 0) (As := [.int (5 : Int32), .int (mz_gI q9.2 0 63)]) (rest := []) (c_MO_fail hSK l n (5 : Int32) (mz_gI q9.2 0 63) q9.2 q63 hq64) (by decide) rfl rfl k_1467 k_15 k_1464 k_1466 ks_53 hm_MO_fail ⟨⟨rfl, rfl⟩, Nat.le_of_ble_eq_true rfl, Nat.le_of_ble_eq_true rfl⟩ rfl hl.1 rfl (Nat.le_of_ble_eq_true rfl) d_MO_define_92 ⟨Nat.zero_le _, Nat.zero_le _⟩ (st1 := []) rfl (fun H locs w => ?_)
        obtain rfl := Option.some.inj hf
        exact mz_vret E w rfl d_MO_define_95
    · have hf := mz_f hc11 hf
      refine lv_aload_n hx hb d_MO_define_68 rfl (lv_at hl 0 rfl) ?_
      refine lv_iconst (v := (2 : Int32)) hx hb d_MO_define_69 (by decide) ?_
      refine lv_aload_n hx hb d_MO_define_70 rfl (lv_at hl 0 rfl) ?_
      refine mz_get E w 0 63 (v := .int (mz_gI q9.2 0 63)) (by decide) rfl rfl ii_11 (by decide) (Nat.le_of_ble_eq_true rfl) k_1246 rfl d_MO_define_71 ?_
      obtain ⟨q65, hq66, hf⟩ := mz_bd hf
      refine mz_callV E w (k := 0) (As := [.int (2 : Int32), .int (mz_gI q9.2 0 63)]) (rest := []) (c_MO_fail hSK l n (2 : Int32) (mz_gI q9.2 0 63) q9.2 q65 hq66) (by decide) rfl rfl k_1467 k_15 k_1464 k_1466 ks_53 hm_MO_fail ⟨⟨rfl, rfl⟩, Nat.le_of_ble_eq_true rfl, Nat.le_of_ble_eq_true rfl⟩ rfl hl.1 rfl (Nat.le_of_ble_eq_true rfl) d_MO_define_74 ⟨Nat.zero_le _, Nat.zero_le _⟩ (st1 := []) rfl (fun H locs w => ?_)
      obtain rfl := Option.some.inj hf
      exact mz_vret E w rfl d_MO_define_77
  · have hf := mz_t hc8 hf
    refine lv_aload_n hx hb d_MO_define_48 rfl (lv_at hl 0 rfl) ?_
    refine lv_iconst (v := (1 : Int32)) hx hb d_MO_define_49 (by decide) ?_
    refine lv_aload_n hx hb d_MO_define_50 rfl (lv_at hl 0 rfl) ?_
    refine mz_get E w 0 63 (v := .int (mz_gI q6 0 63)) (by decide) rfl rfl ii_11 (by decide) (Nat.le_of_ble_eq_true rfl) k_1246 rfl d_MO_define_51 ?_
    obtain ⟨q67, hq68, hf⟩ := mz_bd hf
    refine mz_callV E w (k := 0) (As := [.int (1 : Int32), .int (mz_gI q6 0 63)]) (rest := []) (c_MO_fail hSK l n (1 : Int32) (mz_gI q6 0 63) q6 q67 hq68) (by decide) rfl rfl k_1467 k_15 k_1464 k_1466 ks_53 hm_MO_fail ⟨⟨rfl, rfl⟩, Nat.le_of_ble_eq_true rfl, Nat.le_of_ble_eq_true rfl⟩ rfl hl.1 rfl (Nat.le_of_ble_eq_true rfl) d_MO_define_54 ⟨Nat.zero_le _, Nat.zero_le _⟩ (st1 := []) rfl (fun H locs w => ?_)
    obtain rfl := Option.some.inj hf
    exact mz_vret E w rfl d_MO_define_57
set_option maxRecDepth 100000 in
set_option maxHeartbeats 4000000 in
theorem c_MO_define {SX : State → Heap → Prop} {dC : Nat → ClassId} {dI : Nat → Nat → Nat} {ad en : Nat → Nat} {ca : Nat → ClassId} (hSK : mz_SK SX ad 55) (l : Launch) (n : Nat) (x1 : Int32) (t : mz_St) (res : mz_St) (hf : f_MO_define n x1 t = some res) : mz_C SX mz_tM 55 mz_cl dC dI ad en ca l y_MO_define prog_15_method_50_code 10 none (r_MO_define) [.ref (ad 0), .int x1] t none res := by
  unfold f_MO_define at hf
  refine mz_met hSK (by decide) (Nat.le_of_ble_eq_true rfl) ?_
  intro p e s m args below meth c ls E w hl
  obtain ⟨hx, hb, hml, hown, hcx, -, -, hSX, -, -, -⟩ := id E
  have hl : lv_has ls 10 [(0, .ref (ad 0)), (1, .int x1)] := hl
  refine lv_aload_n hx hb d_MO_define_0 rfl (lv_at hl 0 rfl) ?_
  obtain ⟨q1, hq2, hf⟩ := mz_bd hf
  refine mz_callV E w (k := 0) (As := []) (rest := []) (c_MO_word hSK l n t q1 hq2) (by decide) rfl rfl k_1557 k_15 k_1554 k_1556 ks_69 hm_MO_word ⟨⟨rfl, rfl⟩, Nat.le_of_ble_eq_true rfl, Nat.le_of_ble_eq_true rfl⟩ rfl hl.1 rfl (Nat.le_of_ble_eq_true rfl) d_MO_define_1 ⟨Nat.zero_le _, Nat.zero_le _⟩ (st1 := []) rfl (fun H locs w => ?_)
  refine lv_aload_n hx hb d_MO_define_4 rfl (lv_at hl 0 rfl) ?_
  refine mz_get E w 0 65 (v := .long (mz_gL q1 0 65)) (by decide) rfl rfl ii_11 (by decide) (Nat.le_of_ble_eq_true rfl) k_1248 rfl d_MO_define_5 ?_
  refine lv_lstore_n (lv' := [(2, .long (mz_gL q1 0 65)), (0, .ref (ad 0)), (1, .int x1)]) hx hb d_MO_define_8 rfl hl (by decide) rfl (fun ls hl => ?_)
  refine lv_aload_n hx hb d_MO_define_9 rfl (lv_at hl 1 rfl) ?_
  refine mz_get E w 0 66 (v := .long (mz_gL q1 0 66)) (by decide) rfl rfl ii_11 (by decide) (Nat.le_of_ble_eq_true rfl) k_1249 rfl d_MO_define_10 ?_
  refine lv_lstore (lv' := [(4, .long (mz_gL q1 0 66)), (2, .long (mz_gL q1 0 65)), (0, .ref (ad 0)), (1, .int x1)]) hx hb d_MO_define_13 hl (by decide) rfl (fun ls hl => ?_)
  refine lv_aload_n hx hb d_MO_define_15 rfl (lv_at hl 2 rfl) ?_
  refine lv_aload_n hx hb d_MO_define_16 rfl (lv_at hl 2 rfl) ?_
  refine mz_get E w 0 34 (v := .int (mz_gI q1 0 34)) (by decide) rfl rfl ii_11 (by decide) (Nat.le_of_ble_eq_true rfl) k_1217 rfl d_MO_define_17 ?_
  refine lv_iconst (v := (1 : Int32)) hx hb d_MO_define_20 (by decide) ?_
  refine lv_icmp_ne (tgt := 33) hx hb d_MO_define_21 (by decide) (fun hc3 => ?_) (fun hc3 => ?_)
  · have hf := mz_f hc3 hf
    refine lv_iconst (v := (0 : Int32)) hx hb d_MO_define_33 (by decide) ?_
    exact b_MO_define_34 E n x1 (mz_gL q1 0 65) (mz_gL q1 0 66) (0 : Int32) q1 hf _ _ _ w (lv_sub hl [2, 3, 1, 0] rfl)
  · have hf := mz_t hc3 hf
    refine lv_aload_n hx hb d_MO_define_24 rfl (lv_at hl 2 rfl) ?_
    refine mz_get E w 0 4 (v := .ref (ad 2)) (by decide) rfl rfl ii_11 (by decide) (Nat.le_of_ble_eq_true rfl) k_1187 rfl d_MO_define_25 ?_
    refine lv_iload_n hx hb d_MO_define_28 rfl (lv_at hl 3 rfl) ?_
    obtain ⟨hi69, hf⟩ := mz_gd hf
    refine mz_iald E w 2 (by decide) rfl hi69 d_MO_define_29 ?_
    refine lv_goto (tgt := 34) hx hb d_MO_define_30 (by decide) ?_
    exact b_MO_define_34 E n x1 (mz_gL q1 0 65) (mz_gL q1 0 66) (mz_gI q1 2 x1.toNatClampNeg) q1 hf _ _ _ w (lv_sub hl [2, 3, 1, 0] rfl)
