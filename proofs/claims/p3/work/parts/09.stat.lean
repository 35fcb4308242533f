/-! What the class side reads that nobody writes: the enum, its table, the switch map, the words' texts -/
def mz_dn : List String := ["PLAIN", "STRANGE", "SET", "FORGET", "IF", "IFSAME", "ELSEIF", "ELSE", "ENDIF", "MACRO", "ENDM", "REPT", "EACH", "ENDR", "LEAVE", "STOP"]
def mz_or : List Int32 := [0, 1, 2, 3, 4, 5, 6, 7, 8, 9, 10, 11, 12, 13, 14, 15]
def mz_wi : List Nat := [0, 0, 1, 2, 3, 4, 5, 6, 7, 8, 9, 10, 11, 12, 13, 14]
def mz_sw : List Int32 := [1, 0, 2, 3, 4, 5, 6, 7, 8, 9, 14, 10, 11, 15, 12, 13]
def mz_sk : List Nat := [99, 106, 109, 112, 115, 118, 121, 124, 127, 130, 133, 136, 139, 142, 145]
def mz_len : List Nat := [0, 3, 6, 2, 6, 6, 4, 5, 5, 4, 4, 4, 4, 5, 4]
def mz_byt : List (List Int32) := [[], [115, 101, 116], [102, 111, 114, 103, 101, 116], [105, 102], [105, 102, 115, 97, 109, 101], [101, 108, 115, 101, 105, 102], [101, 108, 115, 101], [101, 110, 100, 105, 102], [109, 97, 99, 114, 111], [101, 110, 100, 109], [114, 101, 112, 116], [101, 97, 99, 104], [101, 110, 100, 114], [108, 101, 97, 118, 101], [115, 116, 111, 112]]
theorem mz_f01 {v : Int32} (h : v = 0 ∨ v = 1) : fits .boolean (.int v) = true := by
  rcases h with rfl | rfl <;> decide +kernel
theorem mz_nc {v : Int32} (h : v = (v.toUInt32 % 65536).toInt32) : narrow .char (.int v) = .int v := by
  have q := pk_nc v
  rw [← h] at q
  exact q
abbrev mz_rG (k a d : Nat) : Room := { frames := 5 * d + k, cells := 0, slots := 0, locals := 150 * d + a }
theorem ks_ord : Cond.sameMethod "MacroHouse$Directive" "java/lang/Enum" "ordinal" "()I" ∈ mz_tb := mz_m3 238 rfl rfl
def mz_SS (adK adV : Nat → Nat) (A : Nat → Prop) (U : State) (H : Heap) : Prop := ∀ i : Nat, i < 15 → va_O "java/lang/String" (adK i) A U H ∧ va_OF "java/lang/String" "coder" "B" (.int 0) (adK i) A U H ∧ va_OF "java/lang/String" "value" "[B" (.ref (adV i)) (adK i) A U H ∧ va_T .byte (adV i) (mz_len.getD i 0) (fun j => .int ((mz_byt.getD i []).getD j 0)) A U H
def mz_SC (ad en adK adV : Nat → Nat) (tA tS : Nat) (oF : Option Nat) (U : State) (H : Heap) : Prop :=
  va_En "MacroHouse$Directive" "LMacroHouse$Directive;" mz_dn [("java/lang/Enum", "ordinal", "I", mz_or)] en (mz_A ad 80) U H ∧
  va_Ef 16 "MacroHouse$Directive" "word" "Ljava/lang/String;" (fun i => .ref (adK (mz_wi.getD i 0))) en (mz_A ad 80) U H ∧
  va_Z "MacroHouse$Directive" "ALL" "[LMacroHouse$Directive;" (.ref tA) (mz_A ad 80) U H ∧
  va_T (.object "MacroHouse$Directive") tA 16 (fun j => .ref (en j)) (mz_A ad 80) U H ∧
  va_Z "MacroHouse$1" "$SwitchMap$MacroHouse$Directive" "[I" (.ref tS) (mz_A ad 80) U H ∧
  va_T .int tS 16 (fun j => .int (mz_sw.getD j 0)) (mz_A ad 80) U H ∧
  mz_SS adK adV (mz_A ad 80) U H ∧
  va_Z "java/lang/String" "COMPACT_STRINGS" "Z" (.int 1) (mz_A ad 80) U H ∧
  va_Z "jdk/internal/util/Preconditions" "SIOOBE_FORMATTER" "Ljava/util/function/BiFunction;" (va_rf oF) (mz_A ad 80) U H
theorem mz_SC_k {ad en adK adV : Nat → Nat} {tA tS : Nat} {oF : Option Nat} : mz_SK (mz_SC ad en adK adV tA tS oF) ad 80 := by
  intro s U H h hq hW
  obtain ⟨h1, h2, h3, h4, h5, h6, h7, h8, h9⟩ := h
  have hv := hW.alike
  exact ⟨(h1.kept hq).moved hv, (h2.kept hq).moved hv, (h3.kept hq).moved hv, (h4.kept hq).moved hv, (h5.kept hq).moved hv, (h6.kept hq).moved hv, fun i hi => ⟨((h7 i hi).1.kept hq).moved hv, ((h7 i hi).2.1.kept hq).moved hv, ((h7 i hi).2.2.1.kept hq).moved hv, ((h7 i hi).2.2.2.kept hq).moved hv⟩, (h8.kept hq).moved hv, (h9.kept hq).moved hv⟩
section MZS
variable {ad en adK adV : Nat → Nat} {tA tS : Nat} {oF : Option Nat} {dC : Nat → ClassId} {dI : Nat → Nat → Nat} {ca : Nat → ClassId} {tab : mz_Tab}
variable {p : Program} {l : Launch} {e : Env} {R : Room} {s : State} {m : MethodId} {args : Array Value} {below : List Frame} {meth : Method} {c : Code} {H : Heap} {locs : List Loc} {cells slots : Nat} {Q : State → Prop}
variable {cc : ByteArray} {nL pc : Nat} {own : String} {ret : Option FieldType} {ls : Array Slot} {rest : List Value} {t : mz_St}
theorem mz_gse (E : mz_En (mz_SC ad en adK adV tA tS oF) 80 mz_cl dC dI ad ca p s m meth c cc nL own ret) (w : mz_Wd tab 80 mz_cl dC dI ad en ca s t H locs) (x : Int32) {nm : String} {idx : Nat} (hi : x.toNatClampNeg < 16) (hn : mz_dn.getD x.toNatClampNeg "" = nm) (hl : Cond.fieldLink own idx "MacroHouse$Directive" nm "LMacroHouse$Directive;" ∈ mz_tb) (hd : decode cc pc = .ok (.getstatic idx, 3))
    (kk : W p l e R s m args below meth c H locs cells slots Q (F0 m (pc + 3) ls (.ref (en x.toNatClampNeg) :: rest))) : W p l e R s m args below meth c H locs cells slots Q (F0 m pc ls rest) := by
  subst hn
  obtain ⟨hx, hb, -, hown, hcx, hK, -, hSX, -, -, -⟩ := E
  exact va_gets hx hb (hSX.1.1 _ hi).1 w.2 hown (hcx.at args _ hl) (fun _ h => h) hd kk
theorem mz_gsA (E : mz_En (mz_SC ad en adK adV tA tS oF) 80 mz_cl dC dI ad ca p s m meth c cc nL own ret) (w : mz_Wd tab 80 mz_cl dC dI ad en ca s t H locs) {idx : Nat} (hl : Cond.fieldLink own idx "MacroHouse$Directive" "ALL" "[LMacroHouse$Directive;" ∈ mz_tb) (hd : decode cc pc = .ok (.getstatic idx, 3))
    (kk : W p l e R s m args below meth c H locs cells slots Q (F0 m (pc + 3) ls (.ref tA :: rest))) : W p l e R s m args below meth c H locs cells slots Q (F0 m pc ls rest) := by
  obtain ⟨hx, hb, -, hown, hcx, hK, -, hSX, -, -, -⟩ := E
  exact va_gets hx hb hSX.2.2.1 w.2 hown (hcx.at args _ hl) (fun _ h => h) hd kk
theorem mz_gsS (E : mz_En (mz_SC ad en adK adV tA tS oF) 80 mz_cl dC dI ad ca p s m meth c cc nL own ret) (w : mz_Wd tab 80 mz_cl dC dI ad en ca s t H locs) {idx : Nat} (hl : Cond.fieldLink own idx "MacroHouse$1" "$SwitchMap$MacroHouse$Directive" "[I" ∈ mz_tb) (hd : decode cc pc = .ok (.getstatic idx, 3))
    (kk : W p l e R s m args below meth c H locs cells slots Q (F0 m (pc + 3) ls (.ref tS :: rest))) : W p l e R s m args below meth c H locs cells slots Q (F0 m pc ls rest) := by
  obtain ⟨hx, hb, -, hown, hcx, hK, -, hSX, -, -, -⟩ := E
  exact va_gets hx hb hSX.2.2.2.2.1 w.2 hown (hcx.at args _ hl) (fun _ h => h) hd kk
theorem mz_gsC (E : mz_En (mz_SC ad en adK adV tA tS oF) 80 mz_cl dC dI ad ca p s m meth c cc nL own ret) (w : mz_Wd tab 80 mz_cl dC dI ad en ca s t H locs) {idx : Nat} (hl : Cond.fieldLink own idx "java/lang/String" "COMPACT_STRINGS" "Z" ∈ mz_tb) (hd : decode cc pc = .ok (.getstatic idx, 3))
    (kk : W p l e R s m args below meth c H locs cells slots Q (F0 m (pc + 3) ls (.int (1 : Int32) :: rest))) : W p l e R s m args below meth c H locs cells slots Q (F0 m pc ls rest) := by
  obtain ⟨hx, hb, -, hown, hcx, hK, -, hSX, -, -, -⟩ := E
  exact va_gets hx hb hSX.2.2.2.2.2.2.2.1 w.2 hown (hcx.at args _ hl) (fun _ h => h) hd kk
theorem mz_gsF (E : mz_En (mz_SC ad en adK adV tA tS oF) 80 mz_cl dC dI ad ca p s m meth c cc nL own ret) (w : mz_Wd tab 80 mz_cl dC dI ad en ca s t H locs) {idx : Nat} (hl : Cond.fieldLink own idx "jdk/internal/util/Preconditions" "SIOOBE_FORMATTER" "Ljava/util/function/BiFunction;" ∈ mz_tb) (hd : decode cc pc = .ok (.getstatic idx, 3))
    (kk : W p l e R s m args below meth c H locs cells slots Q (F0 m (pc + 3) ls (va_rf oF :: rest))) : W p l e R s m args below meth c H locs cells slots Q (F0 m pc ls rest) := by
  obtain ⟨hx, hb, -, hown, hcx, hK, -, hSX, -, -, -⟩ := E
  exact va_gets hx hb hSX.2.2.2.2.2.2.2.2 w.2 hown (hcx.at args _ hl) (fun _ h => h) hd kk
theorem mz_lnA (E : mz_En (mz_SC ad en adK adV tA tS oF) 80 mz_cl dC dI ad ca p s m meth c cc nL own ret) (w : mz_Wd tab 80 mz_cl dC dI ad en ca s t H locs) (hd : decode cc pc = .ok (.arraylength, 1))
    (kk : W p l e R s m args below meth c H locs cells slots Q (F0 m (pc + 1) ls (.int (16 : Int32) :: rest))) : W p l e R s m args below meth c H locs cells slots Q (F0 m pc ls (.ref tA :: rest)) := by
  obtain ⟨hx, hb, -, hown, hcx, hK, -, hSX, -, -, -⟩ := E
  exact va_tlen hx hb hSX.2.2.2.1 w.2 rfl hd kk
theorem mz_ldA (E : mz_En (mz_SC ad en adK adV tA tS oF) 80 mz_cl dC dI ad ca p s m meth c cc nL own ret) (w : mz_Wd tab 80 mz_cl dC dI ad en ca s t H locs) {i : Int32} (hi : vp_in i 16) (hd : decode cc pc = .ok (.aaload, 1))
    (kk : W p l e R s m args below meth c H locs cells slots Q (F0 m (pc + 1) ls (.ref (en i.toNatClampNeg) :: rest))) : W p l e R s m args below meth c H locs cells slots Q (F0 m pc ls (.int i :: .ref tA :: rest)) := by
  obtain ⟨hx, hb, -, hown, hcx, hK, -, hSX, -, -, -⟩ := E
  obtain ⟨cell, h1, h2, h3, h4, h5, h6, h7⟩ := hSX.2.2.2.1.kept w.2.2.1
  have hlt : i.toNatClampNeg < 16 := Nat.not_le.mp fun q => hi (Or.inr q)
  exact W.aald (v := .ref (en i.toNatClampNeg)) (ty := .object "MacroHouse$Directive") hx hb h1 h2 rfl h3 (fun q => by rcases q with q | q; exact hi (Or.inl q); exact hi (Or.inr (Nat.le_trans h4 q))) (h6 _ hlt) rfl rfl hd kk
theorem mz_ldS (E : mz_En (mz_SC ad en adK adV tA tS oF) 80 mz_cl dC dI ad ca p s m meth c cc nL own ret) (w : mz_Wd tab 80 mz_cl dC dI ad en ca s t H locs) {i : Int32} (hi : vp_in i 16) (hd : decode cc pc = .ok (.iaload, 1))
    (kk : W p l e R s m args below meth c H locs cells slots Q (F0 m (pc + 1) ls (.int (mz_sw.getD i.toNatClampNeg 0) :: rest))) : W p l e R s m args below meth c H locs cells slots Q (F0 m pc ls (.int i :: .ref tS :: rest)) := by
  obtain ⟨hx, hb, -, hown, hcx, hK, -, hSX, -, -, -⟩ := E
  exact va_ti hx hb hSX.2.2.2.2.2.1 w.2 hi rfl hd kk
theorem mz_aeq (E : mz_En (mz_SC ad en adK adV tA tS oF) 80 mz_cl dC dI ad ca p s m meth c cc nL own ret) {x y : Nat} {off : Int} {tgt : Nat} (hi : x < 16 ∧ y < 16) (hd : decode cc pc = .ok (.if_acmp .eq off, 3)) (ht : (pc : Int) + off = (tgt : Int))
    (kt : x = y → W p l e R s m args below meth c H locs cells slots Q (F0 m tgt ls rest)) (kf : ¬ x = y → W p l e R s m args below meth c H locs cells slots Q (F0 m (pc + 3) ls rest)) : W p l e R s m args below meth c H locs cells slots Q (F0 m pc ls (.ref (en y) :: .ref (en x) :: rest)) := by
  obtain ⟨hx, hb, -, hown, hcx, hK, -, hSX, -, -, -⟩ := E
  exact lv_acmp_eq (rx := some (en x)) (ry := some (en y)) hx hb hd ht (fun h => kt (hSX.1.2 x y hi.1 hi.2 (Option.some.inj h))) (fun h => kf (fun q => h (by rw [q])))
theorem mz_ane (E : mz_En (mz_SC ad en adK adV tA tS oF) 80 mz_cl dC dI ad ca p s m meth c cc nL own ret) {x y : Nat} {off : Int} {tgt : Nat} (hi : x < 16 ∧ y < 16) (hd : decode cc pc = .ok (.if_acmp .ne off, 3)) (ht : (pc : Int) + off = (tgt : Int))
    (kt : ¬ x = y → W p l e R s m args below meth c H locs cells slots Q (F0 m tgt ls rest)) (kf : x = y → W p l e R s m args below meth c H locs cells slots Q (F0 m (pc + 3) ls rest)) : W p l e R s m args below meth c H locs cells slots Q (F0 m pc ls (.ref (en y) :: .ref (en x) :: rest)) := by
  obtain ⟨hx, hb, -, hown, hcx, hK, -, hSX, -, -, -⟩ := E
  exact lv_acmp_ne (rx := some (en x)) (ry := some (en y)) hx hb hd ht (fun h => kt (fun q => h (by rw [q]))) (fun h => kf (hSX.1.2 x y hi.1 hi.2 (Option.some.inj h)))
theorem mz_gew (E : mz_En (mz_SC ad en adK adV tA tS oF) 80 mz_cl dC dI ad ca p s m meth c cc nL own ret) (w : mz_Wd tab 80 mz_cl dC dI ad en ca s t H locs) {x idx : Nat} (hi : x < 16) (hl : Cond.fieldLink own idx "MacroHouse$Directive" "word" "Ljava/lang/String;" ∈ mz_tb) (hd : decode cc pc = .ok (.getfield idx, 3))
    (kk : W p l e R s m args below meth c H locs cells slots Q (F0 m (pc + 3) ls (.ref (adK (mz_wi.getD x 0)) :: rest))) : W p l e R s m args below meth c H locs cells slots Q (F0 m pc ls (.ref (en x) :: rest)) := by
  obtain ⟨hx, hb, -, hown, hcx, hK, -, hSX, -, -, -⟩ := E
  exact va_getX hx hb hSX.2.1 hi w.2 hown (hcx.at args _ hl) (fun _ h => h) hd kk
theorem mz_geo (E : mz_En (mz_SC ad en adK adV tA tS oF) 80 mz_cl dC dI ad ca p s m meth c cc nL own ret) (w : mz_Wd tab 80 mz_cl dC dI ad en ca s t H locs) {x idx : Nat} (hi : x < 16) (hl : Cond.fieldLink own idx "java/lang/Enum" "ordinal" "I" ∈ mz_tb) (hd : decode cc pc = .ok (.getfield idx, 3))
    (kk : W p l e R s m args below meth c H locs cells slots Q (F0 m (pc + 3) ls (.int (mz_or.getD x 0) :: rest))) : W p l e R s m args below meth c H locs cells slots Q (F0 m pc ls (.ref (en x) :: rest)) := by
  obtain ⟨hx, hb, -, hown, hcx, hK, -, hSX, -, -, -⟩ := E
  exact va_getE (q := ("java/lang/Enum", "ordinal", "I", mz_or)) hx hb hSX.1 hi w.2 hown (List.mem_singleton.mpr rfl) (hcx.at args _ hl) (fun _ h => h) hd kk
theorem mz_gsv (E : mz_En (mz_SC ad en adK adV tA tS oF) 80 mz_cl dC dI ad ca p s m meth c cc nL own ret) (w : mz_Wd tab 80 mz_cl dC dI ad en ca s t H locs) {x idx : Nat} (hi : x < 15) (hl : Cond.fieldLink own idx "java/lang/String" "value" "[B" ∈ mz_tb) (hd : decode cc pc = .ok (.getfield idx, 3))
    (kk : W p l e R s m args below meth c H locs cells slots Q (F0 m (pc + 3) ls (.ref (adV x) :: rest))) : W p l e R s m args below meth c H locs cells slots Q (F0 m pc ls (.ref (adK x) :: rest)) := by
  obtain ⟨hx, hb, -, hown, hcx, hK, -, hSX, -, -, -⟩ := E
  exact vk_getf hx hb (hSX.2.2.2.2.2.2.1 x hi).2.2.1 w.2 hown (hcx.at args _ hl) (fun _ h => h) hd kk
theorem mz_gsc (E : mz_En (mz_SC ad en adK adV tA tS oF) 80 mz_cl dC dI ad ca p s m meth c cc nL own ret) (w : mz_Wd tab 80 mz_cl dC dI ad en ca s t H locs) {x idx : Nat} (hi : x < 15) (hl : Cond.fieldLink own idx "java/lang/String" "coder" "B" ∈ mz_tb) (hd : decode cc pc = .ok (.getfield idx, 3))
    (kk : W p l e R s m args below meth c H locs cells slots Q (F0 m (pc + 3) ls (.int (0 : Int32) :: rest))) : W p l e R s m args below meth c H locs cells slots Q (F0 m pc ls (.ref (adK x) :: rest)) := by
  obtain ⟨hx, hb, -, hown, hcx, hK, -, hSX, -, -, -⟩ := E
  exact vk_getf hx hb (hSX.2.2.2.2.2.2.1 x hi).2.1 w.2 hown (hcx.at args _ hl) (fun _ h => h) hd kk
theorem mz_lnK (E : mz_En (mz_SC ad en adK adV tA tS oF) 80 mz_cl dC dI ad ca p s m meth c cc nL own ret) (w : mz_Wd tab 80 mz_cl dC dI ad en ca s t H locs) {x : Nat} (hi : x < 15) (hd : decode cc pc = .ok (.arraylength, 1))
    (kk : W p l e R s m args below meth c H locs cells slots Q (F0 m (pc + 1) ls (.int (Int32.ofNat (mz_len.getD x 0)) :: rest))) : W p l e R s m args below meth c H locs cells slots Q (F0 m pc ls (.ref (adV x) :: rest)) := by
  obtain ⟨hx, hb, -, hown, hcx, hK, -, hSX, -, -, -⟩ := E
  exact va_tlen hx hb (hSX.2.2.2.2.2.2.1 x hi).2.2.2 w.2 rfl hd kk
theorem mz_ldK (E : mz_En (mz_SC ad en adK adV tA tS oF) 80 mz_cl dC dI ad ca p s m meth c cc nL own ret) (w : mz_Wd tab 80 mz_cl dC dI ad en ca s t H locs) {x : Nat} {i : Int32} (hx0 : x < 15) (hi : vp_in i (mz_len.getD x 0)) (hd : decode cc pc = .ok (.baload, 1))
    (kk : W p l e R s m args below meth c H locs cells slots Q (F0 m (pc + 1) ls (.int ((mz_byt.getD x []).getD i.toNatClampNeg 0) :: rest))) : W p l e R s m args below meth c H locs cells slots Q (F0 m pc ls (.int i :: .ref (adV x) :: rest)) := by
  obtain ⟨hx, hb, -, hown, hcx, hK, -, hSX, -, -, -⟩ := E
  exact va_tb hx hb (hSX.2.2.2.2.2.2.1 x hx0).2.2.2 w.2 hi rfl hd kk
/-- calls on an enum constant, on a text -/
theorem mz_callG (E : mz_En (mz_SC ad en adK adV tA tS oF) 80 mz_cl dC dI ad ca p s m meth c cc nL own ret) (w : mz_Wd tab 80 mz_cl dC dI ad en ca s t H locs) {y : MethodName} {bytes : ByteArray} {maxL idx n : Nat} {rt : Option FieldType} {rm : Room} {b : Nat} {As : List Value} {v0 : Option Value} {u : mz_St} {C : String} {st0 : List Value}
    (hM : mz_C (mz_SC ad en adK adV tA tS oF) tab 80 mz_cl dC dI ad en ca l y bytes maxL rt rm (.ref b :: As) t v0 u) (hrecv : ∃ cell : Cell, H[b]? = some cell ∧ cell.vm.isStatics = false ∧ s.vm.findClass C = some cell.cls)
    (hcd : Cond.code y bytes maxL rt ∈ mz_tb) (hini : Cond.initialized y.cls ∈ mz_tb) (hlk : Cond.methodLink own idx y ∈ mz_tb) (him : Cond.instanceMethod y ∈ mz_tb) (hse : Cond.selects C y y ∈ mz_tb)
    (hdd : y.cls ≠ "java/lang/invoke/MethodHandle" ∧ y.cls ≠ "java/lang/invoke/VarHandle" ∧ (parseMethodDescriptor y.desc).map (fun d => d.parameters.length) = some n) (hR : (rm.cells = 0 ∧ rm.slots = 0) ∧ rm.frames + 1 ≤ R.frames ∧ 8 + (maxL + 11) + rm.locals ≤ R.locals)
    (hn : As.length = n) (hsz : ls.size = nL) (hst : st0 = As.reverse ++ .ref b :: rest) (hw8 : (rest.map fun v => v.category).sum ≤ 8) (hd : decode cc pc = .ok (.invokevirtual idx, 3)) (hroom : cells ≤ R.cells ∧ slots ≤ R.slots)
    {st1 : List Value} (hs1 : v0.toList ++ rest = st1) (kk : ∀ (H1 : Heap) (locs1 : List Loc), mz_Wd tab 80 mz_cl dC dI ad en ca s u H1 locs1 → W p l e R s m args below meth c H1 locs1 cells slots Q (F0 m (pc + 3) ls st1)) : W p l e R s m args below meth c H locs cells slots Q (F0 m pc ls st0) := by
  obtain ⟨hx, hb, hml, hown, hcx, hK, hJ, hSX, -, -, hSK⟩ := id E
  have hts := hcx.at args
  have hG : GoodIn mz_tb [Cond.code y bytes maxL rt] := fun w0 h0 => by
    rw [List.mem_singleton] at h0
    subst h0
    exact ⟨hcd, Or.inl rfl⟩
  have cw : CallW R s args own C idx y bytes maxL rt [Cond.code y bytes maxL rt] rm 0 0 n := ⟨callB_of n hts hG rfl hR.1.1 hR.1.2 (hts _ hini) (hts _ hlk) hdd hR.2, hts _ him, hts _ hse⟩
  exact mz_call w (va_runV (As := As) (rest := rest) ⟨hx, hb, hml, hown, hts⟩ hM cw ⟨(mz_pre E w).1, hrecv, (mz_pre E w).2⟩ rfl hn hsz hst (lv_room hw8) hd ⟨hroom.1, hroom.2⟩) hs1 kk
theorem mz_rcE (E : mz_En (mz_SC ad en adK adV tA tS oF) 80 mz_cl dC dI ad ca p s m meth c cc nL own ret) (w : mz_Wd tab 80 mz_cl dC dI ad en ca s t H locs) {x : Nat} (hi : x < 16) : ∃ cell : Cell, H[en x]? = some cell ∧ cell.vm.isStatics = false ∧ s.vm.findClass "MacroHouse$Directive" = some cell.cls := by
  obtain ⟨hx, hb, -, hown, hcx, hK, -, hSX, -, -, -⟩ := E
  exact va_recvE hSX.1 hi w.2
theorem mz_rcK (E : mz_En (mz_SC ad en adK adV tA tS oF) 80 mz_cl dC dI ad ca p s m meth c cc nL own ret) (w : mz_Wd tab 80 mz_cl dC dI ad en ca s t H locs) {x : Nat} (hi : x < 15) : ∃ cell : Cell, H[adK x]? = some cell ∧ cell.vm.isStatics = false ∧ s.vm.findClass "java/lang/String" = some cell.cls := by
  obtain ⟨hx, hb, -, hown, hcx, hK, -, hSX, -, -, -⟩ := E
  obtain ⟨cell, h1, h2, h3, -⟩ := (hSX.2.2.2.2.2.2.1 x hi).1.kept w.2.2.1
  exact ⟨cell, h1, h2, h3⟩
/-- a call of a method that is inherited -/
theorem mz_callU (E : mz_En (mz_SC ad en adK adV tA tS oF) 80 mz_cl dC dI ad ca p s m meth c cc nL own ret) (w : mz_Wd tab 80 mz_cl dC dI ad en ca s t H locs) {x y : MethodName} {bytes : ByteArray} {maxL idx n : Nat} {rt : Option FieldType} {rm : Room} {b : Nat} {As : List Value} {v0 : Option Value} {u : mz_St} {C owner : String} {st0 : List Value}
    (hM : mz_C (mz_SC ad en adK adV tA tS oF) tab 80 mz_cl dC dI ad en ca l y bytes maxL rt rm (.ref b :: As) t v0 u) (hrecv : ∃ cell : Cell, H[b]? = some cell ∧ cell.vm.isStatics = false ∧ s.vm.findClass C = some cell.cls)
    (hcd : Cond.code y bytes maxL rt ∈ mz_tb) (hini : Cond.initialized y.cls ∈ mz_tb) (hlk : Cond.methodLink own idx x ∈ mz_tb) (hsm : Cond.sameMethod x.cls owner x.name x.desc ∈ mz_tb) (him : Cond.instanceMethod y ∈ mz_tb) (hse : Cond.selects C x y ∈ mz_tb) (hyx : y = ⟨owner, x.name, x.desc⟩)
    (hdd : owner ≠ "java/lang/invoke/MethodHandle" ∧ owner ≠ "java/lang/invoke/VarHandle" ∧ (parseMethodDescriptor x.desc).map (fun d => d.parameters.length) = some n) (hR : (rm.cells = 0 ∧ rm.slots = 0) ∧ rm.frames + 1 ≤ R.frames ∧ 8 + (maxL + 11) + rm.locals ≤ R.locals)
    (hn : As.length = n) (hsz : ls.size = nL) (hst : st0 = As.reverse ++ .ref b :: rest) (hw8 : (rest.map fun v => v.category).sum ≤ 8) (hd : decode cc pc = .ok (.invokevirtual idx, 3)) (hroom : cells ≤ R.cells ∧ slots ≤ R.slots)
    {st1 : List Value} (hs1 : v0.toList ++ rest = st1) (kk : ∀ (H1 : Heap) (locs1 : List Loc), mz_Wd tab 80 mz_cl dC dI ad en ca s u H1 locs1 → W p l e R s m args below meth c H1 locs1 cells slots Q (F0 m (pc + 3) ls st1)) : W p l e R s m args below meth c H locs cells slots Q (F0 m pc ls st0) := by
  obtain ⟨hx, hb, hml, hown, hcx, hK, hJ, hSX, -, -, hSK⟩ := id E
  have hts := hcx.at args
  have hgood : ∀ z ∈ mz_tb, (z.onTables && z.keeps) = true ∨ ∃ ty, z = .arrayClass ty := fun z hz => good_of_word (List.mem_filter.mp hz).2
  have hT : GoodIn mz_tb (va_wsU own idx C owner x y [Cond.code y bytes maxL rt]) := fun z hz => by
    have hz2 : z ∈ mz_tb := by
      simp only [va_wsU, List.mem_append, List.mem_cons, List.not_mem_nil, or_false] at hz
      rcases hz with (rfl | rfl | rfl | rfl | rfl) | rfl
      · exact hlk
      · exact hsm
      · exact hse
      · exact him
      · exact hini
      · exact hcd
    exact ⟨hz2, hgood z hz2⟩
  exact mz_call w (va_runU (As := As) (rest := rest) ⟨hx, hb, hml, hown, hts⟩ hM (va_cwU n hts hT rfl hR.1.1 hR.1.2 hyx hdd hR.2) ⟨(mz_pre E w).1, hrecv, (mz_pre E w).2⟩ rfl hn hsz hst (lv_room hw8) hd ⟨hroom.1, hroom.2⟩) hs1 kk
end MZS
section MZR
variable {SX : State → Heap → Prop} {tab : mz_Tab} {N : Nat} {cl : List vw_C} {dC : Nat → ClassId} {dI : Nat → Nat → Nat} {ad en : Nat → Nat} {ca : Nat → ClassId}
variable {p : Program} {l : Launch} {e : Env} {R : Room} {s : State} {m : MethodId} {args : Array Value} {below : List Frame} {meth : Method} {c : Code} {H : Heap} {locs : List Loc} {cells slots : Nat}
variable {cc : ByteArray} {nL pc : Nat} {own : String} {ls : Array Slot}
/-- an answer of a small type -/
theorem mz_nret {v : Int32} {u : mz_St} {v0 : Option Value} {ty : FieldType} (E : mz_En SX N cl dC dI ad ca p s m meth c cc nL own (some ty)) (w : mz_Wd tab N cl dC dI ad en ca s u H locs) (hn : narrow ty (.int v) = .int v) (hv : v0 = some (.int v)) (hd : decode cc pc = .ok (.ireturn, 1)) :
    W p l e R s m args below meth c H locs cells slots (MQ below (mz_Q SX tab N cl dC dI ad en ca v0 u) args s cells slots (mz_A ad N)) (F0 m pc ls [.int v]) := by
  subst hv
  obtain ⟨hx, hb, -, -, -, -, -, -, hlocks, hr, -⟩ := id E
  exact W.zret hx hb hr hn (mz_ret E w).1 (mz_ret (v0 := none) (args := args) E w).2 hd
end MZR
