/-! What the start says of what nobody writes -/
def mz_S0 (A : Nat → Prop) (en adK adV : Nat → Nat) (tA tS : Nat) (oF : Option Nat) (U : State) (H : Heap) : Prop :=
  va_En "MacroHouse$Directive" "LMacroHouse$Directive;" mz_dn [("java/lang/Enum", "ordinal", "I", mz_or)] en A U H ∧
  va_Ef 16 "MacroHouse$Directive" "word" "Ljava/lang/String;" (fun i => .ref (adK (mz_wi.getD i 0))) en A U H ∧
  va_Z "MacroHouse$Directive" "ALL" "[LMacroHouse$Directive;" (.ref tA) A U H ∧
  va_T (.object "MacroHouse$Directive") tA 16 (fun j => .ref (en j)) A U H ∧
  va_Z "MacroHouse$1" "$SwitchMap$MacroHouse$Directive" "[I" (.ref tS) A U H ∧
  va_T .int tS 16 (fun j => .int (mz_sw.getD j 0)) A U H ∧
  mz_SS adK adV A U H ∧
  va_Z "java/lang/String" "COMPACT_STRINGS" "Z" (.int 1) A U H ∧
  va_Z "jdk/internal/util/Preconditions" "SIOOBE_FORMATTER" "Ljava/util/function/BiFunction;" (va_rf oF) A U H
theorem mz_S0.to {A : Nat → Prop} {ad en adK adV : Nat → Nat} {tA tS : Nat} {oF : Option Nat} {s U : State} {H H1 : Heap} (h : mz_S0 A en adK adV tA tS oF s H) (hAB : ∀ q, mz_A ad 80 q → A q) (hk : ∀ q : Nat, q < H.size → ¬ A q → H1[q]? = H[q]?) (hW : s.WarmedH U.vm) : mz_SC ad en adK adV tA tS oF U H1 := by
  obtain ⟨h1, h2, h3, h4, h5, h6, h7, h8, h9⟩ := h
  have hv := hW.alike
  exact ⟨((h1.kept hk).moved hv).narrow hAB, ((h2.kept hk).moved hv).narrow hAB, ((h3.kept hk).moved hv).narrow hAB, ((h4.kept hk).moved hv).narrow hAB, ((h5.kept hk).moved hv).narrow hAB, ((h6.kept hk).moved hv).narrow hAB, fun i hi => ⟨(((h7 i hi).1.kept hk).moved hv).narrow hAB, (((h7 i hi).2.1.kept hk).moved hv).narrow hAB, (((h7 i hi).2.2.1.kept hk).moved hv).narrow hAB, (((h7 i hi).2.2.2.kept hk).moved hv).narrow hAB⟩, ((h8.kept hk).moved hv).narrow hAB, ((h9.kept hk).moved hv).narrow hAB⟩
abbrev st_g : List Cond := flatC (Jvm.Cond.and given_1 narrow_1)
abbrev st_h : List Cond := st_g.drop 350
theorem st_hm {w : Cond} (h : w ∈ st_h) : w ∈ st_g := List.mem_of_mem_drop h
abbrev st_e (i : Nat) : Term := .static "MacroHouse$Directive" (mz_dn.getD i "") "LMacroHouse$Directive;"
abbrev st_k (i : Nat) : Term := .string "MacroHouse$Directive" (mz_sk.getD i 0)
abbrev st_A : Term := .static "MacroHouse$Directive" "ALL" "[LMacroHouse$Directive;"
abbrev st_W : Term := .static "MacroHouse$1" "$SwitchMap$MacroHouse$Directive" "[I"
set_option maxRecDepth 100000 in
theorem st_1 : ∀ i, i < 16 → Cond.exactly (st_e i) "MacroHouse$Directive" ∈ st_g ∧ Cond.eq (.field (st_e i) "java/lang/Enum" "ordinal" "I") (.int (mz_or.getD i 0)) ∈ st_g ∧ Cond.eq (.field (st_e i) "MacroHouse$Directive" "word" "Ljava/lang/String;") (st_k (mz_wi.getD i 0)) ∈ st_g := by decide +kernel
set_option maxRecDepth 100000 in
theorem st_2 : ∀ i, i < 16 → Cond.laysStatic "MacroHouse$Directive" (mz_dn.getD i "") "LMacroHouse$Directive;" ∈ lw_tbl := by decide +kernel
set_option maxRecDepth 100000 in
theorem st_3 : ∀ i, i < 16 → Cond.eq (.elem st_A (.int (Int32.ofNat i))) (st_e i) ∈ st_g ∧ Cond.eq (.elem st_W (.int (Int32.ofNat i))) (.int (mz_sw.getD i 0)) ∈ st_g := by decide +kernel
set_option maxRecDepth 100000 in
theorem st_4_0 : Cond.exactly (st_k 0) "java/lang/String" ∈ st_h ∧ Cond.eq (.field (st_k 0) "java/lang/String" "coder" "B") (.int 0) ∈ st_h ∧ Cond.arrayOf (.field (st_k 0) "java/lang/String" "value" "[B") .byte ∈ st_h ∧ Cond.eq (.length (.field (st_k 0) "java/lang/String" "value" "[B")) (.int (Int32.ofNat (mz_len.getD 0 0))) ∈ st_h := by decide +kernel
set_option maxRecDepth 100000 in
theorem st_5_0 : ∀ j, j < mz_len.getD 0 0 → Cond.eq (.elem (.field (st_k 0) "java/lang/String" "value" "[B") (.int (Int32.ofNat j))) (.int ((mz_byt.getD 0 []).getD j 0)) ∈ st_h := by decide +kernel
set_option maxRecDepth 100000 in
theorem st_4_1 : Cond.exactly (st_k 1) "java/lang/String" ∈ st_h ∧ Cond.eq (.field (st_k 1) "java/lang/String" "coder" "B") (.int 0) ∈ st_h ∧ Cond.arrayOf (.field (st_k 1) "java/lang/String" "value" "[B") .byte ∈ st_h ∧ Cond.eq (.length (.field (st_k 1) "java/lang/String" "value" "[B")) (.int (Int32.ofNat (mz_len.getD 1 0))) ∈ st_h := by decide +kernel
set_option maxRecDepth 100000 in
theorem st_5_1 : ∀ j, j < mz_len.getD 1 0 → Cond.eq (.elem (.field (st_k 1) "java/lang/String" "value" "[B") (.int (Int32.ofNat j))) (.int ((mz_byt.getD 1 []).getD j 0)) ∈ st_h := by decide +kernel
set_option maxRecDepth 100000 in
theorem st_4_2 : Cond.exactly (st_k 2) "java/lang/String" ∈ st_h ∧ Cond.eq (.field (st_k 2) "java/lang/String" "coder" "B") (.int 0) ∈ st_h ∧ Cond.arrayOf (.field (st_k 2) "java/lang/String" "value" "[B") .byte ∈ st_h ∧ Cond.eq (.length (.field (st_k 2) "java/lang/String" "value" "[B")) (.int (Int32.ofNat (mz_len.getD 2 0))) ∈ st_h := by decide +kernel
set_option maxRecDepth 100000 in
theorem st_5_2 : ∀ j, j < mz_len.getD 2 0 → Cond.eq (.elem (.field (st_k 2) "java/lang/String" "value" "[B") (.int (Int32.ofNat j))) (.int ((mz_byt.getD 2 []).getD j 0)) ∈ st_h := by decide +kernel
set_option maxRecDepth 100000 in
theorem st_4_3 : Cond.exactly (st_k 3) "java/lang/String" ∈ st_h ∧ Cond.eq (.field (st_k 3) "java/lang/String" "coder" "B") (.int 0) ∈ st_h ∧ Cond.arrayOf (.field (st_k 3) "java/lang/String" "value" "[B") .byte ∈ st_h ∧ Cond.eq (.length (.field (st_k 3) "java/lang/String" "value" "[B")) (.int (Int32.ofNat (mz_len.getD 3 0))) ∈ st_h := by decide +kernel
set_option maxRecDepth 100000 in
theorem st_5_3 : ∀ j, j < mz_len.getD 3 0 → Cond.eq (.elem (.field (st_k 3) "java/lang/String" "value" "[B") (.int (Int32.ofNat j))) (.int ((mz_byt.getD 3 []).getD j 0)) ∈ st_h := by decide +kernel
set_option maxRecDepth 100000 in
theorem st_4_4 : Cond.exactly (st_k 4) "java/lang/String" ∈ st_h ∧ Cond.eq (.field (st_k 4) "java/lang/String" "coder" "B") (.int 0) ∈ st_h ∧ Cond.arrayOf (.field (st_k 4) "java/lang/String" "value" "[B") .byte ∈ st_h ∧ Cond.eq (.length (.field (st_k 4) "java/lang/String" "value" "[B")) (.int (Int32.ofNat (mz_len.getD 4 0))) ∈ st_h := by decide +kernel
set_option maxRecDepth 100000 in
theorem st_5_4 : ∀ j, j < mz_len.getD 4 0 → Cond.eq (.elem (.field (st_k 4) "java/lang/String" "value" "[B") (.int (Int32.ofNat j))) (.int ((mz_byt.getD 4 []).getD j 0)) ∈ st_h := by decide +kernel
set_option maxRecDepth 100000 in
theorem st_4_5 : Cond.exactly (st_k 5) "java/lang/String" ∈ st_h ∧ Cond.eq (.field (st_k 5) "java/lang/String" "coder" "B") (.int 0) ∈ st_h ∧ Cond.arrayOf (.field (st_k 5) "java/lang/String" "value" "[B") .byte ∈ st_h ∧ Cond.eq (.length (.field (st_k 5) "java/lang/String" "value" "[B")) (.int (Int32.ofNat (mz_len.getD 5 0))) ∈ st_h := by decide +kernel
set_option maxRecDepth 100000 in
theorem st_5_5 : ∀ j, j < mz_len.getD 5 0 → Cond.eq (.elem (.field (st_k 5) "java/lang/String" "value" "[B") (.int (Int32.ofNat j))) (.int ((mz_byt.getD 5 []).getD j 0)) ∈ st_h := by decide +kernel
set_option maxRecDepth 100000 in
theorem st_4_6 : Cond.exactly (st_k 6) "java/lang/String" ∈ st_h ∧ Cond.eq (.field (st_k 6) "java/lang/String" "coder" "B") (.int 0) ∈ st_h ∧ Cond.arrayOf (.field (st_k 6) "java/lang/String" "value" "[B") .byte ∈ st_h ∧ Cond.eq (.length (.field (st_k 6) "java/lang/String" "value" "[B")) (.int (Int32.ofNat (mz_len.getD 6 0))) ∈ st_h := by decide +kernel
set_option maxRecDepth 100000 in
theorem st_5_6 : ∀ j, j < mz_len.getD 6 0 → Cond.eq (.elem (.field (st_k 6) "java/lang/String" "value" "[B") (.int (Int32.ofNat j))) (.int ((mz_byt.getD 6 []).getD j 0)) ∈ st_h := by decide +kernel
set_option maxRecDepth 100000 in
theorem st_4_7 : Cond.exactly (st_k 7) "java/lang/String" ∈ st_h ∧ Cond.eq (.field (st_k 7) "java/lang/String" "coder" "B") (.int 0) ∈ st_h ∧ Cond.arrayOf (.field (st_k 7) "java/lang/String" "value" "[B") .byte ∈ st_h ∧ Cond.eq (.length (.field (st_k 7) "java/lang/String" "value" "[B")) (.int (Int32.ofNat (mz_len.getD 7 0))) ∈ st_h := by decide +kernel
set_option maxRecDepth 100000 in
theorem st_5_7 : ∀ j, j < mz_len.getD 7 0 → Cond.eq (.elem (.field (st_k 7) "java/lang/String" "value" "[B") (.int (Int32.ofNat j))) (.int ((mz_byt.getD 7 []).getD j 0)) ∈ st_h := by decide +kernel
set_option maxRecDepth 100000 in
theorem st_4_8 : Cond.exactly (st_k 8) "java/lang/String" ∈ st_h ∧ Cond.eq (.field (st_k 8) "java/lang/String" "coder" "B") (.int 0) ∈ st_h ∧ Cond.arrayOf (.field (st_k 8) "java/lang/String" "value" "[B") .byte ∈ st_h ∧ Cond.eq (.length (.field (st_k 8) "java/lang/String" "value" "[B")) (.int (Int32.ofNat (mz_len.getD 8 0))) ∈ st_h := by decide +kernel
set_option maxRecDepth 100000 in
theorem st_5_8 : ∀ j, j < mz_len.getD 8 0 → Cond.eq (.elem (.field (st_k 8) "java/lang/String" "value" "[B") (.int (Int32.ofNat j))) (.int ((mz_byt.getD 8 []).getD j 0)) ∈ st_h := by decide +kernel
set_option maxRecDepth 100000 in
theorem st_4_9 : Cond.exactly (st_k 9) "java/lang/String" ∈ st_h ∧ Cond.eq (.field (st_k 9) "java/lang/String" "coder" "B") (.int 0) ∈ st_h ∧ Cond.arrayOf (.field (st_k 9) "java/lang/String" "value" "[B") .byte ∈ st_h ∧ Cond.eq (.length (.field (st_k 9) "java/lang/String" "value" "[B")) (.int (Int32.ofNat (mz_len.getD 9 0))) ∈ st_h := by decide +kernel
set_option maxRecDepth 100000 in
theorem st_5_9 : ∀ j, j < mz_len.getD 9 0 → Cond.eq (.elem (.field (st_k 9) "java/lang/String" "value" "[B") (.int (Int32.ofNat j))) (.int ((mz_byt.getD 9 []).getD j 0)) ∈ st_h := by decide +kernel
set_option maxRecDepth 100000 in
theorem st_4_10 : Cond.exactly (st_k 10) "java/lang/String" ∈ st_h ∧ Cond.eq (.field (st_k 10) "java/lang/String" "coder" "B") (.int 0) ∈ st_h ∧ Cond.arrayOf (.field (st_k 10) "java/lang/String" "value" "[B") .byte ∈ st_h ∧ Cond.eq (.length (.field (st_k 10) "java/lang/String" "value" "[B")) (.int (Int32.ofNat (mz_len.getD 10 0))) ∈ st_h := by decide +kernel
set_option maxRecDepth 100000 in
theorem st_5_10 : ∀ j, j < mz_len.getD 10 0 → Cond.eq (.elem (.field (st_k 10) "java/lang/String" "value" "[B") (.int (Int32.ofNat j))) (.int ((mz_byt.getD 10 []).getD j 0)) ∈ st_h := by decide +kernel
set_option maxRecDepth 100000 in
theorem st_4_11 : Cond.exactly (st_k 11) "java/lang/String" ∈ st_h ∧ Cond.eq (.field (st_k 11) "java/lang/String" "coder" "B") (.int 0) ∈ st_h ∧ Cond.arrayOf (.field (st_k 11) "java/lang/String" "value" "[B") .byte ∈ st_h ∧ Cond.eq (.length (.field (st_k 11) "java/lang/String" "value" "[B")) (.int (Int32.ofNat (mz_len.getD 11 0))) ∈ st_h := by decide +kernel
set_option maxRecDepth 100000 in
theorem st_5_11 : ∀ j, j < mz_len.getD 11 0 → Cond.eq (.elem (.field (st_k 11) "java/lang/String" "value" "[B") (.int (Int32.ofNat j))) (.int ((mz_byt.getD 11 []).getD j 0)) ∈ st_h := by decide +kernel
set_option maxRecDepth 100000 in
theorem st_4_12 : Cond.exactly (st_k 12) "java/lang/String" ∈ st_h ∧ Cond.eq (.field (st_k 12) "java/lang/String" "coder" "B") (.int 0) ∈ st_h ∧ Cond.arrayOf (.field (st_k 12) "java/lang/String" "value" "[B") .byte ∈ st_h ∧ Cond.eq (.length (.field (st_k 12) "java/lang/String" "value" "[B")) (.int (Int32.ofNat (mz_len.getD 12 0))) ∈ st_h := by decide +kernel
set_option maxRecDepth 100000 in
theorem st_5_12 : ∀ j, j < mz_len.getD 12 0 → Cond.eq (.elem (.field (st_k 12) "java/lang/String" "value" "[B") (.int (Int32.ofNat j))) (.int ((mz_byt.getD 12 []).getD j 0)) ∈ st_h := by decide +kernel
set_option maxRecDepth 100000 in
theorem st_4_13 : Cond.exactly (st_k 13) "java/lang/String" ∈ st_h ∧ Cond.eq (.field (st_k 13) "java/lang/String" "coder" "B") (.int 0) ∈ st_h ∧ Cond.arrayOf (.field (st_k 13) "java/lang/String" "value" "[B") .byte ∈ st_h ∧ Cond.eq (.length (.field (st_k 13) "java/lang/String" "value" "[B")) (.int (Int32.ofNat (mz_len.getD 13 0))) ∈ st_h := by decide +kernel
set_option maxRecDepth 100000 in
theorem st_5_13 : ∀ j, j < mz_len.getD 13 0 → Cond.eq (.elem (.field (st_k 13) "java/lang/String" "value" "[B") (.int (Int32.ofNat j))) (.int ((mz_byt.getD 13 []).getD j 0)) ∈ st_h := by decide +kernel
set_option maxRecDepth 100000 in
theorem st_4_14 : Cond.exactly (st_k 14) "java/lang/String" ∈ st_h ∧ Cond.eq (.field (st_k 14) "java/lang/String" "coder" "B") (.int 0) ∈ st_h ∧ Cond.arrayOf (.field (st_k 14) "java/lang/String" "value" "[B") .byte ∈ st_h ∧ Cond.eq (.length (.field (st_k 14) "java/lang/String" "value" "[B")) (.int (Int32.ofNat (mz_len.getD 14 0))) ∈ st_h := by decide +kernel
set_option maxRecDepth 100000 in
theorem st_5_14 : ∀ j, j < mz_len.getD 14 0 → Cond.eq (.elem (.field (st_k 14) "java/lang/String" "value" "[B") (.int (Int32.ofNat j))) (.int ((mz_byt.getD 14 []).getD j 0)) ∈ st_h := by decide +kernel
theorem st_4 (i : Nat) (hi : i < 15) : Cond.exactly (st_k i) "java/lang/String" ∈ st_h ∧ Cond.eq (.field (st_k i) "java/lang/String" "coder" "B") (.int 0) ∈ st_h ∧ Cond.arrayOf (.field (st_k i) "java/lang/String" "value" "[B") .byte ∈ st_h ∧ Cond.eq (.length (.field (st_k i) "java/lang/String" "value" "[B")) (.int (Int32.ofNat (mz_len.getD i 0))) ∈ st_h := by
  match i, hi with
  | 0, _ => exact st_4_0
  | 1, _ => exact st_4_1
  | 2, _ => exact st_4_2
  | 3, _ => exact st_4_3
  | 4, _ => exact st_4_4
  | 5, _ => exact st_4_5
  | 6, _ => exact st_4_6
  | 7, _ => exact st_4_7
  | 8, _ => exact st_4_8
  | 9, _ => exact st_4_9
  | 10, _ => exact st_4_10
  | 11, _ => exact st_4_11
  | 12, _ => exact st_4_12
  | 13, _ => exact st_4_13
  | 14, _ => exact st_4_14
  | i + 15, hi => exact absurd hi (by omega)
theorem st_5 (i : Nat) (hi : i < 15) : ∀ j, j < mz_len.getD i 0 → Cond.eq (.elem (.field (st_k i) "java/lang/String" "value" "[B") (.int (Int32.ofNat j))) (.int ((mz_byt.getD i []).getD j 0)) ∈ st_h := by
  match i, hi with
  | 0, _ => exact st_5_0
  | 1, _ => exact st_5_1
  | 2, _ => exact st_5_2
  | 3, _ => exact st_5_3
  | 4, _ => exact st_5_4
  | 5, _ => exact st_5_5
  | 6, _ => exact st_5_6
  | 7, _ => exact st_5_7
  | 8, _ => exact st_5_8
  | 9, _ => exact st_5_9
  | 10, _ => exact st_5_10
  | 11, _ => exact st_5_11
  | 12, _ => exact st_5_12
  | 13, _ => exact st_5_13
  | 14, _ => exact st_5_14
  | i + 15, hi => exact absurd hi (by omega)
set_option maxRecDepth 100000 in
theorem st_6 : (Cond.arrayOf st_A (.object "MacroHouse$Directive") ∈ st_g ∧ Cond.eq (.length st_A) (.int 16) ∈ st_g) ∧ (Cond.arrayOf st_W .int ∈ st_g ∧ Cond.eq (.length st_W) (.int 16) ∈ st_g) ∧ Cond.eq (.static "java/lang/String" "COMPACT_STRINGS" "Z") (.int 1) ∈ st_g ∧ Cond.isRef (.static "jdk/internal/util/Preconditions" "SIOOBE_FORMATTER" "Ljava/util/function/BiFunction;") ∈ st_g := by decide +kernel
set_option maxRecDepth 100000 in
theorem st_7 : ∀ w ∈ mz_nt, w ∈ lw_tbl ∨ w ∈ st_g := by decide +kernel
set_option maxRecDepth 100000 in
theorem st_8 : ∀ q ∈ mz_st, Cond.stringRef "MacroHouse" q.1 q.2 ∈ lw_tbl := by decide +kernel
set_option maxRecDepth 100000 in
theorem st_9 : ∀ q ∈ mz_st, Cond.exactly (.string "MacroHouse" q.1) "java/lang/String" ∈ st_g := by decide +kernel
set_option maxRecDepth 100000 in
theorem st_10 : (Cond.initialized "MacroHouse$Directive" ∈ lw_tbl ∧ Cond.initialized "MacroHouse$1" ∈ lw_tbl ∧ Cond.initialized "java/lang/String" ∈ lw_tbl ∧ Cond.initialized "jdk/internal/util/Preconditions" ∈ lw_tbl) ∧ Cond.laysStatic "MacroHouse$Directive" "ALL" "[LMacroHouse$Directive;" ∈ lw_tbl ∧ Cond.laysStatic "MacroHouse$1" "$SwitchMap$MacroHouse$Directive" "[I" ∈ lw_tbl ∧ Cond.laysStatic "java/lang/String" "COMPACT_STRINGS" "Z" ∈ lw_tbl ∧ Cond.laysStatic "jdk/internal/util/Preconditions" "SIOOBE_FORMATTER" "Ljava/util/function/BiFunction;" ∈ lw_tbl := by decide +kernel
set_option maxRecDepth 100000 in
theorem st_11 : Cond.arrayOver (.object "MacroHouse$Frame") ∈ lw_tbl ∧ Cond.methodLinkNest "MacroHouse" 9 mi_ySI "MacroHouse" ∈ lw_tbl ∧ Cond.methodLinkNest "MacroHouse$Expander" 11 mi_yCO "MacroHouse" ∈ lw_tbl ∧ Cond.methodLinkNest "MacroHouse$Expander" 20 mi_yOU "MacroHouse" ∈ lw_tbl ∧ Cond.methodLinkNest "MacroHouse$Stack" 11 mi_yFR "MacroHouse" ∈ lw_tbl := by decide +kernel
theorem st_ev {args : Array Value} {s : State} {t : Term} {nm : String} (h : (Cond.exactly t nm).before args s = true) : ∃ a : Nat, t.eval args s none [] s = some (.ref a) := by
  obtain ⟨a2, c, cA, kA, q1, -⟩ := Cond.exactly_spec (args := args) (first := s) (o := none) (s := s) (idx := []) (t := t) (cls := nm) h
  exact ⟨a2, q1⟩
set_option maxHeartbeats 1000000 in
theorem mz_start {args : Array Value} {s : State} {A : Nat → Prop} (hts : ∀ w ∈ lw_tbl, w.before args s = true) (hgv : (Jvm.Cond.and given_1 narrow_1).before args s = true) (hA : ∀ a : Nat, a < s.heap.size → ¬ A a) :
    ∃ (en adK adV : Nat → Nat) (tA tS : Nat) (oF : Option Nat), mz_S0 A en adK adV tA tS oF s s.heap ∧ mz_TH s ∧ mi_ZP en A s s.heap := by
  have hs := flat_of_before _ hgv
  have e1 : ∀ i : Nat, ∃ a : Nat, i < 16 → (st_e i).eval args s none [] s = some (.ref a) := by
    intro i
    by_cases hi : i < 16
    · obtain ⟨a, ha⟩ := st_ev (hs _ (st_1 i hi).1)
      exact ⟨a, fun _ => ha⟩
    · exact ⟨0, fun h => absurd h hi⟩
  obtain ⟨en, hen⟩ : ∃ en : Nat → Nat, ∀ i, i < 16 → (st_e i).eval args s none [] s = some (.ref (en i)) := ⟨fun i => (e1 i).choose, fun i => (e1 i).choose_spec⟩
  have k1 : ∀ i : Nat, ∃ q : Nat × Nat, i < 15 → (st_k i).eval args s none [] s = some (.ref q.1) ∧ va_O "java/lang/String" q.1 A s s.heap ∧ va_OF "java/lang/String" "coder" "B" (.int 0) q.1 A s s.heap ∧ va_OF "java/lang/String" "value" "[B" (.ref q.2) q.1 A s s.heap ∧ va_T .byte q.2 (mz_len.getD i 0) (fun j => .int ((mz_byt.getD i []).getD j 0)) A s s.heap := by
    intro i
    by_cases hi : i < 15
    · obtain ⟨h1, h2, h3, h4⟩ := st_4 i hi
      have h1 := st_hm h1
      have h2 := st_hm h2
      have h3 := st_hm h3
      have h4 := st_hm h4
      obtain ⟨a, ha⟩ := st_ev (hs _ h1)
      have hl : mz_len.getD i 0 < 2 ^ 31 := (show ∀ i, i < 15 → mz_len.getD i 0 < 2 ^ 31 by decide) i hi
      obtain ⟨v, hv, hT⟩ := va_Tof (f := fun j => .int ((mz_byt.getD i []).getD j 0)) hl (hs _ h3) (va_eqt (hs _ h4)) (fun j hj => va_eqt (hs _ (st_hm (st_5 i hi j hj)))) hA
      exact ⟨(a, v), fun _ => ⟨ha, va_Oof (hs _ h1) ha hA, vk_OFof ha (va_eqt (hs _ h2)) hA, vk_OFof ha hv hA, hT⟩⟩
    · exact ⟨(0, 0), fun h => absurd h hi⟩
  obtain ⟨ad2, hk⟩ : ∃ ad2 : Nat → Nat × Nat, ∀ i, i < 15 → (st_k i).eval args s none [] s = some (.ref (ad2 i).1) ∧ va_O "java/lang/String" (ad2 i).1 A s s.heap ∧ va_OF "java/lang/String" "coder" "B" (.int 0) (ad2 i).1 A s s.heap ∧ va_OF "java/lang/String" "value" "[B" (.ref (ad2 i).2) (ad2 i).1 A s s.heap ∧ va_T .byte (ad2 i).2 (mz_len.getD i 0) (fun j => .int ((mz_byt.getD i []).getD j 0)) A s s.heap := ⟨fun i => (k1 i).choose, fun i => (k1 i).choose_spec⟩
  obtain ⟨⟨i1, i2, i3, i4⟩, l1, l2, l3, l4⟩ := st_10
  obtain ⟨⟨a1, a2⟩, ⟨b1, b2⟩, c1, d1⟩ := st_6
  have ord : ∀ i, i < 16 → va_OF "java/lang/Enum" "ordinal" "I" (.int (mz_or.getD i 0)) (en i) A s s.heap := fun i hi => vk_OFof (hen i hi) (va_eqt (hs _ (st_1 i hi).2.1)) hA
  have hEn : va_En "MacroHouse$Directive" "LMacroHouse$Directive;" mz_dn [("java/lang/Enum", "ordinal", "I", mz_or)] en A s s.heap := by
    refine ⟨fun i hi => ⟨va_Zof (hts _ (st_2 i hi)) (hts _ i1) (hen i hi) hA, va_Oof (hs _ (st_1 i hi).1) (hen i hi) hA, fun q hq => ?_⟩, fun i j hi hj hij => ?_⟩
    · rw [List.mem_singleton] at hq
      subst hq
      exact ord i hi
    · obtain ⟨cf, k, x, f, cell, g1, g2, g3, g4, g5, -⟩ := ord i hi
      obtain ⟨cf', k', x', f', cell', g1', g2', g3', g4', g5', -⟩ := ord j hj
      rw [hij] at g3
      cases g3.symm.trans g3'
      cases g1.symm.trans g1'
      have hv := Option.some.inj (g5.symm.trans g5')
      have hv' : mz_or.getD i 0 = mz_or.getD j 0 := by injection hv
      exact (show ∀ i, i < 16 → ∀ j, j < 16 → mz_or.getD i 0 = mz_or.getD j 0 → i = j by decide) i hi j hj hv'
  obtain ⟨tA, htA, hTA⟩ := va_Tof (N := 16) (f := fun j => .ref (en j)) (by decide) (hs _ a1) (va_eqt (hs _ a2)) (fun j hj => va_eqv (hs _ (st_3 j hj).1) (hen j hj)) hA
  obtain ⟨tS, htS, hTS⟩ := va_Tof (N := 16) (f := fun j => .int (mz_sw.getD j 0)) (by decide) (hs _ b1) (va_eqt (hs _ b2)) (fun j hj => va_eqt (hs _ (st_3 j hj).2)) hA
  have hF : ∃ oF : Option Nat, va_Z "jdk/internal/util/Preconditions" "SIOOBE_FORMATTER" "Ljava/util/function/BiFunction;" (va_rf oF) A s s.heap := by
    rcases va_Zqof (hts _ l4) (hts _ i4) (hs _ d1) hA with h | ⟨t, h⟩
    · exact ⟨none, h⟩
    · exact ⟨some t, h⟩
  obtain ⟨oF, hoF⟩ := hF
  refine ⟨en, fun i => (ad2 i).1, fun i => (ad2 i).2, tA, tS, oF, ⟨hEn, ?_, va_Zof (hts _ l1) (hts _ i1) htA hA, hTA, va_Zof (hts _ l2) (hts _ i2) htS hA, hTS, fun i hi => (hk i hi).2, va_Zof (hts _ l3) (hts _ i3) (va_eqt (hs _ c1)) hA, hoF⟩, ⟨?_, fun q hq => ?_⟩, ?_⟩
  · exact va_Efof (nm := mz_dn) hen (fun i hi => hs _ (st_1 i hi).2.2) (fun i hi => (hk (mz_wi.getD i 0) ((show ∀ i, i < 16 → mz_wi.getD i 0 < 15 by decide) i hi)).1) hA
  · have g : ∀ w ∈ mz_nt, w.before args s = true := fun w hw => by
      rcases st_7 w hw with h | h
      · exact hts _ h
      · exact hs _ h
    exact fa_cons (g _ (List.mem_of_getElem? (l := mz_nt) (i := 0) rfl)) <| fa_cons (g _ (List.mem_of_getElem? (l := mz_nt) (i := 1) rfl)) <| fa_cons (g _ (List.mem_of_getElem? (l := mz_nt) (i := 2) rfl)) <| fa_cons (g _ (List.mem_of_getElem? (l := mz_nt) (i := 3) rfl)) <| fa_cons (g _ (List.mem_of_getElem? (l := mz_nt) (i := 4) rfl)) <| fa_cons (g _ (List.mem_of_getElem? (l := mz_nt) (i := 5) rfl)) <| fa_cons (g _ (List.mem_of_getElem? (l := mz_nt) (i := 6) rfl)) <| fa_cons (g _ (List.mem_of_getElem? (l := mz_nt) (i := 7) rfl)) <| fa_cons (g _ (List.mem_of_getElem? (l := mz_nt) (i := 8) rfl)) <| fa_cons (g _ (List.mem_of_getElem? (l := mz_nt) (i := 9) rfl)) <| fa_cons (g _ (List.mem_of_getElem? (l := mz_nt) (i := 10) rfl)) <| fa_cons (g _ (List.mem_of_getElem? (l := mz_nt) (i := 11) rfl)) <| fa_nil
  · obtain ⟨a, ha⟩ := st_ev (hs _ (st_9 q hq))
    exact ⟨a, hts _ (st_8 q hq), ha⟩
  · obtain ⟨n1, n2, n3, n4, n5⟩ := st_11
    exact ⟨(hEn.1 0 (by decide)).1, va_AO.of (hts _ n1), va_Nw.of rfl (hts _ n2), va_Nw.of rfl (hts _ n3), va_Nw.of rfl (hts _ n4), va_Nw.of rfl (hts _ n5)⟩
