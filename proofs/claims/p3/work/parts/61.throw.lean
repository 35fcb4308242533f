/-! A method that throws: its contract, and its last rows -/
def MQT (below : List Frame) (Qc : Array Value → State → Outcome → State → Prop) (a : Array Value) (s : State) (mc ms : Nat) (free : Addr → Prop) : State → Prop := fun t =>
  ∃ o, t.status = .running ∧ Ended t below o ∧ Qc a s o t ∧ ∃ L, FrameEndT s o t L mc ms ∧ ∀ q ∈ L, free q.base
/-- it threw an X that it made; all old cells are as they were -/
def mz_QT (SX : State → Heap → Prop) (tab : mz_Tab) (N : Nat) (cl : List vw_C) (dC : Nat → ClassId) (dI : Nat → Nat → Nat) (ad en : Nat → Nat) (ca : Nat → ClassId) (X : String) (u : mz_St) : Array Value → State → Outcome → State → Prop :=
  fun _ st oc z => (∃ (a : Addr) (ce : Cell), oc = .threw a ∧ z.heap[a]? = some ce ∧ ce.vm = .none ∧ st.vm.findClass X = some ce.cls ∧ st.heap.size ≤ a) ∧ mz_WP SX tab N cl dC dI ad en ca u z ∧ st.heap.size ≤ z.heap.size ∧ ∀ q : Nat, q < st.heap.size → z.heap[q]? = st.heap[q]?
def mz_CT (SX : State → Heap → Prop) (tab : mz_Tab) (N : Nat) (cl : List vw_C) (dC : Nat → ClassId) (dI : Nat → Nat → Nat) (ad en : Nat → Nat) (ca : Nat → ClassId) (l : Launch) (y : MethodName) (bytes : ByteArray) (maxL : Nat) (rt : Option FieldType) (rm : Room) (av : List Value) (t : mz_St) (X : String) : Prop :=
  MetFree l y (headSpec [.code y bytes maxL rt] rm) (va_Pc av (fun U => mz_WP SX tab N cl dC dI ad en ca t U ∧ mz_TH U)) (fun _ _ _ _ _ => True) (fun a st o z => mz_QT SX tab N cl dC dI ad en ca X t a st o z ∧ ∃ L, FrameEndT st o z L 1 6 ∧ ∀ q ∈ L, (fun _ => False : Addr → Prop) q.base)
def mz_exn (k : Nat) : String := match k with
  | 0 => "java/lang/IllegalArgumentException"
  | 1 => "java/lang/UnsupportedOperationException"
  | _ => "java/lang/IndexOutOfBoundsException"
def mz_Wt (tab : mz_Tab) (N : Nat) (cl : List vw_C) (dC : Nat → ClassId) (dI : Nat → Nat → Nat) (ad en : Nat → Nat) (ca : Nat → ClassId) (s : State) (t : mz_St) (H : Heap) (locs : List Loc) : Prop := mz_Wd tab N cl dC dI ad en ca s t H locs ∧ H = s.heap ∧ locs = []
section MZT
variable {SX : State → Heap → Prop} {tab : mz_Tab} {N : Nat} {cl : List vw_C} {dC : Nat → ClassId} {dI : Nat → Nat → Nat} {ad en : Nat → Nat} {ca : Nat → ClassId}
variable {p : Program} {l : Launch} {e : Env} {R : Room} {s : State} {m : MethodId} {args : Array Value} {below : List Frame} {meth : Method} {c : Code} {H : Heap} {locs : List Loc} {cells slots : Nat} {Q : State → Prop}
variable {cc : ByteArray} {nL pc : Nat} {own : String} {ret : Option FieldType} {ls : Array Slot} {rest : List Value} {t : mz_St}
theorem mz_metT {y : MethodName} {bytes : ByteArray} {maxL : Nat} {rt : Option FieldType} {rm : Room} {av : List Value} {X : String} (hSK : mz_SK SX ad N) (hy : plainName y.cls = true) (hlen : (lg_sl av).length ≤ maxL)
    (body : ∀ (p : Program) (e : Env) (s : State) (m : MethodId) (args : Array Value) (below : List Frame) (meth : Method) (c : Code) (ls : Array Slot), l.admits e → mz_En SX N cl dC dI ad ca p s m meth c bytes maxL y.cls rt → mz_TH s → c.exceptionTable.toList = [] → mz_Wd tab N cl dC dI ad en ca s t s.heap [] → lv_has ls maxL (lv_args 0 av) →
      W p l e rm s m args below meth c s.heap [] 0 0 (MQT below (mz_QT SX tab N cl dC dI ad en ca X t) args s 1 6 (fun _ => False)) (F0 m 0 ls [])) : mz_CT SX tab N cl dC dI ad en ca l y bytes maxL rt rm av t X := by
  refine MetFree.of_bodyS (code := bytes) (maxLocals := maxL) (ret := rt) hy ?_ ?_
  · intro args s m h hn
    obtain ⟨meth, c, h1, h2, h3, h4, h5, h6, -, -⟩ := Cond.code_spec hn (atoms_spec (ws := [Cond.code y bytes maxL rt]) h _ List.mem_cons_self)
    exact ⟨meth, c, h1, h2, h3, h4, h5, h6⟩
  · intro p e s m args below meth c s₁ B hml hP _
    have hh0 : s₁.heap = s.heap := by rw [B.state]; rfl
    obtain ⟨rfl, ⟨hP, hK, hJ, hcx, hSX⟩, hTH⟩ := hP
    have hX := Stand.of_body B
    have hex : c.exceptionTable.toList = [] := by
      obtain ⟨meth', c', h1, h2, -, -, -, -, h7, -⟩ := Cond.code_spec B.named (atoms_spec (ws := [Cond.code y bytes maxL rt]) B.pre _ List.mem_cons_self)
      cases h1.symm.trans hX.method
      cases h2.symm.trans hX.code
      have h8 : c.exceptionTable = #[] := by simpa using h7
      rw [h8]
    have hb := body p e s m av.toArray below meth c _ B.admits ⟨B.exec, B.bytes, hml, findClass_of_methodNamed B.named, hcx, hK, hJ, hSX, B.notSynchronized, B.returns, hSK⟩ hTH hex ⟨hP, va_S.rf⟩ (lv_entry av hlen)
    rw [← lg_entry_eq] at hb
    obtain ⟨t, a1, o, b1, b2, b3⟩ := hb s₁ hh0 hX
    exact ⟨t, o, a1, b1, b2, b3⟩
theorem mz_same0 {s U : State} {k n : Nat} (h : s.sameButNew ({ U with vm := s.vm } : State) [] k n) : s.heap.size ≤ U.heap.size ∧ ∀ q : Nat, q < s.heap.size → U.heap[q]? = s.heap[q]? := by
  obtain ⟨-, h1, -, -, -, h2⟩ := h
  refine ⟨h1, fun q hq => ?_⟩
  obtain ⟨cell, hc⟩ : ∃ cell, s.heap[q]? = some cell := ⟨_, Array.getElem?_eq_getElem hq⟩
  obtain ⟨c', g1, g2, -, g4⟩ := h2 q cell hc
  have g1' : U.heap[q]? = some c' := g1
  have e1 : c'.slots = cell.slots := Array.ext_getElem? fun i => g4 i (fun hh => nomatch hh)
  rw [g1', hc, g2, e1]
theorem mz_throw {X : String} {ic iN iS q : Nat} {tx : String} {names : List String} (E : mz_En SX N cl dC dI ad ca p s m meth c cc nL own ret) (hLT : e.platform.stackTraces = false) (hex : c.exceptionTable.toList = []) (w : mz_Wd tab N cl dC dI ad en ca s t s.heap [])
    (hcl : Cond.classLink own iN X ∈ mz_tb) (hin : Cond.instantiable X 6 ∈ mz_tb) (hini : Cond.initialized X ∈ mz_tb) (hZ : vk_R own iS tx q s) (hat : ∀ a ∈ Bundle.ownAtoms own ic X names, a.before args s = true) (hX : Bundle.fit X = true) (hnames : ∀ n ∈ names, Bundle.fit n = true)
    (d0 : decode cc pc = .ok (.new iN, 3)) (d1 : decode cc (pc + 3) = .ok (.dup, 1)) (d2 : decode cc (pc + 4) = .ok (.ldc iS, 2)) (d3 : decode cc (pc + 6) = .ok (.invokespecial ic, 3)) (d4 : decode cc (pc + 9) = .ok (.athrow, 1)) (hsz : ls.size = nL)
    (hR : 1 ≤ R.cells ∧ 6 ≤ R.slots ∧ names.length + 3 < R.frames ∧ 1 + (13 * (names.length + 1) + 42) ≤ R.locals) :
    W p l e R s m args below meth c s.heap [] 0 0 (MQT below (mz_QT SX tab N cl dC dI ad en ca X t) args s 1 6 (fun _ => False)) (F0 m pc ls []) := by
  obtain ⟨hx, hb, hml, hown, hcx, hK, hJ, hSX, hlk, -, hSK⟩ := id E
  have hts := hcx.at args
  obtain ⟨cX, kX, hfc, -⟩ := Cond.instantiable_spec (hts _ hin)
  refine W.newcK (h := s.heap.size) hx hb hown (hts _ hcl) (hts _ hin) (hts _ hini) rfl d0 (by omega) (by omega) hfc rfl (fun H' kC hk e1 z1 o1 => ?_)
  refine lv_dup (pc := pc + 3) hx hb d1 rfl ?_
  refine va_ldcS (pc := pc + 4) hx hb hown hZ d2 ?_
  intro T hT Xs
  obtain ⟨U, st, hrun, hend, hWU, hsame, ce, hce, hO⟩ := Xs.ctorThrowS hx hLT hown hX hnames hat (fun x hx => nomatch hx) hfc hk (a := s.heap.size) (by rw [hT]; exact e1) (Nat.le_refl _) (msg := .ref q) rfl (g := F0 m (pc + 6) ls [.ref q, .ref s.heap.size, .ref s.heap.size]) rfl (by rw [hml]; exact hsz) rfl rfl (rest := []) rfl (by rw [hb]; exact d3) (by rw [hb]; exact d4) (fun x hx => by rw [hex] at hx; cases hx) (by omega) (by show 2 * 0 + 1 + _ ≤ _; omega) hlk
  obtain ⟨g1, g2⟩ := mz_same0 hsame
  have hP : va_P (dC, dI) cl (mz_w tab N ad en ca t) U.heap := w.1.kept fun k x hx => g2 x.1 (w.1 k x hx).lt
  exact ⟨U, st, .threw s.heap.size, hrun, hend, ⟨⟨s.heap.size, ce, rfl, hce, hO.vm, hO.cls, Nat.le_refl _⟩, ⟨hP, va_K.moved hWU.alike hK, hJ, hcx.warm hWU, hSK s U U.heap hSX (fun q hq _ => g2 q hq) hWU⟩, g1, g2⟩, [], ⟨⟨_, rfl⟩, hWU, hsame⟩, fun q hq => nomatch hq⟩
/-- a call of a static method that touches no cell -/
theorem mz_callS0 (E : mz_En SX N cl dC dI ad ca p s m meth c cc nL own ret) {tab0 : mz_Tab} {y : MethodName} {bytes : ByteArray} {maxL idx n : Nat} {rt : Option FieldType} {rm : Room} {As : List Value} {v0 : Option Value} {t0 u : mz_St} {st0 : List Value}
    (hM : mz_C (fun _ _ => True) tab0 0 cl dC dI ad en ca l y bytes maxL rt rm As t0 v0 u)
    (hcd : Cond.code y bytes maxL rt ∈ mz_tb) (hini : Cond.initialized y.cls ∈ mz_tb) (hlk : Cond.methodLink own idx y ∈ mz_tb) (him : Cond.static y ∈ mz_tb)
    (hdd : y.cls ≠ "java/lang/invoke/MethodHandle" ∧ y.cls ≠ "java/lang/invoke/VarHandle" ∧ (parseMethodDescriptor y.desc).map (fun d => d.parameters.length) = some n) (hR : (rm.cells = 0 ∧ rm.slots = 0) ∧ rm.frames + 1 ≤ R.frames ∧ 8 + (maxL + 11) + rm.locals ≤ R.locals)
    (hn : As.length = n) (hsz : ls.size = nL) (hst : st0 = As.reverse ++ rest) (hw8 : (rest.map fun v => v.category).sum ≤ 8) (hd : decode cc pc = .ok (.invokestatic idx, 3))
    {st1 : List Value} (hs1 : v0.toList ++ rest = st1) (kk : W p l e R s m args below meth c s.heap [] 0 0 Q (F0 m (pc + 3) ls st1)) : W p l e R s m args below meth c s.heap [] 0 0 Q (F0 m pc ls st0) := by
  obtain ⟨hx, hb, hml, hown, hcx, hK, hJ, hSX, -, -, hSK⟩ := id E
  have hts := hcx.at args
  have hG : GoodIn mz_tb [Cond.code y bytes maxL rt] := fun w0 h0 => by
    rw [List.mem_singleton] at h0
    subst h0
    exact ⟨hcd, Or.inl rfl⟩
  have cw : CallB R s args own idx y bytes maxL rt [Cond.code y bytes maxL rt] rm 0 0 n := callB_of n hts hG rfl hR.1.1 hR.1.2 (hts _ hini) (hts _ hlk) hdd hR.2
  have pre : FrameBlind (va_Pc As (mz_WP (fun _ _ => True) tab0 0 cl dC dI ad en ca t0)) ∧ ∀ U : State, U.heap = s.heap → s.WarmedH U.vm → va_Pc As (mz_WP (fun _ _ => True) tab0 0 cl dC dI ad en ca t0) As.toArray U := by
    have hP0 : ∀ U : State, va_P (dC, dI) cl (mz_w tab0 0 ad en ca t0) U.heap := fun U k q hk => by
      simp [mz_w] at hk
    have hJ0 : mz_J ad 0 := fun i j hi => absurd hi (Nat.not_lt_zero i)
    refine ⟨fun a U g mk q => ?_, fun U hU hW => ⟨rfl, hP0 U, va_K.moved hW.alike hK, hJ0, hcx.warm hW, trivial⟩⟩
    obtain ⟨q0, qP, qK, qJ, qc, qS⟩ := q
    exact ⟨q0, qP, va_K.moved (u := U) (U := U.calling g mk a) (Vm.Alike.refl U.vm) qK, qJ, qc.same rfl, trivial⟩
  have hr := va_runS (As := As) (rest := rest) (e := e) (p := p) (below := below) (meth := meth) (H := s.heap) (locs := []) (cells := 0) (slots := 0) (g := F0 m pc ls st0) ⟨hx, hb, hml, hown, hts⟩ hM ⟨cw, hts _ him⟩ pre rfl hn hsz hst (lv_room hw8) hd ⟨Nat.zero_le _, Nat.zero_le _⟩
  subst hs1
  intro T hT X
  obtain ⟨v, st₀, z, T', L, h0, X', hL, e1, e2, ⟨⟨hv, -⟩, hz, hk⟩, st⟩ := hr T hT X
  cases hv
  have hL0 : L = [] := by
    cases L with
    | nil => rfl
    | cons a b =>
      obtain ⟨k, hk, -⟩ := hL a List.mem_cons_self
      exact absurd hk (Nat.not_lt_zero k)
  subst hL0
  have hhe : T'.heap = s.heap := by
    have h1 : T'.heap.size ≤ s.heap.size + 0 := X'.heapSize
    rw [h0] at hz hk
    rw [← e1] at hz hk
    apply Array.ext_getElem?
    intro i
    by_cases hi : i < s.heap.size
    · exact hk i hi (fun hh => by obtain ⟨k, hk, -⟩ := hh; exact absurd hk (Nat.not_lt_zero k))
    · rw [Array.getElem?_eq_none (by omega), Array.getElem?_eq_none (by omega)]
  obtain ⟨t2, a1, b1⟩ := kk T' hhe X'
  exact ⟨t2, st t2 a1, b1⟩
end MZT
