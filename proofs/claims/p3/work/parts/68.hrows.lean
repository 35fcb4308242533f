/-! The law's helpers: rows -/
def lh_A (ad : Nat → Nat) (o : Nat) : Nat → Prop := fun q => mz_A ad 80 q ∨ q = o
abbrev lh_o (ca : Nat → ClassId) (o : Nat) (g : Nat → Int64) : va_W := [(o, .inl (ca 3, 1, .inr (.inl g)))]
def lh_P (SX : State → Heap → Prop) (XS : State → Prop) (dC : Nat → ClassId) (dI : Nat → Nat → Nat) (ad en : Nat → Nat) (ca : Nat → ClassId) (o : Nat) (g : Nat → Int64) (t : mz_St) (U : State) : Prop := mz_WP SX mz_tC 80 mz_cl dC dI ad en ca t U ∧ mz_TH U ∧ va_P (dC, dI) mz_cl (lh_o ca o g) U.heap ∧ ¬ mz_A ad 80 o ∧ XS U
def lh_Q (SX : State → Heap → Prop) (dC : Nat → ClassId) (dI : Nat → Nat → Nat) (ad en : Nat → Nat) (ca : Nat → ClassId) (o : Nat) (k : Int32) (g : Nat → Int64) (u : mz_St) : Array Value → State → Outcome → State → Prop := fun _ st oc z => (oc = .returned (some (.int k)) ∧ mz_WP SX mz_tC 80 mz_cl dC dI ad en ca u z ∧ va_P (dC, dI) mz_cl (lh_o ca o g) z.heap) ∧ va_F (lh_A ad o) st z
def lh_C (SX : State → Heap → Prop) (XS : State → Prop) (dC : Nat → ClassId) (dI : Nat → Nat → Nat) (ad en : Nat → Nat) (ca : Nat → ClassId) (l : Launch) (y : MethodName) (bytes : ByteArray) (maxL : Nat) (hh : List (Nat × Nat × Nat × Nat)) (rm : Room) (av : List Value) (o : Nat) (g : Nat → Int64) (t : mz_St) (k : Int32) (g' : Nat → Int64) (u : mz_St) : Prop :=
  Met l y [.codeWith y bytes maxL (some .int) hh] rm (va_Pc av (lh_P SX XS dC dI ad en ca o g t)) (lh_Q SX dC dI ad en ca o k g' u) 1 6 (lh_A ad o)
def lh_W (dC : Nat → ClassId) (dI : Nat → Nat → Nat) (ad en : Nat → Nat) (ca : Nat → ClassId) (o : Nat) (s : State) (t : mz_St) (g : Nat → Int64) (H : Heap) (locs : List Loc) : Prop := va_P (dC, dI) mz_cl (mz_w mz_tC 80 ad en ca t) H ∧ va_P (dC, dI) mz_cl (lh_o ca o g) H ∧ va_S (lh_A ad o) s.heap H locs
section LH
variable {SX : State → Heap → Prop} {XS : State → Prop} {dC : Nat → ClassId} {dI : Nat → Nat → Nat} {ad en : Nat → Nat} {ca : Nat → ClassId} {o : Nat} {g g' : Nat → Int64}
variable {p : Program} {l : Launch} {e : Env} {R : Room} {s : State} {m : MethodId} {args : Array Value} {below : List Frame} {meth : Method} {c : Code} {H : Heap} {locs : List Loc} {cells slots : Nat} {Q : State → Prop}
variable {cc : ByteArray} {nL pc : Nat} {own : String} {ret : Option FieldType} {ls : Array Slot} {rest : List Value} {t u : mz_St}
theorem lh_met {y : MethodName} {bytes : ByteArray} {maxL : Nat} {hh : List (Nat × Nat × Nat × Nat)} {rm : Room} {av : List Value} {k : Int32} (hSK : mz_SK SX ad 80) (hy : plainName y.cls = true) (hlen : (lg_sl av).length ≤ maxL)
    (body : ∀ (p : Program) (e : Env) (s : State) (m : MethodId) (args : Array Value) (below : List Frame) (meth : Method) (c : Code) (ls : Array Slot), l.admits e → mz_En SX 80 mz_cl dC dI ad ca p s m meth c bytes maxL y.cls (some .int) → mz_TH s → c.exceptionTable.toList.map (fun h => (h.startPc, h.endPc, h.handlerPc, h.catchType)) = hh → mz_Wd mz_tC 80 mz_cl dC dI ad en ca s t s.heap [] → va_P (dC, dI) mz_cl (lh_o ca o g) s.heap → ¬ mz_A ad 80 o → XS s → lv_has ls maxL (lv_args 0 av) →
      W p l e rm s m args below meth c s.heap [] 0 0 (MQ below (lh_Q SX dC dI ad en ca o k g' u) args s 1 6 (lh_A ad o)) (F0 m 0 ls [])) : lh_C SX XS dC dI ad en ca l y bytes maxL hh rm av o g t k g' u := by
  refine va_MetW (cc := bytes) (maxL := maxL) (ret := some .int) (hh := hh) hy rfl ?_
  intro p e s m args below meth c s₁ B hml hv
  obtain ⟨rfl, ⟨hP, hK, hJ, hcx, hSX⟩, hTH, hPo, hno, hXS⟩ := hv
  have hX := Stand.of_body B
  have hex : c.exceptionTable.toList.map (fun h => (h.startPc, h.endPc, h.handlerPc, h.catchType)) = hh := by
    obtain ⟨m9, meth9, c9, hn9, h1, h2, -, -, h5, -⟩ := Cond.codeWith_spec (atoms_spec (ws := [Cond.codeWith y bytes maxL (some .int) hh]) B.pre _ List.mem_cons_self)
    cases hn9.symm.trans B.named
    cases h1.symm.trans hX.method
    cases h2.symm.trans hX.code
    exact h5
  rw [lg_entry_eq]
  exact body p e s m _ below meth c _ B.admits ⟨B.exec, B.bytes, hml, findClass_of_methodNamed B.named, hcx, hK, hJ, hSX, B.notSynchronized, B.returns, hSK⟩ hTH hex ⟨hP, va_S.rf⟩ hPo hno hXS (lv_entry av hlen)
theorem lh_ret {k : Int32} (E : mz_En SX 80 mz_cl dC dI ad ca p s m meth c cc nL own (some .int)) (w : lh_W dC dI ad en ca o s u g H locs) (hno : ¬ mz_A ad 80 o) (hSo : ∀ (U : State) (H : Heap), SX s s.heap → (∀ q : Nat, q < s.heap.size → ¬ lh_A ad o q → H[q]? = s.heap[q]?) → s.WarmedH U.vm → SX U H) (hd : decode cc pc = .ok (.ireturn, 1)) :
    W p l e R s m args below meth c H locs cells slots (MQ below (lh_Q SX dC dI ad en ca o k g u) args s cells slots (lh_A ad o)) (F0 m pc ls [.int k]) := by
  obtain ⟨hx, hb, -, -, hcx, hK, hJ, hSX, hlocks, hr, hSK⟩ := id E
  obtain ⟨h1, h2, h3⟩ := w
  refine W.iret hx hb hr (fun z hz hW => ⟨⟨rfl, ⟨by rw [hz]; exact h1, va_K.moved hW.alike hK, hJ, hcx.warm hW, ?_⟩, by rw [hz]; exact h2⟩, h3.F hz⟩) h3.2.2 hd
  rw [hz]
  exact hSo z H hSX h3.2.1 hW
theorem lh_up (w : mz_Wd mz_tC 80 mz_cl dC dI ad en ca s t H locs) (hP : va_P (dC, dI) mz_cl (lh_o ca o g) s.heap) (hno : ¬ mz_A ad 80 o) : lh_W dC dI ad en ca o s t g H locs := by
  refine ⟨w.1, hP.kept (fun k q hk => ?_), ⟨w.2.1, fun q h1 h2 => w.2.2.1 q h1 (fun h => h2 (Or.inl h)), fun q hq => Or.inl (w.2.2.2 q hq)⟩⟩
  have hk0 : k = 0 := by
    have : k < 1 := (List.getElem?_eq_some_iff.mp hk).1
    omega
  subst hk0
  cases hk
  exact w.2.2.1 o (hP 0 _ rfl).lt hno
/-- out[0] = r -/
theorem lh_last {r : Int64} (E : mz_En SX 80 mz_cl dC dI ad ca p s m meth c cc nL own ret) (w : lh_W dC dI ad en ca o s t g H locs) (hno : ¬ mz_A ad 80 o) (hd : decode cc pc = .ok (.lastore, 1))
    (kk : ∀ (H1 : Heap) (locs1 : List Loc), lh_W dC dI ad en ca o s t (vp_updL g 0 r) H1 locs1 → W p l e R s m args below meth c H1 locs1 cells slots Q (F0 m (pc + 1) ls rest)) : W p l e R s m args below meth c H locs cells slots Q (F0 m pc ls (.long r :: .int 0 :: .ref o :: rest)) := by
  obtain ⟨hx, hb, -, hown, hcx, hK, hJ, -, -, -, -⟩ := id E
  obtain ⟨h1, h2, h3⟩ := w
  have hP : va_P (dC, dI) mz_cl (lh_o ca o g ++ mz_w mz_tC 80 ad en ca t) H := h2.app h1
  have hD : va_D (lh_A ad o) (lh_o ca o g ++ mz_w mz_tC 80 ad en ca t) := by
    have key : ∀ (k : Nat) (q : Nat × va_E), (lh_o ca o g ++ mz_w mz_tC 80 ad en ca t)[k]? = some q → (k = 0 ∧ q.1 = o) ∨ (∃ j, k = j + 1 ∧ j < 80 ∧ q.1 = ad j) := by
      intro k q hk
      cases k with
      | zero => cases hk; exact Or.inl ⟨rfl, rfl⟩
      | succ k =>
        obtain ⟨g1, rfl⟩ := mz_w_get (k := k) hk
        exact Or.inr ⟨k, rfl, g1, rfl⟩
    refine ⟨fun i j x y hi hj hxy => ?_, fun k q hk => ?_⟩
    · rcases key i x hi with ⟨a1, a2⟩ | ⟨i', a1, a2, a3⟩ <;> rcases key j y hj with ⟨b1, b2⟩ | ⟨j', b1, b2, b3⟩
      · omega
      · exact absurd ⟨j', b2, by rw [← b3, ← hxy, a2]⟩ hno
      · exact absurd ⟨i', a2, by rw [← a3, hxy, b2]⟩ hno
      · have := hJ i' j' a2 b2 (by rw [← a3, ← b3]; exact hxy)
        omega
    · rcases key k q hk with ⟨-, a2⟩ | ⟨j, -, a2, a3⟩
      · exact Or.inr a2
      · exact Or.inl ⟨j, a2, a3⟩
  refine va_last (D := (dC, dI)) hx hb hK hP hD h3 0 3 (i := 0) rfl rfl (by unfold vp_in; decide) hd (fun H1 locs1 hP1 _ hS1 => kk H1 locs1 ⟨?_, ?_, hS1⟩)
  · intro k q hk
    exact hP1 (k + 1) q hk
  · intro k q hk
    cases k with
    | zero => cases hk; exact hP1 0 _ rfl
    | succ k => exact nomatch hk
/-- a call that throws, caught here -/
theorem lh_thr {y : MethodName} {bytes : ByteArray} {maxL idx n ci NF : Nat} {rt : Option FieldType} {rm : Room} {k : Nat} {As : List Value} {X C : String} {T : u_T} {ks : List (Nat × Nat)} {st0 : List Value} (E : mz_En SX 80 mz_cl dC dI ad ca p s m meth c cc nL own ret) (hTH : mz_TH s) (w : mz_Wd mz_tC 80 mz_cl dC dI ad en ca s t s.heap [])
    (hM : mz_CT SX mz_tC 80 mz_cl dC dI ad en ca l y bytes maxL rt rm (.ref (ad k) :: As) t X) (hk : k < 80) (ht : mz_tC k = .inl (ci, ks)) (hc : mz_cl[ci]? = some (C, T, NF))
    (hcd : Cond.code y bytes maxL rt ∈ mz_tb) (hini : Cond.initialized y.cls ∈ mz_tb) (hlk : Cond.methodLink own idx y ∈ mz_tb) (him : Cond.instanceMethod y ∈ mz_tb) (hse : Cond.selects C y y ∈ mz_tb)
    (hdd : y.cls ≠ "java/lang/invoke/MethodHandle" ∧ y.cls ≠ "java/lang/invoke/VarHandle" ∧ (parseMethodDescriptor y.desc).map (fun d => d.parameters.length) = some n) (hR : (rm.cells = 1 ∧ rm.slots = 6) ∧ rm.frames + 1 ≤ R.frames ∧ 8 + (maxL + 11) + rm.locals ≤ R.locals)
    (hn : As.length = n) (hsz : ls.size = nL) (hst : st0 = As.reverse ++ .ref (ad k) :: rest) (hw8 : (rest.map fun v => v.category).sum ≤ 8) (hd : decode cc pc = .ok (.invokevirtual idx, 3)) (hroom : 1 ≤ R.cells ∧ 6 ≤ R.slots)
    (pre : List ExceptionTableEntry) (x : ExceptionTableEntry) (post : List ExceptionTableEntry) (hsplit : c.exceptionTable.toList = pre ++ x :: post) (hpass : ∀ y0 ∈ pre, y0.catchType ≠ 0 ∧ ∃ nm, Cond.classLink own y0.catchType nm ∈ mz_tb ∧ Cond.not (.castable X nm) ∈ mz_nt) (hcov : covers x pc = true) (h0 : x.catchType ≠ 0) (hxl : Cond.classLink own x.catchType X ∈ mz_tb) (hxc : Cond.castable X X ∈ mz_nt)
    (kk : ∀ (H1 : Heap) (a : Nat), mz_Wd mz_tC 80 mz_cl dC dI ad en ca s t H1 [] → W p l e R s m args below meth c H1 [] 1 6 Q (F0 m x.handlerPc ls [.ref a])) : W p l e R s m args below meth c s.heap [] 0 0 Q (F0 m pc ls st0) := by
  obtain ⟨hx, hb, hml, hown, hcx, hK, hJ, hSX, -, -, hSK⟩ := id E
  have hts := hcx.at args
  intro T0 hT0 X0
  have hpl : e.platform.magicAccessors = ({} : Platform).magicAccessors := by rw [X0.admits.platform]
  have he : (mz_w mz_tC 80 ad en ca t)[k]? = some (ad k, .inr (ci, mz_ob ad en ks (t.1 k) (t.2 k))) := by
    rw [mz_w_at hk]; unfold mz_ce; rw [ht]
  obtain ⟨cellB, hcell, hobj, hcls⟩ := va_recv hK w.1 hc he
  -- the contract pays
  have hB : BackT l R p e below s args y 3 8 (fun A a => A.cells + 1 ≤ R.cells ∧ A.slots + 6 ≤ R.slots ∧ va_Pc (.ref (ad k) :: As) (fun U => mz_WP SX mz_tC 80 mz_cl dC dI ad en ca t U ∧ mz_TH U) a A.U)
      (fun A a v B => ∃ st z : State, st.heap = A.U.heap ∧ st.vm = A.U.vm ∧ B.U.heap = z.heap ∧ B.U.vm = z.vm ∧ mz_QT SX mz_tC 80 mz_cl dC dI ad en ca X t a st (.threw v) z ∧ B.locs = A.locs ∧ B.cells = A.cells + 1 ∧ B.slots = A.slots + 6) := by
    refine BackT.of_free (bytes := bytes) (maxL := maxL) (ret := rt) (E := fun a st o z L k n => L = [] ∧ k = 1 ∧ n = 6) hM hR.2.1 hR.2.2 ?_ ?_ (fun _ _ _ _ _ _ _ _ _ => trivial) ?_ ?_
    · intro m meth c A a X hp
      have h1 : (Cond.code y bytes maxL rt).before a A.U = true := (hcx.warm X.warmed).at a _ hcd
      refine ⟨atoms_intro (ws := [Cond.code y bytes maxL rt]) fun w hw => ?_, h1, (hcx.warm X.warmed).at a _ hini, ?_, ?_⟩
      · rw [List.mem_singleton] at hw
        subst hw
        exact h1
      · rw [show (headSpec [Cond.code y bytes maxL rt] rm).room.cells = 1 from hR.1.1]; exact hp.1
      · rw [show (headSpec [Cond.code y bytes maxL rt] rm).room.slots = 6 from hR.1.2]; exact hp.2.1
    · intro m meth c A a g0 mk X hp
      obtain ⟨-, -, q0, ⟨qP, qK, qJ, qc, qS⟩, qT⟩ := hp
      exact ⟨q0, ⟨qP, va_K.moved (u := A.U) (U := A.U.calling g0 mk a) (Vm.Alike.refl A.U.vm) qK, qJ, qc.same rfl, hSK A.U (A.U.calling g0 mk a) A.U.heap qS (fun _ _ _ => rfl) (State.WarmedH.refl A.U)⟩, qT.keep (State.WarmedH.refl A.U) (fun _ _ => rfl)⟩
    · intro a st o z ⟨hq, L, hF, hL⟩
      have hL0 : L = [] := by
        cases L with
        | nil => rfl
        | cons q r => exact absurd (hL q List.mem_cons_self) (fun h => h)
      exact ⟨L, 1, 6, hF, hL0, rfl, rfl⟩
    · intro m meth c A a g0 mk v z L k n X hp hq hF ⟨e1, e2, e3⟩
      subst e1; subst e2; subst e3
      exact ⟨A.U.calling g0 mk a, z, rfl, rfl, rfl, rfl, hq.1, by simp, rfl, rfl⟩
  -- the instruction
  obtain ⟨mk, methM, hnamed, hmethM, hstM, habM⟩ := Cond.instanceMethod_spec (hts _ him)
  obtain ⟨methM', cM, hmethM', -, -, -, -, -, -, hsigM⟩ := Cond.code_spec hnamed (hts _ hcd)
  cases hmethM.symm.trans hmethM'
  obtain ⟨c2, r2, m2, q1, q2, q3, q4, kP, hkP, hkPi⟩ := Cond.selects_spec (hts _ hse)
  cases hcls.symm.trans q1
  cases (State.methodFound?_of_named hnamed ⟨hdd.1, hdd.2.1⟩).symm.trans q2
  cases hnamed.symm.trans q3
  have hselP : selectMethod e.platform s.vm cellB.cls mk = .method mk := by rw [Launch.admits_selectMethod X0.admits]; exact q4
  have hlen : As.length = methM.sig.parameters.length := by
    have h2 := hdd.2.2
    rw [hsigM] at h2
    exact hn.trans (Option.some.inj h2).symm
  obtain ⟨vm₁, X₁, hstep₁⟩ := X0.invokevirtual hx hown (hts _ hlk) hnamed hmethM hstM hkP hkPi ⟨hdd.1, hdd.2.1⟩ (a := ad k) (cell := cellB) (by rw [hT0]; exact hcell)
    (fun z h => by rw [h] at hobj; cases hobj) hselP hmethM habM hkP hkPi (g := F0 m pc ls st0) rfl (argsL := As) (rest := rest) hlen hst (by rw [hb]; exact hd)
  have hheap1 : (T0.setVm vm₁).heap = s.heap := hT0
  obtain ⟨a, B, X', ⟨st, z, e1, e2, e3, e4, ⟨⟨a', ce, ho, hce, hvm, hfc, hnew⟩, ⟨zP, -⟩, hz1, hz2⟩, l1, l2, l3⟩, hsteps⟩ := hB m meth c ⟨T0.setVm vm₁, [], 0, 0⟩ { F0 m pc ls st0 with stack := rest } (.invokevirtual idx) mk (.ref (ad k) :: As).toArray X₁ rfl (by rw [hml]; exact hsz) (by rw [hb]; exact hd) (by show 2 * 0 + (rest.map fun v => v.category).sum ≤ 8; omega) (X₁.named hnamed)
    ⟨by show 0 + 1 ≤ _; omega, by show 0 + 6 ≤ _; omega, rfl, ⟨by show va_P _ _ _ (T0.setVm vm₁).heap; rw [hheap1]; exact w.1, va_K.moved X₁.warmed.alike hK, hJ, hcx.warm X₁.warmed, by show SX (T0.setVm vm₁) (T0.setVm vm₁).heap; rw [hheap1]; exact hSK s _ s.heap hSX (fun _ _ _ => rfl) X₁.warmed⟩, hTH.keep X₁.warmed (fun q _ => by show (T0.setVm vm₁).heap[q]? = _; rw [hheap1])⟩
  cases ho
  obtain ⟨BU, Bl, Bc, Bs⟩ := B
  dsimp only [Pt.U, Pt.locs, Pt.cells, Pt.slots] at X' e1 e2 e3 e4 l1 l2 l3 hsteps
  subst l1; subst l2; subst l3
  rw [hheap1] at e1
  rw [e1] at hz1 hz2 hnew
  have hfs : s.vm.findClass X = some ce.cls := by
    rw [e2] at hfc
    rw [← X₁.warmed.alike.findClass]
    exact hfc
  have hceB : BU.heap[a]? = some ce := by rw [e3]; exact hce
  -- the handler
  obtain ⟨cA, cB, ha1, ha2, hfit⟩ := Cond.castable_spec (hTH.at (A := args) _ hxc)
  cases hfs.symm.trans ha1
  obtain ⟨hend, hk0⟩ := X'.catches_of_link hown h0 (hts _ hxl) ha2 hfit
  obtain ⟨vm', XV, stV⟩ := X'.thenCaughtThrough a (g := { F0 m pc ls st0 with stack := rest }) rfl (hstep₁ _ fun acts => by rw [doInvoke_state]; exact hsteps) hceB (by rw [hvm]; rfl) hk0 pre x post hsplit
    (fun y0 hy0 => by
      obtain ⟨h1, nm, h2, h3⟩ := hpass y0 hy0
      exact RowPassed.of_words hpl hown h1 (hts _ h2) hfs (hTH.at (A := args) _ h3)) hcov hend
  have hH1 : (BU.setVm vm').heap = z.heap := e3
  obtain ⟨t2, b1, b2⟩ := kk z.heap a ⟨zP, ⟨hz1, fun q h1 _ => hz2 q h1, fun q hq => nomatch hq⟩⟩ (BU.setVm vm') hH1 XV
  exact ⟨t2, stV.trans b1, b2⟩
end LH
