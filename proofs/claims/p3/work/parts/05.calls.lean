/-! A method's contract over a side's state: from t it comes back with v0, and the state u -/
def mz_Q (SX : State → Heap → Prop) (tab : mz_Tab) (N : Nat) (cl : List vw_C) (dC : Nat → ClassId) (dI : Nat → Nat → Nat) (ad en : Nat → Nat) (ca : Nat → ClassId) (v0 : Option Value) (u : mz_St) : Array Value → State → Outcome → State → Prop :=
  fun _ st oc z => (oc = .returned v0 ∧ mz_WP SX tab N cl dC dI ad en ca u z) ∧ va_F (mz_A ad N) st z
def mz_C (SX : State → Heap → Prop) (tab : mz_Tab) (N : Nat) (cl : List vw_C) (dC : Nat → ClassId) (dI : Nat → Nat → Nat) (ad en : Nat → Nat) (ca : Nat → ClassId) (l : Launch) (y : MethodName) (bytes : ByteArray) (maxL : Nat) (rt : Option FieldType) (rm : Room) (av : List Value) (t : mz_St) (v0 : Option Value) (u : mz_St) : Prop :=
  Met l y [.code y bytes maxL rt] rm (va_Pc av (mz_WP SX tab N cl dC dI ad en ca t)) (mz_Q SX tab N cl dC dI ad en ca v0 u) 0 0 (mz_A ad N)
section MZC
variable {SX : State → Heap → Prop} {tab : mz_Tab} {N : Nat} {cl : List vw_C} {dC : Nat → ClassId} {dI : Nat → Nat → Nat} {ad en : Nat → Nat} {ca : Nat → ClassId}
variable {p : Program} {l : Launch} {e : Env} {R : Room} {s : State} {m : MethodId} {args : Array Value} {below : List Frame} {meth : Method} {c : Code} {H : Heap} {locs : List Loc} {cells slots : Nat} {Q : State → Prop}
variable {cc : ByteArray} {nL pc : Nat} {own : String} {ret : Option FieldType} {ls : Array Slot} {rest : List Value} {t : mz_St}
theorem mz_met {y : MethodName} {bytes : ByteArray} {maxL : Nat} {rt : Option FieldType} {rm : Room} {av : List Value} {v0 : Option Value} {u : mz_St} (hSK : mz_SK SX ad N) (hy : plainName y.cls = true) (hlen : (lg_sl av).length ≤ maxL)
    (body : ∀ (p : Program) (e : Env) (s : State) (m : MethodId) (args : Array Value) (below : List Frame) (meth : Method) (c : Code) (ls : Array Slot), mz_En SX N cl dC dI ad ca p s m meth c bytes maxL y.cls rt → mz_Wd tab N cl dC dI ad en ca s t s.heap [] → lv_has ls maxL (lv_args 0 av) →
      W p l e rm s m args below meth c s.heap [] 0 0 (MQ below (mz_Q SX tab N cl dC dI ad en ca v0 u) args s 0 0 (mz_A ad N)) (F0 m 0 ls [])) : mz_C SX tab N cl dC dI ad en ca l y bytes maxL rt rm av t v0 u := by
  refine Met.ofW (cc := bytes) (maxL := maxL) (ret := rt) hy rfl ?_
  intro p e s m args below meth c s₁ B hml hv
  obtain ⟨rfl, hP, hK, hJ, hcx, hSX⟩ := hv
  rw [lg_entry_eq]
  exact body p e s m _ below meth c _ ⟨B.exec, B.bytes, hml, findClass_of_methodNamed B.named, hcx, hK, hJ, hSX, B.notSynchronized, B.returns, hSK⟩ ⟨hP, va_S.rf⟩ (lv_entry av hlen)
theorem mz_ret {v0 : Option Value} {u : mz_St} (E : mz_En SX N cl dC dI ad ca p s m meth c cc nL own ret) (w : mz_Wd tab N cl dC dI ad en ca s u H locs) : (∀ z : State, z.heap = H → s.WarmedH z.vm → mz_Q SX tab N cl dC dI ad en ca v0 u args s (.returned v0) z) ∧ ∀ q ∈ locs, mz_A ad N q.base := by
  obtain ⟨hx, hb, -, hown, hcx, hK, hJ, hSX, -, -, hSK⟩ := E
  refine ⟨fun z hz hW => ⟨⟨rfl, by rw [hz]; exact w.1, va_K.moved hW.alike hK, hJ, hcx.warm hW, ?_⟩, w.2.F hz⟩, w.2.2.2⟩
  rw [hz]
  exact hSK s z H hSX w.2.2.1 hW
theorem mz_iret {v : Int32} {u : mz_St} {v0 : Option Value} (E : mz_En SX N cl dC dI ad ca p s m meth c cc nL own (some .int)) (w : mz_Wd tab N cl dC dI ad en ca s u H locs) (hv : v0 = some (.int v)) (hd : decode cc pc = .ok (.ireturn, 1)) :
    W p l e R s m args below meth c H locs cells slots (MQ below (mz_Q SX tab N cl dC dI ad en ca v0 u) args s cells slots (mz_A ad N)) (F0 m pc ls [.int v]) := by
  subst hv
  obtain ⟨hx, hb, -, -, -, -, -, -, hlocks, hr, -⟩ := id E
  exact W.iret hx hb hr (mz_ret E w).1 (mz_ret (v0 := none) (args := args) E w).2 hd
theorem mz_zret {v : Int32} {u : mz_St} {v0 : Option Value} (E : mz_En SX N cl dC dI ad ca p s m meth c cc nL own (some .boolean)) (w : mz_Wd tab N cl dC dI ad en ca s u H locs) (hn : narrow .boolean (.int v) = .int v) (hv : v0 = some (.int v)) (hd : decode cc pc = .ok (.ireturn, 1)) :
    W p l e R s m args below meth c H locs cells slots (MQ below (mz_Q SX tab N cl dC dI ad en ca v0 u) args s cells slots (mz_A ad N)) (F0 m pc ls [.int v]) := by
  subst hv
  obtain ⟨hx, hb, -, -, -, -, -, -, hlocks, hr, -⟩ := id E
  exact W.zret hx hb hr hn (mz_ret E w).1 (mz_ret (v0 := none) (args := args) E w).2 hd
theorem mz_vret {u : mz_St} {v0 : Option Value} (E : mz_En SX N cl dC dI ad ca p s m meth c cc nL own none) (w : mz_Wd tab N cl dC dI ad en ca s u H locs) (hv : v0 = none) (hd : decode cc pc = .ok (.return_, 1)) :
    W p l e R s m args below meth c H locs cells slots (MQ below (mz_Q SX tab N cl dC dI ad en ca v0 u) args s cells slots (mz_A ad N)) (F0 m pc ls []) := by
  subst hv
  obtain ⟨hx, hb, -, -, -, -, -, -, hlocks, hr, -⟩ := id E
  exact W.vret hx hb hr (mz_ret E w).1 (mz_ret (v0 := none) (args := args) E w).2 hd
theorem mz_aret {v : Nat} {u : mz_St} {v0 : Option Value} {rt : FieldType} (E : mz_En SX N cl dC dI ad ca p s m meth c cc nL own (some rt)) (w : mz_Wd tab N cl dC dI ad en ca s u H locs) (hn : ∃ n, rt = .object n) (hv : v0 = some (.ref v)) (hd : decode cc pc = .ok (.areturn, 1)) :
    W p l e R s m args below meth c H locs cells slots (MQ below (mz_Q SX tab N cl dC dI ad en ca v0 u) args s cells slots (mz_A ad N)) (F0 m pc ls [.ref v]) := by
  subst hv
  obtain ⟨hx, hb, -, -, -, -, -, -, hlocks, hr, -⟩ := id E
  exact W.aret hx hb hr (Or.inl hn) (Or.inr ⟨_, rfl⟩) (mz_ret E w).1 (mz_ret (v0 := none) (args := args) E w).2 hd
theorem mz_b01 {v : Int32} (h : v = 0 ∨ v = 1) : narrow .boolean (.int v) = .int v := by
  rcases h with rfl | rfl <;> decide +kernel
/-- behind a call -/
def mz_let {α β : Type} (x : α) (f : α → β) : β := f x
theorem mz_lt {α β : Type} {x : α} {f : α → β} {r : β} (h : mz_let x f = r) : ∃ z, z = x ∧ f z = r := ⟨x, rfl, h⟩
theorem mz_call {v0 : Option Value} {u : mz_St} {st0 : List Value} {a : Array Value} (w : mz_Wd tab N cl dC dI ad en ca s t H locs) (hr : va_Run p l e R s m args below meth c H locs cells slots 0 0 (F0 m pc ls st0) rest (mz_Q SX tab N cl dC dI ad en ca v0 u a) (mz_A ad N))
    {st1 : List Value} (hs1 : v0.toList ++ rest = st1) (kk : ∀ (H1 : Heap) (locs1 : List Loc), mz_Wd tab N cl dC dI ad en ca s u H1 locs1 → W p l e R s m args below meth c H1 locs1 cells slots Q (F0 m (pc + 3) ls st1)) : W p l e R s m args below meth c H locs cells slots Q (F0 m pc ls st0) := by
  subst hs1
  intro T hT X
  obtain ⟨v, st₀, z, T', L, h0, X', hL, e1, e2, ⟨⟨hv, hP, -⟩, hz, hk⟩, st⟩ := hr T hT X
  cases hv
  rw [h0] at hz hk
  have hS := w.2
  obtain ⟨t2, a1, b1⟩ := kk T'.heap (locs ++ L) ⟨by rw [e1]; exact hP, ⟨Nat.le_trans hS.1 (by rw [e1]; exact hz), fun q h1 h2 => by rw [e1, hk q (Nat.lt_of_lt_of_le h1 hS.1) h2]; exact hS.2.1 q h1 h2, fun q hq => by
      rcases List.mem_append.mp hq with h | h
      · exact hS.2.2 q h
      · exact hL q h⟩⟩ T' rfl X'
  exact ⟨t2, st t2 a1, b1⟩
theorem mz_pre {av : List Value} (E : mz_En SX N cl dC dI ad ca p s m meth c cc nL own ret) (w : mz_Wd tab N cl dC dI ad en ca s t H locs) : FrameBlind (va_Pc av (mz_WP SX tab N cl dC dI ad en ca t)) ∧ ∀ U : State, U.heap = H → s.WarmedH U.vm → va_Pc av (mz_WP SX tab N cl dC dI ad en ca t) av.toArray U := by
  obtain ⟨hx, hb, -, hown, hcx, hK, hJ, hSX, -, -, hSK⟩ := E
  refine ⟨fun a U g mk q => ?_, fun U hU hW => ⟨rfl, by rw [hU]; exact w.1, va_K.moved hW.alike hK, hJ, hcx.warm hW, by rw [hU]; exact hSK s U H hSX w.2.2.1 hW⟩⟩
  obtain ⟨q0, qP, qK, qJ, qc, qS⟩ := q
  exact ⟨q0, qP, va_K.moved (u := U) (U := U.calling g mk a) (Vm.Alike.refl U.vm) qK, qJ, qc.same rfl, hSK U (U.calling g mk a) U.heap qS (fun _ _ _ => rfl) (State.WarmedH.refl U)⟩
theorem mz_callV (E : mz_En SX N cl dC dI ad ca p s m meth c cc nL own ret) (w : mz_Wd tab N cl dC dI ad en ca s t H locs) {y : MethodName} {bytes : ByteArray} {maxL idx n ci NF : Nat} {rt : Option FieldType} {rm : Room} {k : Nat} {As : List Value} {v0 : Option Value} {u : mz_St} {C : String} {T : u_T} {ks : List (Nat × Nat)} {st0 : List Value}
    (hM : mz_C SX tab N cl dC dI ad en ca l y bytes maxL rt rm (.ref (ad k) :: As) t v0 u) (hk : k < N) (ht : tab k = .inl (ci, ks)) (hc : cl[ci]? = some (C, T, NF))
    (hcd : Cond.code y bytes maxL rt ∈ mz_tb) (hini : Cond.initialized y.cls ∈ mz_tb) (hlk : Cond.methodLink own idx y ∈ mz_tb) (him : Cond.instanceMethod y ∈ mz_tb) (hse : Cond.selects C y y ∈ mz_tb)
    (hdd : y.cls ≠ "java/lang/invoke/MethodHandle" ∧ y.cls ≠ "java/lang/invoke/VarHandle" ∧ (parseMethodDescriptor y.desc).map (fun d => d.parameters.length) = some n) (hR : (rm.cells = 0 ∧ rm.slots = 0) ∧ rm.frames + 1 ≤ R.frames ∧ 8 + (maxL + 11) + rm.locals ≤ R.locals)
    (hn : As.length = n) (hsz : ls.size = nL) (hst : st0 = As.reverse ++ .ref (ad k) :: rest) (hw8 : (rest.map fun v => v.category).sum ≤ 8) (hd : decode cc pc = .ok (.invokevirtual idx, 3)) (hroom : cells ≤ R.cells ∧ slots ≤ R.slots)
    {st1 : List Value} (hs1 : v0.toList ++ rest = st1) (kk : ∀ (H1 : Heap) (locs1 : List Loc), mz_Wd tab N cl dC dI ad en ca s u H1 locs1 → W p l e R s m args below meth c H1 locs1 cells slots Q (F0 m (pc + 3) ls st1)) : W p l e R s m args below meth c H locs cells slots Q (F0 m pc ls st0) := by
  obtain ⟨hx, hb, hml, hown, hcx, hK, hJ, hSX, -, -, hSK⟩ := id E
  have he : (mz_w tab N ad en ca t)[k]? = some (ad k, .inr (ci, mz_ob ad en ks (t.1 k) (t.2 k))) := by
    rw [mz_w_at hk]; unfold mz_ce; rw [ht]
  have hts := hcx.at args
  have hG : GoodIn mz_tb [Cond.code y bytes maxL rt] := fun w0 h0 => by
    rw [List.mem_singleton] at h0
    subst h0
    exact ⟨hcd, Or.inl rfl⟩
  have cw : CallW R s args own C idx y bytes maxL rt [Cond.code y bytes maxL rt] rm 0 0 n := ⟨callB_of n hts hG rfl hR.1.1 hR.1.2 (hts _ hini) (hts _ hlk) hdd hR.2, hts _ him, hts _ hse⟩
  exact mz_call w (va_runV (As := As) (rest := rest) ⟨hx, hb, hml, hown, hts⟩ hM cw ⟨(mz_pre E w).1, va_recv hK w.1 hc he, (mz_pre E w).2⟩ rfl hn hsz hst (lv_room hw8) hd ⟨hroom.1, hroom.2⟩) hs1 kk
theorem mz_callS (E : mz_En SX N cl dC dI ad ca p s m meth c cc nL own ret) (w : mz_Wd tab N cl dC dI ad en ca s t H locs) {y : MethodName} {bytes : ByteArray} {maxL idx n : Nat} {rt : Option FieldType} {rm : Room} {As : List Value} {v0 : Option Value} {u : mz_St} {st0 : List Value}
    (hM : mz_C SX tab N cl dC dI ad en ca l y bytes maxL rt rm As t v0 u)
    (hcd : Cond.code y bytes maxL rt ∈ mz_tb) (hini : Cond.initialized y.cls ∈ mz_tb) (hlk : Cond.methodLink own idx y ∈ mz_tb) (him : Cond.static y ∈ mz_tb)
    (hdd : y.cls ≠ "java/lang/invoke/MethodHandle" ∧ y.cls ≠ "java/lang/invoke/VarHandle" ∧ (parseMethodDescriptor y.desc).map (fun d => d.parameters.length) = some n) (hR : (rm.cells = 0 ∧ rm.slots = 0) ∧ rm.frames + 1 ≤ R.frames ∧ 8 + (maxL + 11) + rm.locals ≤ R.locals)
    (hn : As.length = n) (hsz : ls.size = nL) (hst : st0 = As.reverse ++ rest) (hw8 : (rest.map fun v => v.category).sum ≤ 8) (hd : decode cc pc = .ok (.invokestatic idx, 3)) (hroom : cells ≤ R.cells ∧ slots ≤ R.slots)
    {st1 : List Value} (hs1 : v0.toList ++ rest = st1) (kk : ∀ (H1 : Heap) (locs1 : List Loc), mz_Wd tab N cl dC dI ad en ca s u H1 locs1 → W p l e R s m args below meth c H1 locs1 cells slots Q (F0 m (pc + 3) ls st1)) : W p l e R s m args below meth c H locs cells slots Q (F0 m pc ls st0) := by
  obtain ⟨hx, hb, hml, hown, hcx, hK, hJ, hSX, -, -, hSK⟩ := id E
  have hts := hcx.at args
  have hG : GoodIn mz_tb [Cond.code y bytes maxL rt] := fun w0 h0 => by
    rw [List.mem_singleton] at h0
    subst h0
    exact ⟨hcd, Or.inl rfl⟩
  have cw : CallB R s args own idx y bytes maxL rt [Cond.code y bytes maxL rt] rm 0 0 n := callB_of n hts hG rfl hR.1.1 hR.1.2 (hts _ hini) (hts _ hlk) hdd hR.2
  exact mz_call w (va_runS (As := As) (rest := rest) ⟨hx, hb, hml, hown, hts⟩ hM ⟨cw, hts _ him⟩ (mz_pre E w) rfl hn hsz hst (lv_room hw8) hd ⟨hroom.1, hroom.2⟩) hs1 kk
end MZC
