/-! The law: rows -/
def lw_En (dC : Nat → ClassId) (dI : Nat → Nat → Nat) (ca : Nat → ClassId) (en adK adV : Nat → Nat) (tA tS : Nat) (oF : Option Nat) (adC adM : Nat → Nat) (o : Nat) (p : Program) (s : State) (m : MethodId) (c : Code) (cc : ByteArray) (nL : Nat) : Prop :=
  p.tables.exec = Jvm.exec ∧ c.code = cc ∧ c.maxLocals = nL ∧ s.vm.findClass "MacroHouseLaw" = some m.cls ∧ mz_cx s ∧ va_K (dC, dI) mz_cl (mz_ty ca) s ∧ mz_S0 (fun q => s.heap.size ≤ q) en adK adV tA tS oF s s.heap ∧ mz_TH s ∧ (mz_J adC 80 ∧ mz_J adM 55) ∧
  ((∀ q, mz_A adC 80 q → s.heap.size ≤ q) ∧ (∀ q, mz_A adM 55 q → s.heap.size ≤ q) ∧ s.heap.size ≤ o) ∧ (¬ mz_A adC 80 o ∧ ¬ mz_A adM 55 o ∧ ∀ q, mz_A adC 80 q → ¬ mz_A adM 55 q)
def lw_W (dC : Nat → ClassId) (dI : Nat → Nat → Nat) (ca : Nat → ClassId) (en adC adM : Nat → Nat) (o : Nat) (s : State) (tC tM : mz_St) (g : Nat → Int64) (H : Heap) (locs : List Loc) : Prop :=
  va_P (dC, dI) mz_cl (mz_w mz_tC 80 adC en ca tC) H ∧ va_P (dC, dI) mz_cl (mz_w mz_tM 55 adM en ca tM) H ∧ va_P (dC, dI) mz_cl (lh_o ca o g) H ∧ va_S (fun q => s.heap.size ≤ q) s.heap H locs
theorem lw_keepW {dC : Nat → ClassId} {dI : Nat → Nat → Nat} {ca : Nat → ClassId} {tab : mz_Tab} {N : Nat} {ad en : Nat → Nat} {t : mz_St} {H H1 : Heap} {B : Nat → Prop} (hP : va_P (dC, dI) mz_cl (mz_w tab N ad en ca t) H) (hB : ∀ q, mz_A ad N q → ¬ B q) (hk : ∀ q : Nat, q < H.size → ¬ B q → H1[q]? = H[q]?) : va_P (dC, dI) mz_cl (mz_w tab N ad en ca t) H1 :=
  hP.kept fun k q hq => by
    obtain ⟨h1, rfl⟩ := mz_w_get hq
    exact hk _ (hP k _ hq).lt (hB _ ⟨k, h1, rfl⟩)
theorem lw_keepO {dC : Nat → ClassId} {dI : Nat → Nat → Nat} {ca : Nat → ClassId} {o : Nat} {g : Nat → Int64} {H H1 : Heap} {B : Nat → Prop} (hP : va_P (dC, dI) mz_cl (lh_o ca o g) H) (hB : ¬ B o) (hk : ∀ q : Nat, q < H.size → ¬ B q → H1[q]? = H[q]?) : va_P (dC, dI) mz_cl (lh_o ca o g) H1 :=
  hP.kept fun k q hq => by
    have hk0 : k = 0 := by
      have : k < 1 := (List.getElem?_eq_some_iff.mp hq).1
      omega
    subst hk0
    cases hq
    exact hk o (hP 0 _ rfl).lt hB
section LW
variable {dC : Nat → ClassId} {dI : Nat → Nat → Nat} {ca : Nat → ClassId} {en adK adV : Nat → Nat} {tA tS : Nat} {oF : Option Nat} {adC adM : Nat → Nat} {o : Nat} {g g' : Nat → Int64} {tC tM : mz_St}
variable {p : Program} {l : Launch} {e : Env} {R : Room} {s : State} {m : MethodId} {args : Array Value} {below : List Frame} {meth : Method} {c : Code} {H : Heap} {locs : List Loc} {cells slots : Nat} {Q : State → Prop}
variable {cc : ByteArray} {nL pc : Nat} {ls : Array Slot} {rest : List Value}
/-- a call of a method of one side -/
theorem lw_call1 {SX : State → Heap → Prop} {tab : mz_Tab} {N : Nat} {ad : Nat → Nat} {t : mz_St} {y : MethodName} {bytes : ByteArray} {maxL idx n ci NF : Nat} {rt : Option FieldType} {rm : Room} {k : Nat} {As : List Value} {v0 : Option Value} {u : mz_St} {C : String} {T : u_T} {ks : List (Nat × Nat)} {st0 : List Value} {A0 : Nat → Prop} {own : String}
    (S : CallFix p m c cc nL s args mz_tb own) (hcx : mz_cx s) (hK : va_K (dC, dI) mz_cl (mz_ty ca) s) (hJ : mz_J ad N) (hP : va_P (dC, dI) mz_cl (mz_w tab N ad en ca t) H) (hS : va_S A0 s.heap H locs) (hA : ∀ q, mz_A ad N q → A0 q) (hSX : ∀ U : State, s.WarmedH U.vm → SX U H) (hSK : mz_SK SX ad N)
    (hM : mz_C SX tab N mz_cl dC dI ad en ca l y bytes maxL rt rm (.ref (ad k) :: As) t v0 u) (hk : k < N) (ht : tab k = .inl (ci, ks)) (hc : mz_cl[ci]? = some (C, T, NF))
    (hcd : Cond.code y bytes maxL rt ∈ mz_tb) (hini : Cond.initialized y.cls ∈ mz_tb) (hlk : Cond.methodLink own idx y ∈ mz_tb) (him : Cond.instanceMethod y ∈ mz_tb) (hse : Cond.selects C y y ∈ mz_tb)
    (hdd : y.cls ≠ "java/lang/invoke/MethodHandle" ∧ y.cls ≠ "java/lang/invoke/VarHandle" ∧ (parseMethodDescriptor y.desc).map (fun d => d.parameters.length) = some n) (hR : (rm.cells = 0 ∧ rm.slots = 0) ∧ rm.frames + 1 ≤ R.frames ∧ 8 + (maxL + 11) + rm.locals ≤ R.locals)
    (hn : As.length = n) (hsz : ls.size = nL) (hst : st0 = As.reverse ++ .ref (ad k) :: rest) (hw8 : (rest.map fun v => v.category).sum ≤ 8) (hd : decode cc pc = .ok (.invokevirtual idx, 3)) (hroom : cells ≤ R.cells ∧ slots ≤ R.slots)
    {st1 : List Value} (hs1 : v0.toList ++ rest = st1) (kk : ∀ (H1 : Heap) (locs1 : List Loc), va_P (dC, dI) mz_cl (mz_w tab N ad en ca u) H1 → (∀ q : Nat, q < H.size → ¬ mz_A ad N q → H1[q]? = H[q]?) → va_S A0 s.heap H1 locs1 → W p l e R s m args below meth c H1 locs1 cells slots Q (F0 m (pc + 3) ls st1)) : W p l e R s m args below meth c H locs cells slots Q (F0 m pc ls st0) := by
  have hts := hcx.at args
  have he : (mz_w tab N ad en ca t)[k]? = some (ad k, .inr (ci, mz_ob ad en ks (t.1 k) (t.2 k))) := by
    rw [mz_w_at hk]; unfold mz_ce; rw [ht]
  have hG : GoodIn mz_tb [Cond.code y bytes maxL rt] := fun w0 h0 => by
    rw [List.mem_singleton] at h0
    subst h0
    exact ⟨hcd, Or.inl rfl⟩
  have cw : CallW R s args own C idx y bytes maxL rt [Cond.code y bytes maxL rt] rm 0 0 n := ⟨callB_of n hts hG rfl hR.1.1 hR.1.2 (hts _ hini) (hts _ hlk) hdd hR.2, hts _ him, hts _ hse⟩
  have pre : FrameBlind (va_Pc (.ref (ad k) :: As) (mz_WP SX tab N mz_cl dC dI ad en ca t)) ∧ ∀ U : State, U.heap = H → s.WarmedH U.vm → va_Pc (.ref (ad k) :: As) (mz_WP SX tab N mz_cl dC dI ad en ca t) (Value.ref (ad k) :: As).toArray U := by
    refine ⟨fun a U g mk q => ?_, fun U hU hW => ⟨rfl, by rw [hU]; exact hP, va_K.moved hW.alike hK, hJ, hcx.warm hW, by rw [hU]; exact hSX U hW⟩⟩
    obtain ⟨q0, qP, qK, qJ, qc, qS⟩ := q
    exact ⟨q0, qP, va_K.moved (u := U) (U := U.calling g mk a) (Vm.Alike.refl U.vm) qK, qJ, qc.same rfl, hSK U (U.calling g mk a) U.heap qS (fun _ _ _ => rfl) (State.WarmedH.refl U)⟩
  have hr := va_runV (As := As) (rest := rest) (e := e) (below := below) (meth := meth) (H := H) (locs := locs) (cells := cells) (slots := slots) (g := F0 m pc ls st0) S hM cw ⟨pre.1, va_recv hK hP hc he, pre.2⟩ rfl hn hsz hst (lv_room hw8) hd ⟨hroom.1, hroom.2⟩
  subst hs1
  intro T1 hT1 X
  obtain ⟨v, st₀, z, T', L, h0, X', hL, e1, e2, ⟨⟨hv, hP1, -⟩, hz, hk1⟩, st⟩ := hr T1 hT1 X
  cases hv
  rw [h0] at hz hk1
  rw [← e1] at hP1 hz hk1
  obtain ⟨t2, a1, b1⟩ := kk T'.heap (locs ++ L) hP1 hk1 ⟨Nat.le_trans hS.1 hz, fun q h1 h2 => by rw [hk1 q (Nat.lt_of_lt_of_le h1 hS.1) (fun h => h2 (hA q h))]; exact hS.2.1 q h1 h2, fun q hq => by
      rcases List.mem_append.mp hq with h | h
      · exact hS.2.2 q h
      · exact hA _ (hL q h)⟩ T' rfl X'
  exact ⟨t2, st t2 a1, b1⟩
/-- a call of the reference -/
theorem lw_callM {t0 : mz_St} {y : MethodName} {bytes : ByteArray} {maxL idx n : Nat} {rt : Option FieldType} {rm : Room} {As : List Value} {v0 : Option Value} {u : mz_St} {ks : List (Nat × Nat)} {st0 : List Value} {NF : Nat} {T : u_T}
    (E : lw_En dC dI ca en adK adV tA tS oF adC adM o p s m c cc nL) (w : lw_W dC dI ca en adC adM o s tC t0 g H locs) (hM : mz_C (fun _ _ => True) mz_tM 55 mz_cl dC dI adM en ca l y bytes maxL rt rm (.ref (adM 0) :: As) t0 v0 u) (ht : mz_tM 0 = .inl (11, ks)) (hc : mz_cl[11]? = some ("MacroHouseModel", T, NF))
    (hcd : Cond.code y bytes maxL rt ∈ mz_tb) (hini : Cond.initialized y.cls ∈ mz_tb) (hlk : Cond.methodLink "MacroHouseLaw" idx y ∈ mz_tb) (him : Cond.instanceMethod y ∈ mz_tb) (hse : Cond.selects "MacroHouseModel" y y ∈ mz_tb)
    (hdd : y.cls ≠ "java/lang/invoke/MethodHandle" ∧ y.cls ≠ "java/lang/invoke/VarHandle" ∧ (parseMethodDescriptor y.desc).map (fun d => d.parameters.length) = some n) (hR : (rm.cells = 0 ∧ rm.slots = 0) ∧ rm.frames + 1 ≤ R.frames ∧ 8 + (maxL + 11) + rm.locals ≤ R.locals)
    (hn : As.length = n) (hsz : ls.size = nL) (hst : st0 = As.reverse ++ .ref (adM 0) :: rest) (hw8 : (rest.map fun v => v.category).sum ≤ 8) (hd : decode cc pc = .ok (.invokevirtual idx, 3)) (hroom : cells ≤ R.cells ∧ slots ≤ R.slots)
    {st1 : List Value} (hs1 : v0.toList ++ rest = st1) (kk : ∀ (H1 : Heap) (locs1 : List Loc), lw_W dC dI ca en adC adM o s tC u g H1 locs1 → W p l e R s m args below meth c H1 locs1 cells slots Q (F0 m (pc + 3) ls st1)) : W p l e R s m args below meth c H locs cells slots Q (F0 m pc ls st0) := by
  obtain ⟨hx, hb, hml, hown, hcx, hK, hS0, hTH, hJ, hA, hD⟩ := E
  obtain ⟨w1, w2, w3, w4⟩ := w
  refine lw_call1 ⟨hx, hb, hml, hown, hcx.at args⟩ hcx hK hJ.2 w2 w4 hA.2.1 (fun _ _ => trivial) (fun _ _ _ _ _ _ => trivial) hM (by decide) ht hc hcd hini hlk him hse hdd hR hn hsz hst hw8 hd hroom hs1 (fun H1 locs1 hP1 hk1 hS1 => kk H1 locs1 ⟨lw_keepW w1 (fun q h => hD.2.2 q h) hk1, hP1, lw_keepO w3 hD.2.1 hk1, hS1⟩)
/-- a call of the class that doesn't throw -/
theorem lw_callC {t0 : mz_St} {y : MethodName} {bytes : ByteArray} {maxL idx n : Nat} {rt : Option FieldType} {rm : Room} {As : List Value} {v0 : Option Value} {u : mz_St} {ks : List (Nat × Nat)} {st0 : List Value} {NF : Nat} {T : u_T}
    (E : lw_En dC dI ca en adK adV tA tS oF adC adM o p s m c cc nL) (w : lw_W dC dI ca en adC adM o s t0 tM g H locs) (hM : mz_C (mz_SC adC en adK adV tA tS oF) mz_tC 80 mz_cl dC dI adC en ca l y bytes maxL rt rm (.ref (adC 0) :: As) t0 v0 u) (ht : mz_tC 0 = .inl (0, ks)) (hc : mz_cl[0]? = some ("MacroHouse", T, NF))
    (hcd : Cond.code y bytes maxL rt ∈ mz_tb) (hini : Cond.initialized y.cls ∈ mz_tb) (hlk : Cond.methodLink "MacroHouseLaw" idx y ∈ mz_tb) (him : Cond.instanceMethod y ∈ mz_tb) (hse : Cond.selects "MacroHouse" y y ∈ mz_tb)
    (hdd : y.cls ≠ "java/lang/invoke/MethodHandle" ∧ y.cls ≠ "java/lang/invoke/VarHandle" ∧ (parseMethodDescriptor y.desc).map (fun d => d.parameters.length) = some n) (hR : (rm.cells = 0 ∧ rm.slots = 0) ∧ rm.frames + 1 ≤ R.frames ∧ 8 + (maxL + 11) + rm.locals ≤ R.locals)
    (hn : As.length = n) (hsz : ls.size = nL) (hst : st0 = As.reverse ++ .ref (adC 0) :: rest) (hw8 : (rest.map fun v => v.category).sum ≤ 8) (hd : decode cc pc = .ok (.invokevirtual idx, 3)) (hroom : cells ≤ R.cells ∧ slots ≤ R.slots)
    {st1 : List Value} (hs1 : v0.toList ++ rest = st1) (kk : ∀ (H1 : Heap) (locs1 : List Loc), lw_W dC dI ca en adC adM o s u tM g H1 locs1 → W p l e R s m args below meth c H1 locs1 cells slots Q (F0 m (pc + 3) ls st1)) : W p l e R s m args below meth c H locs cells slots Q (F0 m pc ls st0) := by
  obtain ⟨hx, hb, hml, hown, hcx, hK, hS0, hTH, hJ, hA, hD⟩ := E
  obtain ⟨w1, w2, w3, w4⟩ := w
  refine lw_call1 ⟨hx, hb, hml, hown, hcx.at args⟩ hcx hK hJ.1 w1 w4 hA.1 (fun U hW => hS0.to hA.1 w4.2.1 hW) mz_SC_k hM (by decide) ht hc hcd hini hlk him hse hdd hR hn hsz hst hw8 hd hroom hs1 (fun H1 locs1 hP1 hk1 hS1 => kk H1 locs1 ⟨hP1, lw_keepW w2 (fun q h h2 => hD.2.2 q h2 h) hk1, lw_keepO w3 hD.1 hk1, hS1⟩)
/-- statics at a later state -/
theorem mz_S0.go {A B : Nat → Prop} {en adK adV : Nat → Nat} {tA tS : Nat} {oF : Option Nat} {s U : State} {H H1 : Heap} (h : mz_S0 A en adK adV tA tS oF s H) (hAB : ∀ q, B q → A q) (hk : ∀ q : Nat, q < H.size → ¬ A q → H1[q]? = H[q]?) (hW : s.WarmedH U.vm) : mz_S0 B en adK adV tA tS oF U H1 := by
  obtain ⟨h1, h2, h3, h4, h5, h6, h7, h8, h9⟩ := h
  have hv := hW.alike
  exact ⟨((h1.kept hk).moved hv).narrow hAB, ((h2.kept hk).moved hv).narrow hAB, ((h3.kept hk).moved hv).narrow hAB, ((h4.kept hk).moved hv).narrow hAB, ((h5.kept hk).moved hv).narrow hAB, ((h6.kept hk).moved hv).narrow hAB, fun i hi => ⟨(((h7 i hi).1.kept hk).moved hv).narrow hAB, (((h7 i hi).2.1.kept hk).moved hv).narrow hAB, (((h7 i hi).2.2.1.kept hk).moved hv).narrow hAB, (((h7 i hi).2.2.2.kept hk).moved hv).narrow hAB⟩, ((h8.kept hk).moved hv).narrow hAB, ((h9.kept hk).moved hv).narrow hAB⟩
/-- a call of a helper -/
theorem lw_help {t0 : mz_St} {y : MethodName} {bytes : ByteArray} {maxL idx n : Nat} {hh : List (Nat × Nat × Nat × Nat)} {rm : Room} {As : List Value} {k : Int32} {u : mz_St} {st0 : List Value}
    (E : lw_En dC dI ca en adK adV tA tS oF adC adM o p s m c cc nL) (w : lw_W dC dI ca en adC adM o s t0 tM g H locs) (hM : lh_C (lh_S adC en adK adV tA tS oF) (lh_X adC o en adK adV tA tS oF) dC dI adC en ca l y bytes maxL hh rm As o g t0 k g' u)
    (hcd : Cond.codeWith y bytes maxL (some .int) hh ∈ mz_tb) (hini : Cond.initialized y.cls ∈ mz_tb) (hlk : Cond.methodLink "MacroHouseLaw" idx y ∈ mz_tb) (him : Cond.static y ∈ mz_tb)
    (hdd : y.cls ≠ "java/lang/invoke/MethodHandle" ∧ y.cls ≠ "java/lang/invoke/VarHandle" ∧ (parseMethodDescriptor y.desc).map (fun d => d.parameters.length) = some n) (hR : (rm.cells = 1 ∧ rm.slots = 6) ∧ rm.frames + 1 ≤ R.frames ∧ 8 + (maxL + 11) + rm.locals ≤ R.locals)
    (hn : As.length = n) (hsz : ls.size = nL) (hst : st0 = As.reverse ++ rest) (hw8 : (rest.map fun v => v.category).sum ≤ 8) (hd : decode cc pc = .ok (.invokestatic idx, 3)) (hroom : cells + 1 ≤ R.cells ∧ slots + 6 ≤ R.slots)
    (kk : ∀ (H1 : Heap) (locs1 : List Loc), lw_W dC dI ca en adC adM o s u tM g' H1 locs1 → W p l e R s m args below meth c H1 locs1 (cells + 1) (slots + 6) Q (F0 m (pc + 3) ls (.int k :: rest))) : W p l e R s m args below meth c H locs cells slots Q (F0 m pc ls st0) := by
  obtain ⟨hx, hb, hml, hown, hcx, hK, hS0, hTH, hJ, hA, hD⟩ := E
  obtain ⟨w1, w2, w3, w4⟩ := w
  have hts := hcx.at args
  have hAo : ∀ q, lh_A adC o q → s.heap.size ≤ q := fun q h => by
    rcases h with h | h
    · exact hA.1 q h
    · rw [h]; exact hA.2.2
  have hkeep : ∀ q : Nat, q < s.heap.size → H[q]? = s.heap[q]? := fun q hq => w4.2.1 q hq (Nat.not_le.mpr hq)
  have pre : PreS s H (va_Pc As (lh_P (lh_S adC en adK adV tA tS oF) (lh_X adC o en adK adV tA tS oF) dC dI adC en ca o g t0)) As := by
    refine ⟨fun a U g0 mk q => ?_, fun U hU hW => ⟨rfl, ⟨by rw [hU]; exact w1, va_K.moved hW.alike hK, hJ.1, hcx.warm hW, by rw [hU]; exact hS0.to hA.1 w4.2.1 hW⟩, hTH.keep hW (fun q hq => by rw [hU]; exact hkeep q hq), by rw [hU]; exact w3, hD.1, by show mz_S0 _ _ _ _ _ _ _ U U.heap; rw [hU]; exact hS0.go hAo w4.2.1 hW⟩⟩
    obtain ⟨q0, ⟨qP, qK, qJ, qc, qS⟩, qT, qO, qn, qX⟩ := q
    exact ⟨q0, ⟨qP, va_K.moved (u := U) (U := U.calling g0 mk a) (Vm.Alike.refl U.vm) qK, qJ, qc.same rfl, mz_SC_k U (U.calling g0 mk a) U.heap qS (fun _ _ _ => rfl) (State.WarmedH.refl U)⟩, qT.keep (State.WarmedH.refl U) (fun _ _ => rfl), qO, qn, qX.go (U := U.calling g0 mk a) (fun _ h => h) (fun _ _ _ => rfl) (State.WarmedH.refl U)⟩
  have hB : Back l R p e below s args y 3 8 (PreOf R 1 6 (va_Pc As (lh_P (lh_S adC en adK adV tA tS oF) (lh_X adC o en adK adV tA tS oF) dC dI adC en ca o g t0))) (PostOf (lh_Q (lh_S adC en adK adV tA tS oF) dC dI adC en ca o k g' u) 1 6 (lh_A adC o)) := by
    refine va_backW (hh := hh) (bytes := bytes) (maxL := maxL) (ret := some .int) hM pre.1 hR.1.1 hR.1.2 hR.2.1 hR.2.2 (fun w0 h0 a' U hW => ?_) List.mem_cons_self (fun a' U hW => (hcx.warm hW).at a' _ hini)
    rw [List.mem_singleton] at h0
    subst h0
    exact (hcx.warm hW).at a' _ hcd
  intro T1 hT1 X
  obtain ⟨mk, methM, cM, hnamed, hmethM, -, -, -, -, -, -, hsigM⟩ := Cond.codeWith_spec (hts _ hcd)
  have hstatic : methM.isStatic = true := Cond.static_spec hnamed hmethM (hts _ him)
  obtain ⟨kP, hkP, -⟩ := className_of_methodNamed hnamed
  have hinitP : kP.init = .initialized := Cond.initialized_spec (findClass_of_methodNamed hnamed) hkP (hts _ hini)
  have hlen : As.length = methM.sig.parameters.length := by
    have h2 := hdd.2.2
    rw [hsigM] at h2
    exact hn.trans (Option.some.inj h2).symm
  obtain ⟨vm₁, X₁, hstep₁⟩ := X.invokestatic hx hown (hts _ hlk) hnamed hmethM hstatic hkP hinitP ⟨hdd.1, hdd.2.1⟩ (g := F0 m pc ls st0) rfl (argsL := As) (rest := rest) hlen hst (by rw [hb]; exact hd)
  have hh1 : (T1.setVm vm₁).heap = H := hT1
  obtain ⟨v, B, X', ⟨gg, mk', z, L, e1, e2, ⟨⟨hv, ⟨zP, -⟩, zO⟩, hz, hk1⟩, l1, hL, l2, l3⟩, hsteps⟩ := hB m meth c ⟨T1.setVm vm₁, locs, cells, slots⟩ { F0 m pc ls st0 with stack := rest } (.invokestatic idx) mk As.toArray X₁ rfl (by rw [hml]; exact hsz) (by rw [hb]; exact hd) (by show 2 * 0 + (rest.map fun v => v.category).sum ≤ 8; omega) (X₁.named hnamed) ⟨hroom.1, hroom.2, pre.2 (T1.setVm vm₁) hh1 X₁.warmed⟩
  cases hv
  obtain ⟨BU, Bl, Bc, Bs⟩ := B
  dsimp only [Pt.U, Pt.locs, Pt.cells, Pt.slots] at X' e1 e2 l1 l2 l3 hsteps
  subst l1; subst l2; subst l3
  have hz' : H.size ≤ z.heap.size := by rw [← hh1]; exact hz
  have hk' : ∀ q : Nat, q < H.size → ¬ lh_A adC o q → z.heap[q]? = H[q]? := fun q h1 h2 => by
    have := hk1 q (by show q < (T1.setVm vm₁).heap.size; rw [hh1]; exact h1) h2
    rw [this]
    show (T1.setVm vm₁).heap[q]? = _
    rw [hh1]
  obtain ⟨t2, a1, b1⟩ := kk z.heap (locs ++ L) ⟨zP, lw_keepW w2 (fun q h h2 => by
      rcases h2 with h2 | h2
      · exact hD.2.2 q h2 h
      · rw [h2] at h; exact hD.2.1 h) hk', zO, ⟨Nat.le_trans w4.1 hz', fun q h1 h2 => by rw [hk' q (Nat.lt_of_lt_of_le h1 w4.1) (fun h => h2 (hAo q h))]; exact w4.2.1 q h1 h2, fun q hq => by
      rcases List.mem_append.mp hq with h | h
      · exact w4.2.2 q h
      · exact hAo _ (hL q h)⟩⟩ BU e1 X'
  exact ⟨t2, hstep₁ _ fun acts => by rw [doInvoke_state]; exact hsteps.trans a1, b1⟩
/-- out[0] -/
theorem lw_ld {own : String} (hx : p.tables.exec = Jvm.exec) (hb : c.code = cc) (hK : va_K (dC, dI) mz_cl (mz_ty ca) s) (w : lw_W dC dI ca en adC adM o s tC tM g H locs) (hd : decode cc pc = .ok (.laload, 1))
    (kk : W p l e R s m args below meth c H locs cells slots Q (F0 m (pc + 1) ls (.long (g 0) :: rest))) : W p l e R s m args below meth c H locs cells slots Q (F0 m pc ls (.int 0 :: .ref o :: rest)) :=
  va_lald (D := (dC, dI)) hx hb hK w.2.2.1 0 3 (i := 0) rfl rfl (by unfold vp_in; decide) hd kk
end LW
