/-! Constructors: the cells at hand (X), those that are ready already (P) -/
abbrev mi_ySI : MethodName := ⟨"MacroHouse$Signs", "<init>", "()V"⟩
abbrev mi_yCO : MethodName := ⟨"MacroHouse$Conditions", "<init>", "()V"⟩
abbrev mi_yOU : MethodName := ⟨"MacroHouse$Output", "<init>", "()V"⟩
abbrev mi_yFR : MethodName := ⟨"MacroHouse$Frame", "<init>", "()V"⟩
def mi_ZP (en : Nat → Nat) (A : Nat → Prop) (U : State) (H : Heap) : Prop :=
  va_Z "MacroHouse$Directive" "PLAIN" "LMacroHouse$Directive;" (.ref (en 0)) A U H ∧ va_AO "MacroHouse$Frame" U ∧
  va_Nw (.methodLinkNest "MacroHouse" 9 mi_ySI "MacroHouse") U ∧ va_Nw (.methodLinkNest "MacroHouse$Expander" 11 mi_yCO "MacroHouse") U ∧ va_Nw (.methodLinkNest "MacroHouse$Expander" 20 mi_yOU "MacroHouse") U ∧ va_Nw (.methodLinkNest "MacroHouse$Stack" 11 mi_yFR "MacroHouse") U
theorem mi_ZP.go {en : Nat → Nat} {A B : Nat → Prop} {s U : State} {H H1 : Heap} (h : mi_ZP en A s H) (hW : s.WarmedH U.vm) (hk : ∀ q : Nat, q < H.size → ¬ A q → H1[q]? = H[q]?) (hAB : ∀ q, B q → A q) : mi_ZP en B U H1 := by
  obtain ⟨h1, h2, h3, h4, h5, h6⟩ := h
  exact ⟨((h1.kept hk).moved hW.alike).narrow hAB, h2.moved hW.alike, h3.warmM hW, h4.warmM hW, h5.warmM hW, h6.warmM hW⟩
theorem mi_ZP.same {en : Nat → Nat} {A : Nat → Prop} {U V : State} {H : Heap} (h : mi_ZP en A U H) (hv : V.vm = U.vm) : mi_ZP en A V H := h.go (H1 := H) (by rw [hv]; exact State.WarmedH.refl U) (fun _ _ _ => rfl) (fun _ h => h)
def mi_E (dC : Nat → ClassId) (dI : Nat → Nat → Nat) (ca : Nat → ClassId) (en : Nat → Nat) (p : Program) (s : State) (m : MethodId) (meth : Method) (c : Code) (cc : ByteArray) (nL : Nat) (own : String) (A : Nat → Prop) : Prop :=
  p.tables.exec = Jvm.exec ∧ c.code = cc ∧ c.maxLocals = nL ∧ s.vm.findClass own = some m.cls ∧ mz_cx s ∧ va_K (dC, dI) mz_cl (mz_ty ca) s ∧ mi_ZP en A s s.heap ∧ (∀ q, s.heap.size ≤ q → A q) ∧ meth.locks = false ∧ meth.sig.returnType = none ∧ meth.name = "<init>"
def mi_W (dC : Nat → ClassId) (dI : Nat → Nat → Nat) (s : State) (A : Nat → Prop) (X P : va_W) (H : Heap) (locs : List Loc) : Prop := va_P (dC, dI) mz_cl (X ++ P) H ∧ va_D A (X ++ P) ∧ va_S A s.heap H locs
def mi_C (dC : Nat → ClassId) (dI : Nat → Nat → Nat) (ca : Nat → ClassId) (en : Nat → Nat) (l : Launch) (y : MethodName) (bytes : ByteArray) (maxL : Nat) (rm : Room) (b : Nat) (As : List Value) (ci : Nat) (fs : List Value) (sz : Nat) (fs' : (Nat → Nat) → List Value) (nw : (Nat → Nat) → va_W) (mc ms : Nat) : Prop :=
  Met l y [.code y bytes maxL none] rm (va_Pc (.ref b :: As) (fun U => U.heap.size = sz ∧ va_P (dC, dI) mz_cl [(b, .inr (ci, fs))] U.heap ∧ va_K (dC, dI) mz_cl (mz_ty ca) U ∧ mz_cx U ∧ mi_ZP en (va_A [(b, .inr (ci, fs))] sz) U U.heap))
    (va_Qv (fun _ : Nat → Nat => True) (fun ad U => va_P (dC, dI) mz_cl ((b, .inr (ci, fs' ad)) :: nw ad) U.heap ∧ va_D (va_A [(b, .inr (ci, fs))] sz) ((b, .inr (ci, fs' ad)) :: nw ad)) (va_A [(b, .inr (ci, fs))] sz)) mc ms (va_A [(b, .inr (ci, fs))] sz)
theorem mi_g {ws : va_W} {x : Nat × va_E} {k : Nat} {q : Nat × va_E} (h : (x :: ws)[k]? = some q) : (ws ++ [x])[if k = 0 then ws.length else k - 1]? = some q := by
  cases k with
  | zero => simpa using h
  | succ k =>
    have h' : ws[k]? = some q := h
    rw [if_neg (by omega), Nat.add_sub_cancel, List.getElem?_append_left (List.getElem?_eq_some_iff.mp h').1]
    exact h'
theorem mi_front {D : va_G} {cl : List vw_C} {A : Nat → Prop} {ws : va_W} {x : Nat × va_E} {H : Heap} (h : va_P D cl (ws ++ [x]) H) (hD : va_D A (ws ++ [x])) : va_P D cl (x :: ws) H ∧ va_D A (x :: ws) := by
  refine ⟨h.by _ (fun k q hk => mi_g hk), hD.by _ (fun k q hk => mi_g hk) (fun i j hi hj hij => ?_)⟩
  rw [List.length_cons] at hi hj
  by_cases h1 : i = 0 <;> by_cases h2 : j = 0
  · omega
  · rw [if_pos h1, if_neg h2] at hij; omega
  · rw [if_neg h1, if_pos h2] at hij; omega
  · rw [if_neg h1, if_neg h2] at hij; omega
theorem mi_g2 {X P : va_W} {x : Nat × va_E} {k : Nat} {q : Nat × va_E} (h : (x :: (X ++ P))[k]? = some q) : ((X ++ [x]) ++ P)[if k = 0 then X.length else if k ≤ X.length then k - 1 else k]? = some q := by
  cases k with
  | zero =>
    rw [if_pos rfl, List.append_assoc, List.getElem?_append_right (Nat.le_refl _), Nat.sub_self]
    exact h
  | succ k =>
    have h' : (X ++ P)[k]? = some q := h
    rw [if_neg (by omega)]
    by_cases hk : k + 1 ≤ X.length
    · rw [if_pos hk, Nat.add_sub_cancel, List.append_assoc, List.getElem?_append_left (by omega)]
      rw [List.getElem?_append_left (by omega)] at h'
      exact h'
    · rw [if_neg hk, List.append_assoc, List.getElem?_append_right (by omega)]
      rw [List.getElem?_append_right (by omega)] at h'
      rw [show k + 1 - X.length = (k - X.length) + 1 by omega]
      exact h'
theorem mi_rot {D : va_G} {cl : List vw_C} {A : Nat → Prop} {X P : va_W} {x : Nat × va_E} {H : Heap} (h : va_P D cl ((X ++ [x]) ++ P) H) (hD : va_D A ((X ++ [x]) ++ P)) : va_P D cl (x :: (X ++ P)) H ∧ va_D A (x :: (X ++ P)) := by
  refine ⟨h.by _ (fun k q hk => mi_g2 hk), hD.by _ (fun k q hk => mi_g2 hk) (fun i j hi hj hij => ?_)⟩
  by_cases h1 : i = 0 <;> by_cases h2 : j = 0
  · omega
  · rw [if_pos h1, if_neg h2] at hij
    by_cases h3 : j ≤ X.length
    · rw [if_pos h3] at hij; omega
    · rw [if_neg h3] at hij; omega
  · rw [if_neg h1, if_pos h2] at hij
    by_cases h3 : i ≤ X.length
    · rw [if_pos h3] at hij; omega
    · rw [if_neg h3] at hij; omega
  · rw [if_neg h1, if_neg h2] at hij
    by_cases h3 : i ≤ X.length <;> by_cases h4 : j ≤ X.length
    · rw [if_pos h3, if_pos h4] at hij; omega
    · rw [if_pos h3, if_neg h4] at hij; omega
    · rw [if_neg h3, if_pos h4] at hij; omega
    · rw [if_neg h3, if_neg h4] at hij; omega
/-- behind a constructor's call: its cell as it is now, the cells that it made, and the others -/
theorem mi_join {D : va_G} {cl : List vw_C} {A : Nat → Prop} {ws nw : va_W} {b q0 : Nat} {e0 e1 : va_E} {H H1 : Heap} (hP : va_P D cl ws H) (hD : va_D A ws) (h0 : ws[q0]? = some (b, e0)) (hk : ∀ q : Nat, q < H.size → ¬ va_A [(b, e0)] H.size q → H1[q]? = H[q]?) (hA : ∀ q, H.size ≤ q → A q)
    (hP1 : va_P D cl ((b, e1) :: nw) H1) (hD1 : va_D (va_A [(b, e0)] H.size) ((b, e1) :: nw)) : va_P D cl (ws.set q0 (b, e1) ++ nw) H1 ∧ va_D A (ws.set q0 (b, e1) ++ nw) := by
  have hq0 : q0 < ws.length := (List.getElem?_eq_some_iff.mp h0).1
  have inA : ∀ a : Nat, va_A [(b, e0)] H.size a → a = b ∨ H.size ≤ a := by
    intro a h
    rcases h with ⟨k, e, h⟩ | h
    · cases k with
      | zero => exact Or.inl (congrArg (fun z => z.1) (Option.some.inj h)).symm
      | succ k => exact nomatch h
    · exact Or.inr h
  -- an entry of the new world: what it is
  have key : ∀ (k : Nat) (q : Nat × va_E), (ws.set q0 (b, e1) ++ nw)[k]? = some q → (k = q0 ∧ q = (b, e1)) ∨ (k ≠ q0 ∧ k < ws.length ∧ ws[k]? = some q ∧ q.1 ≠ b ∧ q.1 < H.size) ∨ (ws.length ≤ k ∧ nw[k - ws.length]? = some q ∧ H.size ≤ q.1) := by
    intro k q hq
    by_cases hl : k < ws.length
    · rw [List.getElem?_append_left (by rw [List.length_set]; exact hl), List.getElem?_set] at hq
      by_cases hk0 : q0 = k
      · rw [if_pos hk0, if_pos hq0] at hq
        exact Or.inl ⟨hk0.symm, (Option.some.inj hq).symm⟩
      · rw [if_neg hk0] at hq
        exact Or.inr (Or.inl ⟨fun z => hk0 z.symm, hl, hq, fun z => hk0 (hD.1 q0 k _ _ h0 hq z.symm), (hP k q hq).lt⟩)
    · rw [List.getElem?_append_right (by rw [List.length_set]; omega), List.length_set] at hq
      refine Or.inr (Or.inr ⟨by omega, hq, ?_⟩)
      have hq' : ((b, e1) :: nw)[k - ws.length + 1]? = some q := hq
      rcases inA q.1 (hD1.2 _ _ hq') with h | h
      · have := hD1.1 (k - ws.length + 1) 0 q (b, e1) hq' rfl h
        omega
      · exact h
  refine ⟨fun k q hq => ?_, ⟨fun i j x y hi hj hxy => ?_, fun k q hq => ?_⟩⟩
  · rcases key k q hq with ⟨-, rfl⟩ | ⟨-, -, h2, h3, h4⟩ | ⟨-, h2, -⟩
    · exact hP1 0 _ rfl
    · exact (hP k q h2).kept (hk q.1 h4 (fun z => by rcases inA q.1 z with h | h; exact h3 h; omega))
    · exact hP1 (k - ws.length + 1) q h2
  · rcases key i x hi with ⟨hi1, rfl⟩ | ⟨hi1, hi2, hi3, hi4, hi5⟩ | ⟨hi1, hi2, hi3⟩ <;> rcases key j y hj with ⟨hj1, rfl⟩ | ⟨hj1, hj2, hj3, hj4, hj5⟩ | ⟨hj1, hj2, hj3⟩
    · omega
    · exact absurd hxy.symm hj4
    · have hb := (hP q0 _ h0).lt
      have : b < H.size := hb
      have : y.1 = b := hxy.symm
      omega
    · exact absurd hxy hi4
    · exact hD.1 i j x y hi3 hj3 hxy
    · omega
    · have hb : b < H.size := (hP q0 _ h0).lt
      have : x.1 = b := hxy
      omega
    · omega
    · have := hD1.1 (i - ws.length + 1) (j - ws.length + 1) x y hi2 hj2 hxy
      omega
  · rcases key k q hq with ⟨-, rfl⟩ | ⟨-, -, h2, -, -⟩ | ⟨-, -, h3⟩
    · exact (hD.2 q0 (b, e0) h0 : A b)
    · exact hD.2 k q h2
    · exact hA q.1 h3
section MI
variable {dC : Nat → ClassId} {dI : Nat → Nat → Nat} {ca : Nat → ClassId} {en : Nat → Nat} {A : Nat → Prop} {X P : va_W}
variable {p : Program} {l : Launch} {e : Env} {R : Room} {s : State} {m : MethodId} {args : Array Value} {below : List Frame} {meth : Method} {c : Code} {H : Heap} {locs : List Loc} {cells slots : Nat} {Q : State → Prop}
variable {cc : ByteArray} {nL pc : Nat} {own : String} {ls : Array Slot} {rest : List Value}
theorem mi_met {y : MethodName} {bytes : ByteArray} {maxL : Nat} {rm : Room} {b : Nat} {As : List Value} {ci : Nat} {fs : List Value} {sz : Nat} {fs' : (Nat → Nat) → List Value} {nw : (Nat → Nat) → va_W} {mc ms : Nat} (hy : plainName y.cls = true) (hy1 : y.name = "<init>") (hlen : (lg_sl (.ref b :: As)).length ≤ maxL)
    (body : ∀ (p : Program) (e : Env) (s : State) (m : MethodId) (args : Array Value) (below : List Frame) (meth : Method) (c : Code) (ls : Array Slot) (A : Nat → Prop), mi_E dC dI ca en p s m meth c bytes maxL y.cls A → mi_W dC dI s A [(b, .inr (ci, fs))] [] s.heap [] → lv_has ls maxL (lv_args 0 (.ref b :: As)) →
      W p l e rm s m args below meth c s.heap [] 0 0 (MQ below (va_Qv (fun _ : Nat → Nat => True) (fun ad U => va_P (dC, dI) mz_cl ((b, .inr (ci, fs' ad)) :: nw ad) U.heap ∧ va_D A ((b, .inr (ci, fs' ad)) :: nw ad)) A) args s mc ms A) (F0 m 0 ls [])) : mi_C dC dI ca en l y bytes maxL rm b As ci fs sz fs' nw mc ms := by
  refine Met.ofW (cc := bytes) (maxL := maxL) (ret := none) hy rfl ?_
  intro p e s m args below meth c s₁ B hml hv
  obtain ⟨rfl, rfl, hP, hK, hcx, hZ⟩ := hv
  rw [lg_entry_eq]
  have hD : va_D (va_A [(b, .inr (ci, fs))] s.heap.size) [(b, .inr (ci, fs))] := by
    refine ⟨fun i j x y hi hj _ => ?_, fun _ _ hk => va_A.in hk⟩
    have h1 : i < 1 := (List.getElem?_eq_some_iff.mp hi).1
    have h2 : j < 1 := (List.getElem?_eq_some_iff.mp hj).1
    omega
  exact body p e s m _ below meth c _ _ ⟨B.exec, B.bytes, hml, findClass_of_methodNamed B.named, hcx, hK, hZ, fun q h => Or.inr h, B.notSynchronized, B.returns, (name_of_methodNamed B.named B.method).1.trans hy1⟩ ⟨hP, hD, va_S.rf⟩ (lv_entry _ hlen)
theorem mi_ret {b ci : Nat} {fs' : (Nat → Nat) → List Value} {nw : (Nat → Nat) → va_W} (E : mi_E dC dI ca en p s m meth c cc nL own A) (ad : Nat → Nat) (w : mi_W dC dI s A (X ++ [(b, .inr (ci, fs' ad))]) P H locs) (hnw : nw ad = X ++ P) (hd : decode cc pc = .ok (.return_, 1)) :
    W p l e R s m args below meth c H locs cells slots (MQ below (va_Qv (fun _ : Nat → Nat => True) (fun ad U => va_P (dC, dI) mz_cl ((b, .inr (ci, fs' ad)) :: nw ad) U.heap ∧ va_D A ((b, .inr (ci, fs' ad)) :: nw ad)) A) args s cells slots A) (F0 m pc ls []) := by
  obtain ⟨hx, hb, -, -, -, -, -, -, hlocks, hr, -⟩ := id E
  obtain ⟨hP, hD, hS⟩ := w
  obtain ⟨hP9, hD9⟩ := mi_rot hP hD
  exact W.vret hx hb hr (fun t ht hW => ⟨⟨ad, rfl, trivial, by rw [hnw, ht]; exact hP9, by rw [hnw]; exact hD9⟩, hS.F ht⟩) hS.2.2 hd
theorem mi_obj {idx a : Nat} (E : mi_E dC dI ca en p s m meth c cc nL own A) (hl : Cond.methodLink own idx Lib.objectInit ∈ mz_tb) (hi : Cond.instanceMethod Lib.objectInit ∈ mz_tb) (hc : Cond.code Lib.objectInit ⟨#[0xb1]⟩ 1 none ∈ mz_tb) (hsz : ls.size = nL) (hf : 1 ≤ R.frames) (hlo : 12 ≤ R.locals) (hd : decode cc pc = .ok (.invokespecial idx, 3))
    (kk : W p l e R s m args below meth c H locs cells slots Q (F0 m (pc + 3) ls [])) : W p l e R s m args below meth c H locs cells slots Q (F0 m pc ls [.ref a]) := by
  obtain ⟨hx, hb, hml, hown, hcx, -⟩ := id E
  have hts := hcx.at args
  exact W.objInit hx hb hown (hts _ hl) (hts _ hi) (hts _ hc) rfl (by rw [hml]; exact hsz) rfl hd hf (by show 2 * 0 + 0 + 12 ≤ _; omega) kk
theorem mi_new {C : String} {T : u_T} {N ci index : Nat} {fs : List Value} (E : mi_E dC dI ca en p s m meth c cc nL own A) (w : mi_W dC dI s A X P H locs) (hin : ∀ w ∈ u_ws C T N, w ∈ mz_tb) (ty : Nat → FieldType) (hty : ∀ k, k < N → parseFieldDescriptor (T k).2.2.1 = some (ty k)) (hcl : Cond.classLink own index C ∈ mz_tb) (hinst : Cond.instantiable C N ∈ mz_tb) (hini : Cond.initialized C ∈ mz_tb)
    (hc : mz_cl[ci]? = some (C, T, N)) (hfs : ∀ j, j < N → defaultValue (ty j) = vp_V fs j) (hcells : cells + 1 ≤ R.cells) (hslots : slots + N ≤ R.slots) (hd : decode cc pc = .ok (.new index, 3))
    (kk : ∀ (q : Nat) (H1 : Heap), mi_W dC dI s A ((q, .inr (ci, fs)) :: X) P H1 locs → W p l e R s m args below meth c H1 locs (cells + 1) (slots + N) Q (F0 m (pc + 3) ls (.ref q :: rest))) : W p l e R s m args below meth c H locs cells slots Q (F0 m pc ls rest) := by
  obtain ⟨hx, hb, hml, hown, hcx, hK, -, hA, -⟩ := id E
  have hts := hcx.at args
  refine va_new hx hb hts hin ty hty hown (hts _ hcl) (hts _ hinst) (hts _ hini) hK w.1 w.2.1 w.2.2 hA hc hfs hcells hslots hd (fun q H1 hP hD hS => ?_)
  obtain ⟨hP, hD⟩ := mi_front hP hD
  exact kk q H1 ⟨hP, hD, hS⟩
theorem mi_caq {k : Nat} {cA : ClassId} {ty : FieldType} (hK : va_K (dC, dI) mz_cl (mz_ty ca ++ [(cA, ty)]) s) (h : (mz_ty ca)[k]? = some (ca k, ty)) : cA = ca k := by
  have hk5 : k < 5 := (List.getElem?_eq_some_iff.mp h).1
  have h1 := (hK.2 5 (cA, ty) rfl).2
  have h2 := (hK.2 k (ca k, ty) (by rw [List.getElem?_append_left (by exact hk5)]; exact h)).2
  cases ty <;> first | (exact Option.some.inj (h1.symm.trans h2)) | skip
  obtain ⟨kA, comp, -, -, -, g1⟩ := h1
  obtain ⟨kB, comp2, -, -, -, g2⟩ := h2
  exact Option.some.inj (g1.symm.trans g2)
theorem mi_newa {atype : ArrayType} {ty : FieldType} {k : Nat} {n : Int32} {N' : Nat} {a0 : vp_A} (E : mi_E dC dI ca en p s m meth c cc nL own A) (w : mi_W dC dI s A X P H locs) (harr : Cond.arrayClass (newarray.typeOf atype) ∈ mz_tb) (hty : newarray.typeOf atype = ty) (hk : (mz_ty ca)[k]? = some (ca k, ty)) (ha : ∀ cA : ClassId, vp_cell cA a0 = arrV cA N' (fun _ => defaultValue ty)) (hn : ¬ n < 0) (hN : n.toNatClampNeg = N') (hbytes : N' * componentBytes ty ≤ 536870912) (hcells : cells + 1 ≤ R.cells) (hslots : slots + N' ≤ R.slots) (hd : decode cc pc = .ok (.newarray atype, 2))
    (kk : ∀ (q : Nat) (H1 : Heap), mi_W dC dI s A ((q, .inl (ca k, a0)) :: X) P H1 locs → W p l e R s m args below meth c H1 locs (cells + 1) (slots + N') Q (F0 m (pc + 2) ls (.ref q :: rest))) : W p l e R s m args below meth c H locs cells slots Q (F0 m pc ls (.int n :: rest)) := by
  obtain ⟨hx, hb, hml, hown, hcx, hK, -, hA, -⟩ := id E
  have hts := hcx.at args
  refine va_newa hx hb (hts _ harr) hty hK w.1 w.2.1 w.2.2 hA ha hn hN hbytes hcells hslots hd (fun q cA H1 hK1 hP hD hS => ?_)
  have := mi_caq hK1 hk
  subst this
  obtain ⟨hP, hD⟩ := mi_front hP hD
  exact kk q H1 ⟨hP, hD, hS⟩
theorem mi_newq {index : Nat} {n : Int32} {N' : Nat} (E : mi_E dC dI ca en p s m meth c cc nL own A) (w : mi_W dC dI s A X P H locs) (hcl : Cond.classLink own index "MacroHouse$Frame" ∈ mz_tb) (hn : ¬ n < 0) (hN : n.toNatClampNeg = N') (hbytes : N' * 4 ≤ 536870912) (hcells : cells + 1 ≤ R.cells) (hslots : slots + N' ≤ R.slots) (hd : decode cc pc = .ok (.anewarray index, 3))
    (kk : ∀ (q : Nat) (H1 : Heap), mi_W dC dI s A ((q, .inl (ca 4, N', .inr (.inr (.inr (.inr (fun _ => none)))))) :: X) P H1 locs → W p l e R s m args below meth c H1 locs (cells + 1) (slots + N') Q (F0 m (pc + 3) ls (.ref q :: rest))) : W p l e R s m args below meth c H locs cells slots Q (F0 m pc ls (.int n :: rest)) := by
  obtain ⟨hx, hb, hml, hown, hcx, hK, hZ, hA, -⟩ := id E
  have hts := hcx.at args
  refine va_newq hx hb hown (hts _ hcl) hZ.2.1 hK w.1 w.2.1 w.2.2 hA hn hN hbytes hcells hslots hd (fun q cA H1 hK1 hP hD hS => ?_)
  have := mi_caq (k := 4) hK1 rfl
  subst this
  obtain ⟨hP, hD⟩ := mi_front hP hD
  exact kk q H1 ⟨hP, hD, hS⟩
theorem mi_at {q0 : Nat} {x : Nat × va_E} (h : X[q0]? = some x) : (X ++ P)[q0]? = some x := by
  rw [List.getElem?_append_left (List.getElem?_eq_some_iff.mp h).1]; exact h
theorem mi_set {q0 : Nat} {x y : Nat × va_E} (h : X[q0]? = some x) : (X ++ P).set q0 y = X.set q0 y ++ P := List.set_append_left _ _ (List.getElem?_eq_some_iff.mp h).1
theorem mi_put {C : String} {T : u_T} {N ci index a k : Nat} {fs : List Value} {ty0 : Nat → FieldType} {ty : FieldType} {v : Value} (E : mi_E dC dI ca en p s m meth c cc nL own A) (w : mi_W dC dI s A X P H locs) (q0 : Nat) (he : X[q0]? = some (a, .inr (ci, fs))) (hc : mz_cl[ci]? = some (C, T, N)) (hin : ∀ w ∈ u_ws C T N, w ∈ mz_tb)
    (hty : ∀ k, k < N → parseFieldDescriptor (T k).2.2.1 = some (ty0 k)) (hnm : ∀ a, a < N → ∀ b, b < N → a ≠ b → (T a).2.1 ≠ (T b).2.1) (hk : k < N) (hl : Cond.fieldLink own index (T k).1 (T k).2.1 (T k).2.2.1 ∈ mz_tb) (hdecl : (T k).1 = own) (hdd : parseFieldDescriptor (T k).2.2.1 = some ty) (hn : narrow ty v = v) (hfit : fits ty v = true) (hlen : k < fs.length) (hd : decode cc pc = .ok (.putfield index, 3))
    (kk : ∀ (H1 : Heap) (locs1 : List Loc), mi_W dC dI s A (X.set q0 (a, .inr (ci, fs.set k v))) P H1 locs1 → W p l e R s m args below meth c H1 locs1 cells slots Q (F0 m (pc + 3) ls rest)) : W p l e R s m args below meth c H locs cells slots Q (F0 m pc ls (v :: .ref a :: rest)) := by
  obtain ⟨hx, hb, hml, hown, hcx, hK, hZ, hA, -, -, hin2⟩ := id E
  have hts := hcx.at args
  have fin : ∀ (H1 : Heap) (locs1 : List Loc), va_P (dC, dI) mz_cl ((X ++ P).set q0 (a, .inr (ci, fs.set k v))) H1 → va_D A ((X ++ P).set q0 (a, .inr (ci, fs.set k v))) → va_S A s.heap H1 locs1 → W p l e R s m args below meth c H1 locs1 cells slots Q (F0 m (pc + 3) ls rest) := fun H1 locs1 hP hD hS => kk H1 locs1 ⟨by rw [← mi_set he]; exact hP, by rw [← mi_set he]; exact hD, hS⟩
  cases hfin : (T k).2.2.2 with
  | false => exact va_put (D := (dC, dI)) hx hb hts hin ty0 hty hnm hown hK w.1 w.2.1 w.2.2 q0 (mi_at he) hc k hk (hts _ hl) (fun _ h => h) hfin hdd hn hfit hlen hd fin
  | true => exact va_putF (D := (dC, dI)) hx hb hts hin ty0 hty hnm hown hK w.1 w.2.1 w.2.2 q0 (mi_at he) hc k hk (hts _ hl) (fun _ h => h) hfin hin2 hdecl hdd hn hfit hlen hd fin
theorem mi_get {C : String} {T : u_T} {N ci index a k : Nat} {fs : List Value} {v : Value} (E : mi_E dC dI ca en p s m meth c cc nL own A) (w : mi_W dC dI s A X P H locs) (q0 : Nat) (he : X[q0]? = some (a, .inr (ci, fs))) (hc : mz_cl[ci]? = some (C, T, N)) (hin : ∀ w ∈ u_ws C T N, w ∈ mz_tb) (hk : k < N) (hl : Cond.fieldLink own index (T k).1 (T k).2.1 (T k).2.2.1 ∈ mz_tb) (hv : fs[k]? = some v) (hd : decode cc pc = .ok (.getfield index, 3))
    (kk : W p l e R s m args below meth c H locs cells slots Q (F0 m (pc + 3) ls (v :: rest))) : W p l e R s m args below meth c H locs cells slots Q (F0 m pc ls (.ref a :: rest)) := by
  obtain ⟨hx, hb, hml, hown, hcx, hK, hZ, hA, -, -, hin2⟩ := id E
  have hts := hcx.at args
  exact va_get (D := (dC, dI)) hx hb hts hin hown hK w.1 q0 (mi_at he) hc k hk (hts _ hl) (fun _ h => h) hv hd kk
theorem mi_pl {index : Nat} (E : mi_E dC dI ca en p s m meth c cc nL own A) (w : mi_W dC dI s A X P H locs) (hl : Cond.fieldLink own index "MacroHouse$Directive" "PLAIN" "LMacroHouse$Directive;" ∈ mz_tb) (hd : decode cc pc = .ok (.getstatic index, 3))
    (kk : W p l e R s m args below meth c H locs cells slots Q (F0 m (pc + 3) ls (.ref (en 0) :: rest))) : W p l e R s m args below meth c H locs cells slots Q (F0 m pc ls rest) := by
  obtain ⟨hx, hb, hml, hown, hcx, hK, hZ, hA, -, -, hin2⟩ := id E
  exact va_gets hx hb hZ.1 w.2.2 hown (hcx.at args _ hl) (fun _ h => h) hd kk
theorem mi_alen {a n : Nat} {f : Nat → Option Nat} {v : Int32} (E : mi_E dC dI ca en p s m meth c cc nL own A) (w : mi_W dC dI s A X P H locs) (q0 : Nat) (he : X[q0]? = some (a, .inl (ca 4, n, .inr (.inr (.inr (.inr f)))))) (hv : Int32.ofNat n = v) (hd : decode cc pc = .ok (.arraylength, 1))
    (kk : W p l e R s m args below meth c H locs cells slots Q (F0 m (pc + 1) ls (.int v :: rest))) : W p l e R s m args below meth c H locs cells slots Q (F0 m pc ls (.ref a :: rest)) := by
  obtain ⟨hx, hb, hml, hown, hcx, hK, hZ, hA, -, -, hin2⟩ := id E
  exact va_alen (D := (dC, dI)) hx hb hK w.1 q0 4 (mi_at he) (ty := .object "MacroHouse$Frame") rfl hv hd kk
theorem mi_aast {a n v : Nat} {f : Nat → Option Nat} {vs : List Value} {i : Int32} (E : mi_E dC dI ca en p s m meth c cc nL own A) (w : mi_W dC dI s A X P H locs) (q0 qk : Nat) (he : X[q0]? = some (a, .inl (ca 4, n, .inr (.inr (.inr (.inr f)))))) (hv : X[qk]? = some (v, .inr (10, vs))) (hi : vp_in i n) (hd : decode cc pc = .ok (.aastore, 1))
    (kk : ∀ (H1 : Heap) (locs1 : List Loc), mi_W dC dI s A (X.set q0 (a, .inl (ca 4, n, .inr (.inr (.inr (.inr (va_up f i.toNatClampNeg (some v)))))))) P H1 locs1 → W p l e R s m args below meth c H1 locs1 cells slots Q (F0 m (pc + 1) ls rest)) : W p l e R s m args below meth c H locs cells slots Q (F0 m pc ls (.ref v :: .int i :: .ref a :: rest)) := by
  obtain ⟨hx, hb, hml, hown, hcx, hK, hZ, hA, -, -, hin2⟩ := id E
  exact va_astq (D := (dC, dI)) hx hb hK w.1 w.2.1 w.2.2 q0 4 qk 10 (mi_at he) (r := ("MacroHouse$Frame", T_10, 15)) rfl (mi_at hv) rfl hi hd (fun H1 locs1 hP hD hS => kk H1 locs1 ⟨by rw [← mi_set he]; exact hP, by rw [← mi_set he]; exact hD, hS⟩)
/-- a constructor's call -/
theorem mi_call {y : MethodName} {bytes : ByteArray} {maxL idx n : Nat} {rm : Room} {b : Nat} {As : List Value} {ci : Nat} {fs : List Value} {fs' : (Nat → Nat) → List Value} {nw : (Nat → Nat) → va_W} {mc ms : Nat} {st0 : List Value} (E : mi_E dC dI ca en p s m meth c cc nL own A) (w : mi_W dC dI s A X P H locs) (q0 : Nat) (he : X[q0]? = some (b, .inr (ci, fs)))
    (hM : mi_C dC dI ca en l y bytes maxL rm b As ci fs H.size fs' nw mc ms) (hcd : Cond.code y bytes maxL none ∈ mz_tb) (hini : Cond.initialized y.cls ∈ mz_tb) (hlk : Cond.methodLink own idx y ∈ mz_tb ∨ ∃ host, va_Nw (.methodLinkNest own idx y host) s) (him : Cond.instanceMethod y ∈ mz_tb) (hy1 : y.name = "<init>")
    (hdd : y.cls ≠ "java/lang/invoke/MethodHandle" ∧ y.cls ≠ "java/lang/invoke/VarHandle" ∧ (parseMethodDescriptor y.desc).map (fun d => d.parameters.length) = some n) (hR : (rm.cells = mc ∧ rm.slots = ms) ∧ rm.frames + 1 ≤ R.frames ∧ 8 + (maxL + 11) + rm.locals ≤ R.locals)
    (hn : As.length = n) (hsz : ls.size = nL) (hst : st0 = As.reverse ++ .ref b :: rest) (hw8 : (rest.map fun v => v.category).sum ≤ 8) (hd : decode cc pc = .ok (.invokespecial idx, 3)) (hroom : cells + mc ≤ R.cells ∧ slots + ms ≤ R.slots)
    (kk : ∀ (ad : Nat → Nat) (H1 : Heap) (locs1 : List Loc), mi_W dC dI s A (X.set q0 (b, .inr (ci, fs' ad))) (P ++ nw ad) H1 locs1 → W p l e R s m args below meth c H1 locs1 (cells + mc) (slots + ms) Q (F0 m (pc + 3) ls rest)) : W p l e R s m args below meth c H locs cells slots Q (F0 m pc ls st0) := by
  obtain ⟨hx, hb, hml, hown, hcx, hK, hZ, hA, -, -, hin2⟩ := id E
  have hts := hcx.at args
  have hG : GoodIn mz_tb [Cond.code y bytes maxL none] := fun w0 h0 => by
    rw [List.mem_singleton] at h0
    subst h0
    exact ⟨hcd, Or.inl rfl⟩
  have hAA : ∀ q, va_A [(b, .inr (ci, fs))] H.size q → A q := by
    intro q h
    rcases h with ⟨k, e, h⟩ | h
    · cases k with
      | zero =>
        have : q = b := (congrArg (fun z => z.1) (Option.some.inj h)).symm
        subst this
        exact w.2.1.2 q0 _ (mi_at he)
      | succ k => exact nomatch h
    · exact hA q (Nat.le_trans w.2.2.1 h)
  have hPb : va_P (dC, dI) mz_cl [(b, .inr (ci, fs))] H := by
    intro k q hk
    cases k with
    | zero =>
      cases hk
      exact w.1 q0 _ (mi_at he)
    | succ k => exact nomatch hk
  have pre : PreS s H (va_Pc (.ref b :: As) (fun U => U.heap.size = H.size ∧ va_P (dC, dI) mz_cl [(b, .inr (ci, fs))] U.heap ∧ va_K (dC, dI) mz_cl (mz_ty ca) U ∧ mz_cx U ∧ mi_ZP en (va_A [(b, .inr (ci, fs))] H.size) U U.heap)) (.ref b :: As) := by
    refine ⟨fun a U g mk q => ?_, fun U hU hW => ⟨rfl, by rw [hU], by rw [hU]; exact hPb, va_K.moved hW.alike hK, hcx.warm hW, by rw [hU]; exact hZ.go hW w.2.2.2.1 hAA⟩⟩
    obtain ⟨q0, q1, qP, qK, qc, qZ⟩ := q
    exact ⟨q0, q1, qP, va_K.moved (u := U) (U := U.calling g mk a) (Vm.Alike.refl U.vm) qK, qc.same rfl, qZ.same rfl⟩
  have run : va_Run p l e R s m args below meth c H locs cells slots mc ms (F0 m pc ls st0) rest (va_Qv (fun _ : Nat → Nat => True) (fun ad U => va_P (dC, dI) mz_cl ((b, .inr (ci, fs' ad)) :: nw ad) U.heap ∧ va_D (va_A [(b, .inr (ci, fs))] H.size) ((b, .inr (ci, fs' ad)) :: nw ad)) (va_A [(b, .inr (ci, fs))] H.size) (Value.ref b :: As).toArray) (va_A [(b, .inr (ci, fs))] H.size) := by
    rcases hlk with hlk | ⟨host, hlk⟩
    · exact va_runI (As := As) (rest := rest) (g := F0 m pc ls st0) ⟨hx, hb, hml, hown, hts⟩ hM (cwI n hts hG rfl hR.1.1 hR.1.2 (hts _ hini) (hts _ hlk) (hts _ him) hy1 hdd hR.2) pre rfl hn hsz hst (lv_room hw8) hd hroom
    · exact va_runIN (As := As) (rest := rest) (g := F0 m pc ls st0) ⟨hx, hb, hml, hown, hts⟩ hM ⟨va_cnB n hts hG rfl hR.1.1 hR.1.2 hlk (hts _ hini) hdd hR.2, hy1, hts _ him⟩ pre rfl hn hsz hst (lv_room hw8) hd hroom
  refine va_callv run w.2.2 (fun q _ h => hAA q h) hAA (fun ad t H1 locs1 ht hvm _ hB hz1 hk1 hS => ?_)
  obtain ⟨hP1, hD1⟩ := hB
  rw [ht] at hP1
  obtain ⟨gP, gD⟩ := mi_join w.1 w.2.1 (mi_at he) hk1 (fun q h => hA q (Nat.le_trans w.2.2.1 h)) hP1 hD1
  rw [mi_set he, List.append_assoc] at gP gD
  exact kk ad H1 locs1 ⟨gP, gD, hS⟩
end MI
