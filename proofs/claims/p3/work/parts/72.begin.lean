/-! The law, from its entry -/
def mi_F (dC : Nat → ClassId) (dI : Nat → Nat → Nat) (ca : Nat → ClassId) (en : Nat → Nat) (p : Program) (s : State) (m : MethodId) (c : Code) (cc : ByteArray) (nL : Nat) (own : String) (A : Nat → Prop) : Prop :=
  p.tables.exec = Jvm.exec ∧ c.code = cc ∧ c.maxLocals = nL ∧ s.vm.findClass own = some m.cls ∧ mz_cx s ∧ va_K (dC, dI) mz_cl (mz_ty ca) s ∧ mi_ZP en A s s.heap ∧ (∀ q, s.heap.size ≤ q → A q)
section LB
variable {dC : Nat → ClassId} {dI : Nat → Nat → Nat} {ca : Nat → ClassId} {en : Nat → Nat} {A : Nat → Prop} {X P : va_W}
variable {p : Program} {l : Launch} {e : Env} {R : Room} {s : State} {m : MethodId} {args : Array Value} {below : List Frame} {meth : Method} {c : Code} {H : Heap} {locs : List Loc} {cells slots : Nat} {Q : State → Prop}
variable {cc : ByteArray} {nL pc : Nat} {own : String} {ls : Array Slot} {rest : List Value}
theorem mi_newL {C : String} {T : u_T} {N ci index : Nat} {fs : List Value} (E : mi_F dC dI ca en p s m c cc nL own A) (w : mi_W dC dI s A X P H locs) (hin : ∀ w ∈ u_ws C T N, w ∈ mz_tb) (ty : Nat → FieldType) (hty : ∀ k, k < N → parseFieldDescriptor (T k).2.2.1 = some (ty k)) (hcl : Cond.classLink own index C ∈ mz_tb) (hinst : Cond.instantiable C N ∈ mz_tb) (hini : Cond.initialized C ∈ mz_tb)
    (hc : mz_cl[ci]? = some (C, T, N)) (hfs : ∀ j, j < N → defaultValue (ty j) = vp_V fs j) (hcells : cells + 1 ≤ R.cells) (hslots : slots + N ≤ R.slots) (hd : decode cc pc = .ok (.new index, 3))
    (kk : ∀ (q : Nat) (H1 : Heap), mi_W dC dI s A ((q, .inr (ci, fs)) :: X) P H1 locs → W p l e R s m args below meth c H1 locs (cells + 1) (slots + N) Q (F0 m (pc + 3) ls (.ref q :: rest))) : W p l e R s m args below meth c H locs cells slots Q (F0 m pc ls rest) := by
  obtain ⟨hx, hb, hml, hown, hcx, hK, hZ, hA⟩ := id E
  have hts := hcx.at args
  refine va_new hx hb hts hin ty hty hown (hts _ hcl) (hts _ hinst) (hts _ hini) hK w.1 w.2.1 w.2.2 hA hc hfs hcells hslots hd (fun q H1 hP hD hS => ?_)
  obtain ⟨hP, hD⟩ := mi_front hP hD
  exact kk q H1 ⟨hP, hD, hS⟩
theorem mi_newaL {atype : ArrayType} {ty : FieldType} {k : Nat} {n : Int32} {N' : Nat} {a0 : vp_A} (E : mi_F dC dI ca en p s m c cc nL own A) (w : mi_W dC dI s A X P H locs) (harr : Cond.arrayClass (newarray.typeOf atype) ∈ mz_tb) (hty : newarray.typeOf atype = ty) (hk : (mz_ty ca)[k]? = some (ca k, ty)) (ha : ∀ cA : ClassId, vp_cell cA a0 = arrV cA N' (fun _ => defaultValue ty)) (hn : ¬ n < 0) (hN : n.toNatClampNeg = N') (hbytes : N' * componentBytes ty ≤ 536870912) (hcells : cells + 1 ≤ R.cells) (hslots : slots + N' ≤ R.slots) (hd : decode cc pc = .ok (.newarray atype, 2))
    (kk : ∀ (q : Nat) (H1 : Heap), mi_W dC dI s A ((q, .inl (ca k, a0)) :: X) P H1 locs → W p l e R s m args below meth c H1 locs (cells + 1) (slots + N') Q (F0 m (pc + 2) ls (.ref q :: rest))) : W p l e R s m args below meth c H locs cells slots Q (F0 m pc ls (.int n :: rest)) := by
  obtain ⟨hx, hb, hml, hown, hcx, hK, hZ, hA⟩ := id E
  have hts := hcx.at args
  refine va_newa hx hb (hts _ harr) hty hK w.1 w.2.1 w.2.2 hA ha hn hN hbytes hcells hslots hd (fun q cA H1 hK1 hP hD hS => ?_)
  have := mi_caq hK1 hk
  subst this
  obtain ⟨hP, hD⟩ := mi_front hP hD
  exact kk q H1 ⟨hP, hD, hS⟩
theorem mi_callL {y : MethodName} {bytes : ByteArray} {maxL idx n : Nat} {rm : Room} {b : Nat} {As : List Value} {ci : Nat} {fs : List Value} {fs' : (Nat → Nat) → List Value} {nw : (Nat → Nat) → va_W} {mc ms : Nat} {st0 : List Value} (E : mi_F dC dI ca en p s m c cc nL own A) (w : mi_W dC dI s A X P H locs) (q0 : Nat) (he : X[q0]? = some (b, .inr (ci, fs)))
    (hM : mi_C dC dI ca en l y bytes maxL rm b As ci fs H.size fs' nw mc ms) (hcd : Cond.code y bytes maxL none ∈ mz_tb) (hini : Cond.initialized y.cls ∈ mz_tb) (hlk : Cond.methodLink own idx y ∈ mz_tb ∨ ∃ host, va_Nw (.methodLinkNest own idx y host) s) (him : Cond.instanceMethod y ∈ mz_tb) (hy1 : y.name = "<init>")
    (hdd : y.cls ≠ "java/lang/invoke/MethodHandle" ∧ y.cls ≠ "java/lang/invoke/VarHandle" ∧ (parseMethodDescriptor y.desc).map (fun d => d.parameters.length) = some n) (hR : (rm.cells = mc ∧ rm.slots = ms) ∧ rm.frames + 1 ≤ R.frames ∧ 8 + (maxL + 11) + rm.locals ≤ R.locals)
    (hn : As.length = n) (hsz : ls.size = nL) (hst : st0 = As.reverse ++ .ref b :: rest) (hw8 : (rest.map fun v => v.category).sum ≤ 8) (hd : decode cc pc = .ok (.invokespecial idx, 3)) (hroom : cells + mc ≤ R.cells ∧ slots + ms ≤ R.slots)
    (kk : ∀ (ad : Nat → Nat) (H1 : Heap) (locs1 : List Loc), mi_W dC dI s A (X.set q0 (b, .inr (ci, fs' ad))) (P ++ nw ad) H1 locs1 → W p l e R s m args below meth c H1 locs1 (cells + mc) (slots + ms) Q (F0 m (pc + 3) ls rest)) : W p l e R s m args below meth c H locs cells slots Q (F0 m pc ls st0) := by
  obtain ⟨hx, hb, hml, hown, hcx, hK, hZ, hA⟩ := id E
  have hts := hcx.at args
  have hG : GoodIn mz_tb [Cond.code y bytes maxL none] := fun w0 h0 => by
    rw [List.mem_singleton] at h0
    subst h0
    exact ⟨hcd, Or.inl rfl⟩
  have hAA : ∀ q, va_A [(b, .inr (ci, fs))] H.size q → A q := by
    intro q h
    rcases h with ⟨k, e, h⟩ | h
    · cases k with
      | zero =>
        have : q = b := (congrArg (fun z => z.1) (Option.some.inj h)).symm
        subst this
        exact w.2.1.2 q0 _ (mi_at he)
      | succ k => exact nomatch h
    · exact hA q (Nat.le_trans w.2.2.1 h)
  have hPb : va_P (dC, dI) mz_cl [(b, .inr (ci, fs))] H := by
    intro k q hk
    cases k with
    | zero =>
      cases hk
      exact w.1 q0 _ (mi_at he)
    | succ k => exact nomatch hk
  have pre : PreS s H (va_Pc (.ref b :: As) (fun U => U.heap.size = H.size ∧ va_P (dC, dI) mz_cl [(b, .inr (ci, fs))] U.heap ∧ va_K (dC, dI) mz_cl (mz_ty ca) U ∧ mz_cx U ∧ mi_ZP en (va_A [(b, .inr (ci, fs))] H.size) U U.heap)) (.ref b :: As) := by
    refine ⟨fun a U g mk q => ?_, fun U hU hW => ⟨rfl, by rw [hU], by rw [hU]; exact hPb, va_K.moved hW.alike hK, hcx.warm hW, by rw [hU]; exact hZ.go hW w.2.2.2.1 hAA⟩⟩
    obtain ⟨q0, q1, qP, qK, qc, qZ⟩ := q
    exact ⟨q0, q1, qP, va_K.moved (u := U) (U := U.calling g mk a) (Vm.Alike.refl U.vm) qK, qc.same rfl, qZ.same rfl⟩
  have run : va_Run p l e R s m args below meth c H locs cells slots mc ms (F0 m pc ls st0) rest (va_Qv (fun _ : Nat → Nat => True) (fun ad U => va_P (dC, dI) mz_cl ((b, .inr (ci, fs' ad)) :: nw ad) U.heap ∧ va_D (va_A [(b, .inr (ci, fs))] H.size) ((b, .inr (ci, fs' ad)) :: nw ad)) (va_A [(b, .inr (ci, fs))] H.size) (Value.ref b :: As).toArray) (va_A [(b, .inr (ci, fs))] H.size) := by
    rcases hlk with hlk | ⟨host, hlk⟩
    · exact va_runI (As := As) (rest := rest) (g := F0 m pc ls st0) ⟨hx, hb, hml, hown, hts⟩ hM (cwI n hts hG rfl hR.1.1 hR.1.2 (hts _ hini) (hts _ hlk) (hts _ him) hy1 hdd hR.2) pre rfl hn hsz hst (lv_room hw8) hd hroom
    · exact va_runIN (As := As) (rest := rest) (g := F0 m pc ls st0) ⟨hx, hb, hml, hown, hts⟩ hM ⟨va_cnB n hts hG rfl hR.1.1 hR.1.2 hlk (hts _ hini) hdd hR.2, hy1, hts _ him⟩ pre rfl hn hsz hst (lv_room hw8) hd hroom
  refine va_callv run w.2.2 (fun q _ h => hAA q h) hAA (fun ad t H1 locs1 ht hvm _ hB hz1 hk1 hS => ?_)
  obtain ⟨hP1, hD1⟩ := hB
  rw [ht] at hP1
  obtain ⟨gP, gD⟩ := mi_join w.1 w.2.1 (mi_at he) hk1 (fun q h => hA q (Nat.le_trans w.2.2.1 h)) hP1 hD1
  rw [mi_set he, List.append_assoc] at gP gD
  exact kk ad H1 locs1 ⟨gP, gD, hS⟩
end LB
theorem lw_ao {args : Array Value} {s : State} {C : String} (h : (Cond.arrayOver (.object C)).before args s = true) : ∃ cA : ClassId, ArrOfT s cA (.object C) ∧ va_RA s cA (.object C) := by
  simp only [Cond.before, Cond.holds, Cond.value] at h
  cases hf : s.vm.findClass C with
  | none => simp [hf] at h
  | some comp =>
    simp [hf] at h
    obtain ⟨cA, hi, h⟩ := Option.bind_eq_some_iff.mp h
    obtain ⟨hlt, hp, -⟩ := Array.findIdx?_eq_some_iff_getElem.mp hi
    obtain ⟨kA, hk, h⟩ := Option.map_eq_some_iff.mp h
    have hk2 : s.vm.classes[cA] = kA := Option.some.inj ((Array.getElem?_eq_getElem hlt).symm.trans hk)
    rw [hk2] at hp
    cases hkind : kA.kind with
    | array component ty =>
      rw [hkind] at hp h
      have hcomp : component = comp := by simpa using hp
      simp at h
      have hty : ty = .object C := h.1
      have hfa : s.vm.findClass ("[" ++ (FieldType.object C).toString) = some cA := by first | exact h.2 | exact h.2.1
      subst hcomp; subst hty
      exact ⟨cA, fun n z => ⟨(fun k hh => by cases hh), kA, hk, component, hkind⟩, kA, component, hk, hkind, hf, hfa⟩
    | _ => rw [hkind] at hp; simp at hp
theorem lw_ac {args : Array Value} {s : State} {ty : FieldType} (h : (Cond.arrayClass ty).before args s = true) (hno : ∀ C, ty ≠ .object C) : ∃ cA : ClassId, ArrOfT s cA ty ∧ va_RA s cA ty := by
  obtain ⟨cA, k, comp, h1, h2, h3⟩ := Cond.arrayClass_spec (args := args) (first := s) (o := none) (idx := []) h
  refine ⟨cA, fun n z => ⟨(fun k hh => by cases hh), k, h2, comp, h3⟩, ?_⟩
  cases ty <;> first | exact h1 | exact absurd rfl (hno _)
theorem lw_split {D : va_G} {cl : List vw_C} {A : Nat → Prop} {xo x1 x0 : Nat × va_E} {NC NM : va_W} {H : Heap} (hP : va_P D cl ([xo, x1, x0] ++ (([] ++ NC) ++ NM)) H) (hD : va_D A ([xo, x1, x0] ++ (([] ++ NC) ++ NM))) :
    (va_P D cl (x0 :: NC) H ∧ va_D A (x0 :: NC)) ∧ (va_P D cl (x1 :: NM) H ∧ va_D A (x1 :: NM)) ∧ (va_P D cl [xo] H ∧ A xo.1) ∧ (∀ (i : Nat) (x : Nat × va_E), (x0 :: NC)[i]? = some x → x.1 ≠ xo.1) ∧ (∀ (i : Nat) (x : Nat × va_E), (x1 :: NM)[i]? = some x → x.1 ≠ xo.1) ∧ (∀ (i j : Nat) (x y : Nat × va_E), (x0 :: NC)[i]? = some x → (x1 :: NM)[j]? = some y → x.1 ≠ y.1) := by
  have c1 : ∀ (i : Nat) (x : Nat × va_E), (x0 :: NC)[i]? = some x → ([xo, x1, x0] ++ (([] ++ NC) ++ NM))[i + 2]? = some x := by
    intro i x h
    cases i with
    | zero => exact h
    | succ i =>
      have h' : NC[i]? = some x := h
      show (([] ++ NC) ++ NM)[i]? = some x
      rw [List.nil_append, List.getElem?_append_left (List.getElem?_eq_some_iff.mp h').1]
      exact h'
  have m1 : ∀ (i : Nat) (x : Nat × va_E), (x1 :: NM)[i]? = some x → ([xo, x1, x0] ++ (([] ++ NC) ++ NM))[if i = 0 then 1 else 2 + NC.length + i]? = some x := by
    intro i x h
    cases i with
    | zero => exact h
    | succ i =>
      have h' : NM[i]? = some x := h
      rw [if_neg (by omega), show 2 + NC.length + (i + 1) = (NC.length + i) + 1 + 1 + 1 by omega]
      show (([] ++ NC) ++ NM)[NC.length + i]? = some x
      rw [List.nil_append, List.getElem?_append_right (by omega), Nat.add_sub_cancel_left]
      exact h'
  have lc : ∀ (i : Nat) (x : Nat × va_E), (x0 :: NC)[i]? = some x → i < NC.length + 1 := fun i x h => (List.getElem?_eq_some_iff.mp h).1
  refine ⟨⟨fun i x h => hP _ x (c1 i x h), ⟨fun i j x y hi hj hxy => ?_, fun i x h => hD.2 _ x (c1 i x h)⟩⟩, ⟨fun i x h => hP _ x (m1 i x h), ⟨fun i j x y hi hj hxy => ?_, fun i x h => hD.2 _ x (m1 i x h)⟩⟩, ⟨fun i x h => ?_, hD.2 0 xo rfl⟩, fun i x h hh => ?_, fun i x h hh => ?_, fun i j x y hi hj hh => ?_⟩
  · have := hD.1 _ _ x y (c1 i x hi) (c1 j y hj) hxy
    omega
  · have := hD.1 _ _ x y (m1 i x hi) (m1 j y hj) hxy
    split at this <;> split at this <;> omega
  · cases i with
    | zero => exact hP 0 x h
    | succ i => exact nomatch h
  · have := hD.1 _ 0 x xo (c1 i x h) rfl hh
    omega
  · have := hD.1 _ 0 x xo (m1 i x h) rfl hh
    split at this <;> omega
  · have h1 := lc i x hi
    have := hD.1 _ _ x y (c1 i x hi) (m1 j y hj) hh
    split at this <;> omega
theorem lw_in {ws : va_W} {A : Nat → Prop} (h : va_D A ws) : va_D (fun q => ∃ (i : Nat) (e : va_E), ws[i]? = some (q, e)) ws := ⟨h.1, fun k q hk => ⟨k, q.2, hk⟩⟩
set_option maxRecDepth 100000 in
set_option maxHeartbeats 8000000 in
theorem lw_begin {p : Program} {e : Env} {s : State} {m : MethodId} {below : List Frame} {meth : Method} {c : Code} (l : Launch) (hT : ∀ e, l.admits e → e.platform.stackTraces = false) {b L : Nat} {xs : Nat → Int32} (C0 : lw_At p s m meth c b L xs) (n : Nat) (hok : f_law n xs L 1000 0 mz_zC mz_zM (fun _ => 0) = some ()) : W p l e room_1 s m #[Value.ref b] below meth c s.heap [] 0 0 (lw_Z below #[Value.ref b] s) (entryFrame m ([Value.ref b] : List Value).toArray 7) := by
  obtain ⟨hx, hb, hr, hml, hown, hts, hX, hbl, hlocks, hgv⟩ := id C0
  have hcx : mz_cx s := mz_cx.of hts
  have htb := hcx.at #[Value.ref b]
  obtain ⟨c0, iS0, hKn0⟩ := u_known (C := "MacroHouse") (T := T_0) (N := 2) (n := 2) htb ii_0 (htb _ k_28)
  obtain ⟨c1, iS1, hKn1⟩ := u_known (C := "MacroHouse$Signs") (T := T_1) (N := 5) (n := 5) htb ii_1 (htb _ k_36)
  obtain ⟨c2, iS2, hKn2⟩ := u_known (C := "MacroHouse$Expander") (T := T_2) (N := 15) (n := 15) htb ii_2 (htb _ k_62)
  obtain ⟨c3, iS3, hKn3⟩ := u_known (C := "MacroHouse$Reader") (T := T_3) (N := 8) (n := 8) htb ii_3 (htb _ k_172)
  obtain ⟨c4, iS4, hKn4⟩ := u_known (C := "MacroHouse$Conditions") (T := T_4) (N := 6) (n := 6) htb ii_4 (htb _ k_68)
  obtain ⟨c5, iS5, hKn5⟩ := u_known (C := "MacroHouse$Constants") (T := T_5) (N := 2) (n := 2) htb ii_5 (htb _ k_127)
  obtain ⟨c6, iS6, hKn6⟩ := u_known (C := "MacroHouse$Names") (T := T_6) (N := 5) (n := 5) htb ii_6 (htb _ k_133)
  obtain ⟨c7, iS7, hKn7⟩ := u_known (C := "MacroHouse$Macros") (T := T_7) (N := 12) (n := 12) htb ii_7 (htb _ k_212)
  obtain ⟨c8, iS8, hKn8⟩ := u_known (C := "MacroHouse$Stack") (T := T_8) (N := 11) (n := 11) htb ii_8 (htb _ k_259)
  obtain ⟨c9, iS9, hKn9⟩ := u_known (C := "MacroHouse$Output") (T := T_9) (N := 7) (n := 7) htb ii_9 (htb _ k_95)
  obtain ⟨c10, iS10, hKn10⟩ := u_known (C := "MacroHouse$Frame") (T := T_10) (N := 15) (n := 15) htb ii_10 (htb _ k_265)
  obtain ⟨c11, iS11, hKn11⟩ := u_known (C := "MacroHouseModel") (T := T_11) (N := 80) (n := 80) htb ii_11 (htb _ k_1177)
  obtain ⟨dC, dI, hKc⟩ : ∃ (dC : Nat → ClassId) (dI : Nat → Nat → Nat), ∀ (k : Nat) (q : vw_C), mz_cl[k]? = some q → u_Kn s q.1 q.2.1 q.2.2 (dC k) (dI k) := by
    refine ⟨fun k => [c0, c1, c2, c3, c4, c5, c6, c7, c8, c9, c10, c11].getD k 0, fun k => [iS0, iS1, iS2, iS3, iS4, iS5, iS6, iS7, iS8, iS9, iS10, iS11].getD k iS0, ?_⟩
    intro k q hq
    match k, hq with
    | 0, hq => cases hq; exact hKn0
    | 1, hq => cases hq; exact hKn1
    | 2, hq => cases hq; exact hKn2
    | 3, hq => cases hq; exact hKn3
    | 4, hq => cases hq; exact hKn4
    | 5, hq => cases hq; exact hKn5
    | 6, hq => cases hq; exact hKn6
    | 7, hq => cases hq; exact hKn7
    | 8, hq => cases hq; exact hKn8
    | 9, hq => cases hq; exact hKn9
    | 10, hq => cases hq; exact hKn10
    | 11, hq => cases hq; exact hKn11
    | k + 12, hq => simp [mz_cl] at hq
  obtain ⟨ca0, hr0a, hr0b⟩ := lw_ac (htb _ k_60) (fun C h => by cases h)
  obtain ⟨ca1, hr1a, hr1b⟩ := lw_ac (htb _ k_59) (fun C h => by cases h)
  obtain ⟨ca2, hr2a, hr2b⟩ := lw_ac (htb _ k_93) (fun C h => by cases h)
  obtain ⟨ca3, hr3a, hr3b⟩ := lw_ac (htb _ k_1424) (fun C h => by cases h)
  obtain ⟨ca4, hr4a, hr4b⟩ := lw_ao (hts _ st_11.1)
  obtain ⟨ca, hca⟩ : ∃ ca : Nat → ClassId, ∀ (k : Nat) (q : ClassId × FieldType), (mz_ty ca)[k]? = some q → ArrOfT s q.1 q.2 ∧ va_RA s q.1 q.2 := by
    refine ⟨fun k => [ca0, ca1, ca2, ca3, ca4].getD k 0, ?_⟩
    intro k q hq
    match k, hq with
    | 0, hq => cases hq; exact ⟨hr0a, hr0b⟩
    | 1, hq => cases hq; exact ⟨hr1a, hr1b⟩
    | 2, hq => cases hq; exact ⟨hr2a, hr2b⟩
    | 3, hq => cases hq; exact ⟨hr3a, hr3b⟩
    | 4, hq => cases hq; exact ⟨hr4a, hr4b⟩
    | k + 5, hq => simp [mz_ty] at hq
  obtain ⟨en, adK, adV, tA, tS, oF, hS0, hTH, hZP⟩ := mz_start (A := fun q => s.heap.size ≤ q) hts hgv (fun a h => Nat.not_le.mpr h)
  have hK : va_K (dC, dI) mz_cl (mz_ty ca) s := ⟨hKc, hca⟩
  have F : mi_F dC dI ca en p s m c code 7 "MacroHouseLaw" (fun q => s.heap.size ≤ q) := ⟨hx, hb, hml, hown, hcx, hK, hZP, fun _ h => h⟩
  have hl := lv_entry ([.ref b]) (n := 7) (Nat.le_of_ble_eq_true rfl)
  rw [lg_entry_eq]
  generalize (lg_sl ([.ref b]) ++ List.replicate (7 - (lg_sl ([.ref b])).length) Slot.unset).toArray = ls at hl ⊢
  have hl : lv_has ls 7 [(0, .ref b)] := hl
  have w : mi_W dC dI s (fun q => s.heap.size ≤ q) [] [] s.heap [] := ⟨fun k q h => by simp at h, ⟨fun i j p q h => by simp at h, fun k q h => by simp at h⟩, va_S.rf⟩
  refine mi_newL (ci := 0) (fs := [.null, .null]) F w ii_0 ty_0 tk_0 k_27 k_28 k_1 rfl hv_0 (Nat.le_of_ble_eq_true rfl) (Nat.le_of_ble_eq_true rfl) d_LA_law_0 (fun q0 H w => ?_)
  have w : mi_W dC dI s (fun q => s.heap.size ≤ q) [(q0, .inr (0, [.null, .null]))] [] H [] := w
  refine lv_dup hx hb d_LA_law_3 rfl ?_
  refine mi_callL (As := []) (rest := [.ref q0]) F w 0 rfl (i_MH (dC := dC) (dI := dI) (ca := ca) (en := en) l q0 H.size) k_31 k_1 (Or.inl k_29) k_30 rfl (n := 0) (by decide +kernel) ⟨⟨rfl, rfl⟩, (Nat.le_of_ble_eq_true rfl), (Nat.le_of_ble_eq_true rfl)⟩ rfl hl.1 rfl (Nat.le_of_ble_eq_true rfl) d_LA_law_4 ⟨(Nat.le_of_ble_eq_true rfl), (Nat.le_of_ble_eq_true rfl)⟩ (fun ad H locs w => ?_)
  have w : mi_W dC dI s (fun q => s.heap.size ≤ q) [(q0, .inr (0, g_MH ca en ad))] ([] ++ n_MH ca en ad) H locs := w
  refine lv_astore_n (lv' := [(1, .ref q0), (0, .ref b)]) hx hb d_LA_law_7 rfl hl (by decide) rfl (fun ls hl => ?_)
  refine mi_newL (ci := 11) (fs := [.int 0, .null, .int 0, .int 0, .null, .null, .int 0, .int 0, .int 0, .int 0, .int 0, .int 0, .int 0, .null, .null, .null, .null, .null, .null, .null, .null, .null, .null, .null, .int 0, .null, .null, .null, .int 0, .int 0, .null, .null, .null, .null, .int 0, .null, .null, .null, .null, .null, .null, .null, .null, .null, .null, .null, .null, .null, .int 0, .null, .null, .int 0, .null, .int 0, .null, .null, .null, .null, .null, .null, .int 0, .int 0, .int 0, .int 0, .int 0, .long 0, .long 0, .int 0, .null, .null, .null, .null, .null, .null, .null, .int 0, .null, .null, .null, .null]) F w ii_11 ty_11 tk_11 k_1176 k_1177 k_15 rfl hv_11 (Nat.le_of_ble_eq_true rfl) (Nat.le_of_ble_eq_true rfl) d_LA_law_8 (fun q1 H w => ?_)
  have w : mi_W dC dI s (fun q => s.heap.size ≤ q) [(q1, .inr (11, [.int 0, .null, .int 0, .int 0, .null, .null, .int 0, .int 0, .int 0, .int 0, .int 0, .int 0, .int 0, .null, .null, .null, .null, .null, .null, .null, .null, .null, .null, .null, .int 0, .null, .null, .null, .int 0, .int 0, .null, .null, .null, .null, .int 0, .null, .null, .null, .null, .null, .null, .null, .null, .null, .null, .null, .null, .null, .int 0, .null, .null, .int 0, .null, .int 0, .null, .null, .null, .null, .null, .null, .int 0, .int 0, .int 0, .int 0, .int 0, .long 0, .long 0, .int 0, .null, .null, .null, .null, .null, .null, .null, .int 0, .null, .null, .null, .null])), (q0, .inr (0, g_MH ca en ad))] ([] ++ n_MH ca en ad) H locs := w
  refine lv_dup hx hb d_LA_law_11 rfl ?_
  refine mi_callL (As := []) (rest := [.ref q1]) F w 0 rfl (i_MO (dC := dC) (dI := dI) (ca := ca) (en := en) l q1 H.size) k_1180 k_15 (Or.inl k_1178) k_1179 rfl (n := 0) (by decide +kernel) ⟨⟨rfl, rfl⟩, (Nat.le_of_ble_eq_true rfl), (Nat.le_of_ble_eq_true rfl)⟩ rfl hl.1 rfl (Nat.le_of_ble_eq_true rfl) d_LA_law_12 ⟨(Nat.le_of_ble_eq_true rfl), (Nat.le_of_ble_eq_true rfl)⟩ (fun ad2 H locs w => ?_)
  have w : mi_W dC dI s (fun q => s.heap.size ≤ q) [(q1, .inr (11, g_MO ca en ad2)), (q0, .inr (0, g_MH ca en ad))] (([] ++ n_MH ca en ad) ++ n_MO ca en ad2) H locs := w
  refine lv_astore_n (lv' := [(2, .ref q1), (1, .ref q0), (0, .ref b)]) hx hb d_LA_law_15 rfl hl (by decide) rfl (fun ls hl => ?_)
  refine lv_iconst (v := (1 : Int32)) hx hb d_LA_law_16 (by decide) ?_
  refine mi_newaL (atype := .long) (k := 3) (ty := .long) (N' := 1) (a0 := (1, .inr (.inl (fun _ => 0)))) F w k_1424 rfl rfl (fun _ => rfl) (by decide) (by decide) (Nat.le_of_ble_eq_true rfl) (Nat.le_of_ble_eq_true rfl) (Nat.le_of_ble_eq_true rfl) d_LA_law_17 (fun o H w => ?_)
  refine lv_astore_n (lv' := [(3, .ref o), (2, .ref q1), (1, .ref q0), (0, .ref b)]) hx hb d_LA_law_19 rfl hl (by decide) rfl (fun ls hl => ?_)
  refine lv_iconst (v := (0 : Int32)) hx hb d_LA_law_20 (by decide) ?_
  refine lv_istore (lv' := [(4, .int (0 : Int32)), (3, .ref o), (2, .ref q1), (1, .ref q0), (0, .ref b)]) hx hb d_LA_law_21 hl (by decide) rfl (fun ls hl => ?_)
  obtain ⟨wP, wD, wS⟩ := w
  obtain ⟨⟨pC, dCC⟩, ⟨pM, dMM⟩, ⟨pO, aO⟩, nC, nM, nX⟩ := lw_split wP wD
  have jC := mz_jC dCC
  have jM := mz_jM dMM
  have kC := (mz_jC (lw_in dCC)).2
  have kM := (mz_jM (lw_in dMM)).2
  have E : lw_En dC dI ca en adK adV tA tS oF (mz_aC q0 ad) (mz_aM q1 ad2) o p s m c code 7 := by
    refine ⟨hx, hb, hml, hown, hcx, hK, hS0, hTH, ⟨jC.1, jM.1⟩, ⟨?_, ?_, aO⟩, ?_, ?_, ?_⟩
    · rintro q ⟨k, hk, rfl⟩; exact jC.2 k hk
    · rintro q ⟨k, hk, rfl⟩; exact jM.2 k hk
    · rintro ⟨k, hk, hq⟩
      obtain ⟨i, e, h⟩ := kC k hk
      exact nC i _ h hq.symm
    · rintro ⟨k, hk, hq⟩
      obtain ⟨i, e, h⟩ := kM k hk
      exact nM i _ h hq.symm
    · rintro q ⟨k, hk, rfl⟩ ⟨k2, hk2, hq⟩
      obtain ⟨i, e, h⟩ := kC k hk
      obtain ⟨i2, e2, h2⟩ := kM k2 hk2
      exact nX i i2 _ _ h h2 hq
  exact law_loop E hr hlocks hX hbl hT n 1000 0 mz_zC mz_zM (fun _ => 0) hok _ _ (by decide) (by decide) H locs ls ⟨mz_wC pC, mz_wM pM, pO, wS⟩ (lv_sub hl [4, 3, 2, 1, 0] rfl)
