/-! One row an instruction, over a side's state -/
def mz_ty (ca : Nat → ClassId) : List (ClassId × FieldType) := [(ca 0, .int), (ca 1, .byte), (ca 2, .boolean), (ca 3, .long), (ca 4, .object "MacroHouse$Frame")]
/-- what the side's statics say stays true where only its own cells are written -/
def mz_SK (SX : State → Heap → Prop) (ad : Nat → Nat) (N : Nat) : Prop := ∀ (s U : State) (H : Heap), SX s s.heap → (∀ q : Nat, q < s.heap.size → ¬ mz_A ad N q → H[q]? = s.heap[q]?) → s.WarmedH U.vm → SX U H
/-- what a side's world is at a state -/
def mz_WP (SX : State → Heap → Prop) (tab : mz_Tab) (N : Nat) (cl : List vw_C) (dC : Nat → ClassId) (dI : Nat → Nat → Nat) (ad en : Nat → Nat) (ca : Nat → ClassId) (t : mz_St) (U : State) : Prop :=
  va_P (dC, dI) cl (mz_w tab N ad en ca t) U.heap ∧ va_K (dC, dI) cl (mz_ty ca) U ∧ mz_J ad N ∧ mz_cx U ∧ SX U U.heap
/-- what stays as it is while a method's body runs -/
def mz_En (SX : State → Heap → Prop) (N : Nat) (cl : List vw_C) (dC : Nat → ClassId) (dI : Nat → Nat → Nat) (ad : Nat → Nat) (ca : Nat → ClassId) (p : Program) (s : State) (m : MethodId) (meth : Method) (c : Code) (cc : ByteArray) (nL : Nat) (own : String) (ret : Option FieldType) : Prop :=
  p.tables.exec = Jvm.exec ∧ c.code = cc ∧ c.maxLocals = nL ∧ s.vm.findClass own = some m.cls ∧ mz_cx s ∧ va_K (dC, dI) cl (mz_ty ca) s ∧ mz_J ad N ∧ SX s s.heap ∧ meth.locks = false ∧ meth.sig.returnType = ret ∧ mz_SK SX ad N
/-- what changes -/
def mz_Wd (tab : mz_Tab) (N : Nat) (cl : List vw_C) (dC : Nat → ClassId) (dI : Nat → Nat → Nat) (ad en : Nat → Nat) (ca : Nat → ClassId) (s : State) (t : mz_St) (H : Heap) (locs : List Loc) : Prop :=
  va_P (dC, dI) cl (mz_w tab N ad en ca t) H ∧ va_S (mz_A ad N) s.heap H locs
section MZ
variable {SX : State → Heap → Prop} {tab : mz_Tab} {N : Nat} {cl : List vw_C} {dC : Nat → ClassId} {dI : Nat → Nat → Nat} {ad en : Nat → Nat} {ca : Nat → ClassId}
variable {p : Program} {l : Launch} {e : Env} {R : Room} {s : State} {m : MethodId} {args : Array Value} {below : List Frame} {meth : Method} {c : Code} {H : Heap} {locs : List Loc} {cells slots : Nat} {Q : State → Prop}
variable {cc : ByteArray} {nL pc : Nat} {own : String} {ret : Option FieldType} {ls : Array Slot} {rest : List Value} {t : mz_St}
theorem mz_get (E : mz_En SX N cl dC dI ad ca p s m meth c cc nL own ret) (w : mz_Wd tab N cl dC dI ad en ca s t H locs) (k j : Nat) {ci idx NF : Nat} {ks : List (Nat × Nat)} {C : String} {T : u_T} {v : Value} (hk : k < N) (ht : tab k = .inl (ci, ks)) (hc : cl[ci]? = some (C, T, NF)) (hin : ∀ w ∈ u_ws C T NF, w ∈ mz_tb) (hj : j < NF) (hjk : j < ks.length)
    (hl : Cond.fieldLink own idx (T j).1 (T j).2.1 (T j).2.2.1 ∈ mz_tb) (hv : mz_vl ad en (ks.getD j (0, 0)) (t.1 k j) (t.2 k j) = v) (hd : decode cc pc = .ok (.getfield idx, 3))
    (kk : W p l e R s m args below meth c H locs cells slots Q (F0 m (pc + 3) ls (v :: rest))) : W p l e R s m args below meth c H locs cells slots Q (F0 m pc ls (.ref (ad k) :: rest)) := by
  obtain ⟨hx, hb, -, hown, hcx, hK, -, -, -, -, -⟩ := E
  have he : (mz_w tab N ad en ca t)[k]? = some (ad k, .inr (ci, mz_ob ad en ks (t.1 k) (t.2 k))) := by
    rw [mz_w_at hk]; unfold mz_ce; rw [ht]
  exact va_get (D := (dC, dI)) hx hb (hcx.at args) hin hown hK w.1 k he hc j hj (hcx.at args _ hl) (fun _ h => h) (by rw [mz_ob_at hjk, hv]) hd kk
theorem mz_put (E : mz_En SX N cl dC dI ad ca p s m meth c cc nL own ret) (w : mz_Wd tab N cl dC dI ad en ca s t H locs) (k j : Nat) {ci idx NF : Nat} {ks : List (Nat × Nat)} {C : String} {T : u_T} {ty0 : Nat → FieldType} {ty : FieldType} {v : Int32} {u : Value} (hk : k < N) (ht : tab k = .inl (ci, ks)) (hc : cl[ci]? = some (C, T, NF)) (hin : ∀ w ∈ u_ws C T NF, w ∈ mz_tb)
    (hty : ∀ k, k < NF → parseFieldDescriptor (T k).2.2.1 = some (ty0 k)) (hnm : ∀ a, a < NF → ∀ b, b < NF → a ≠ b → (T a).2.1 ≠ (T b).2.1) (hj : j < NF) (hjk : j < ks.length)
    (hl : Cond.fieldLink own idx (T j).1 (T j).2.1 (T j).2.2.1 ∈ mz_tb) (hfin : (T j).2.2.2 = false) (hdd : parseFieldDescriptor (T j).2.2.1 = some ty) (hu : mz_vl ad en (ks.getD j (0, 0)) v (t.2 k j) = u) (hn : narrow ty u = u) (hfit : fits ty u = true) (hd : decode cc pc = .ok (.putfield idx, 3))
    (kk : ∀ (H1 : Heap) (locs1 : List Loc), mz_Wd tab N cl dC dI ad en ca s (mz_pI t k j v) H1 locs1 → W p l e R s m args below meth c H1 locs1 cells slots Q (F0 m (pc + 3) ls rest)) : W p l e R s m args below meth c H locs cells slots Q (F0 m pc ls (u :: .ref (ad k) :: rest)) := by
  obtain ⟨hx, hb, -, hown, hcx, hK, hJ, -, -, -, -⟩ := E
  have he : (mz_w tab N ad en ca t)[k]? = some (ad k, .inr (ci, mz_ob ad en ks (t.1 k) (t.2 k))) := by
    rw [mz_w_at hk]; unfold mz_ce; rw [ht]
  refine va_put (D := (dC, dI)) hx hb (hcx.at args) hin ty0 hty hnm hown hK w.1 (mz_w_D hJ) w.2 k he hc j hj (hcx.at args _ hl) (fun _ h => h) hfin hdd hn hfit (by rw [mz_ob_len]; exact hjk) hd (fun H1 locs1 hP _ hS => kk H1 locs1 ⟨?_, hS⟩)
  rw [← mz_w_set (t := t) (t' := mz_pI t k j v) rfl mz_ce_pI]
  have e1 : mz_ce tab ad en ca (mz_pI t k j v) k = .inr (ci, (mz_ob ad en ks (t.1 k) (t.2 k)).set j u) := by
    unfold mz_ce
    rw [ht, mz_pI_eq, ← hu, mz_ob_setI]
    rfl
  rw [e1]
  exact hP
theorem mz_putL (E : mz_En SX N cl dC dI ad ca p s m meth c cc nL own ret) (w : mz_Wd tab N cl dC dI ad en ca s t H locs) (k j : Nat) {ci idx NF : Nat} {ks : List (Nat × Nat)} {C : String} {T : u_T} {ty0 : Nat → FieldType} {ty : FieldType} {v : Int64} {u : Value} (hk : k < N) (ht : tab k = .inl (ci, ks)) (hc : cl[ci]? = some (C, T, NF)) (hin : ∀ w ∈ u_ws C T NF, w ∈ mz_tb)
    (hty : ∀ k, k < NF → parseFieldDescriptor (T k).2.2.1 = some (ty0 k)) (hnm : ∀ a, a < NF → ∀ b, b < NF → a ≠ b → (T a).2.1 ≠ (T b).2.1) (hj : j < NF) (hjk : j < ks.length)
    (hl : Cond.fieldLink own idx (T j).1 (T j).2.1 (T j).2.2.1 ∈ mz_tb) (hfin : (T j).2.2.2 = false) (hdd : parseFieldDescriptor (T j).2.2.1 = some ty) (hu : mz_vl ad en (ks.getD j (0, 0)) (t.1 k j) v = u) (hn : narrow ty u = u) (hfit : fits ty u = true) (hd : decode cc pc = .ok (.putfield idx, 3))
    (kk : ∀ (H1 : Heap) (locs1 : List Loc), mz_Wd tab N cl dC dI ad en ca s (mz_pL t k j v) H1 locs1 → W p l e R s m args below meth c H1 locs1 cells slots Q (F0 m (pc + 3) ls rest)) : W p l e R s m args below meth c H locs cells slots Q (F0 m pc ls (u :: .ref (ad k) :: rest)) := by
  obtain ⟨hx, hb, -, hown, hcx, hK, hJ, -, -, -, -⟩ := E
  have he : (mz_w tab N ad en ca t)[k]? = some (ad k, .inr (ci, mz_ob ad en ks (t.1 k) (t.2 k))) := by
    rw [mz_w_at hk]; unfold mz_ce; rw [ht]
  refine va_put (D := (dC, dI)) hx hb (hcx.at args) hin ty0 hty hnm hown hK w.1 (mz_w_D hJ) w.2 k he hc j hj (hcx.at args _ hl) (fun _ h => h) hfin hdd hn hfit (by rw [mz_ob_len]; exact hjk) hd (fun H1 locs1 hP _ hS => kk H1 locs1 ⟨?_, hS⟩)
  rw [← mz_w_set (t := t) (t' := mz_pL t k j v) rfl mz_ce_pL]
  have e1 : mz_ce tab ad en ca (mz_pL t k j v) k = .inr (ci, (mz_ob ad en ks (t.1 k) (t.2 k)).set j u) := by
    unfold mz_ce
    rw [ht, mz_pL_eq, ← hu, mz_ob_setL]
    rfl
  rw [e1]
  exact hP
theorem mz_iald (E : mz_En SX N cl dC dI ad ca p s m meth c cc nL own ret) (w : mz_Wd tab N cl dC dI ad en ca s t H locs) (k : Nat) {n z : Nat} {i : Int32} (hk : k < N) (ht : tab k = .inr (0, n, z)) (hi : vp_in i n) (hd : decode cc pc = .ok (.iaload, 1))
    (kk : W p l e R s m args below meth c H locs cells slots Q (F0 m (pc + 1) ls (.int (mz_gI t k i.toNatClampNeg) :: rest))) : W p l e R s m args below meth c H locs cells slots Q (F0 m pc ls (.int i :: .ref (ad k) :: rest)) := by
  obtain ⟨hx, hb, -, hown, hcx, hK, -, -, -, -, -⟩ := E
  have he : (mz_w tab N ad en ca t)[k]? = some (ad k, .inl (ca 0, n, .inl (t.1 k))) := by
    rw [mz_w_at hk]; unfold mz_ce; rw [ht]; rfl
  exact va_iald (D := (dC, dI)) hx hb hK w.1 k 0 he rfl hi hd kk
theorem mz_bald (E : mz_En SX N cl dC dI ad ca p s m meth c cc nL own ret) (w : mz_Wd tab N cl dC dI ad en ca s t H locs) (k : Nat) {n z : Nat} {i : Int32} (hk : k < N) (ht : tab k = .inr (1, n, z)) (hi : vp_in i n) (hd : decode cc pc = .ok (.baload, 1))
    (kk : W p l e R s m args below meth c H locs cells slots Q (F0 m (pc + 1) ls (.int (mz_gI t k i.toNatClampNeg) :: rest))) : W p l e R s m args below meth c H locs cells slots Q (F0 m pc ls (.int i :: .ref (ad k) :: rest)) := by
  obtain ⟨hx, hb, -, hown, hcx, hK, -, -, -, -, -⟩ := E
  have he : (mz_w tab N ad en ca t)[k]? = some (ad k, .inl (ca 1, n, .inl (t.1 k))) := by
    rw [mz_w_at hk]; unfold mz_ce; rw [ht]; rfl
  exact va_bald (D := (dC, dI)) hx hb hK w.1 k 1 he rfl hi hd kk
theorem mz_zald (E : mz_En SX N cl dC dI ad ca p s m meth c cc nL own ret) (w : mz_Wd tab N cl dC dI ad en ca s t H locs) (k : Nat) {n z : Nat} {i : Int32} (hk : k < N) (ht : tab k = .inr (2, n, z)) (hi : vp_in i n) (hd : decode cc pc = .ok (.baload, 1))
    (kk : W p l e R s m args below meth c H locs cells slots Q (F0 m (pc + 1) ls (.int (mz_gI t k i.toNatClampNeg) :: rest))) : W p l e R s m args below meth c H locs cells slots Q (F0 m pc ls (.int i :: .ref (ad k) :: rest)) := by
  obtain ⟨hx, hb, -, hown, hcx, hK, -, -, -, -, -⟩ := E
  have he : (mz_w tab N ad en ca t)[k]? = some (ad k, .inl (ca 2, n, .inl (t.1 k))) := by
    rw [mz_w_at hk]; unfold mz_ce; rw [ht]; rfl
  exact va_zald (D := (dC, dI)) hx hb hK w.1 k 2 he rfl hi hd kk
theorem mz_lald (E : mz_En SX N cl dC dI ad ca p s m meth c cc nL own ret) (w : mz_Wd tab N cl dC dI ad en ca s t H locs) (k : Nat) {n z : Nat} {i : Int32} (hk : k < N) (ht : tab k = .inr (3, n, z)) (hi : vp_in i n) (hd : decode cc pc = .ok (.laload, 1))
    (kk : W p l e R s m args below meth c H locs cells slots Q (F0 m (pc + 1) ls (.long (mz_gL t k i.toNatClampNeg) :: rest))) : W p l e R s m args below meth c H locs cells slots Q (F0 m pc ls (.int i :: .ref (ad k) :: rest)) := by
  obtain ⟨hx, hb, -, hown, hcx, hK, -, -, -, -, -⟩ := E
  have he : (mz_w tab N ad en ca t)[k]? = some (ad k, .inl (ca 3, n, .inr (.inl (t.2 k)))) := by
    rw [mz_w_at hk]; unfold mz_ce; rw [ht]; rfl
  exact va_lald (D := (dC, dI)) hx hb hK w.1 k 3 he rfl hi hd kk
theorem mz_aald (E : mz_En SX N cl dC dI ad ca p s m meth c cc nL own ret) (w : mz_Wd tab N cl dC dI ad en ca s t H locs) (k : Nat) {n z : Nat} {i : Int32} (hk : k < N) (ht : tab k = .inr (4, n, z)) (hi : vp_in i n) (hd : decode cc pc = .ok (.aaload, 1))
    (kk : W p l e R s m args below meth c H locs cells slots Q (F0 m (pc + 1) ls (.ref (ad (z + i.toNatClampNeg)) :: rest))) : W p l e R s m args below meth c H locs cells slots Q (F0 m pc ls (.int i :: .ref (ad k) :: rest)) := by
  obtain ⟨hx, hb, -, hown, hcx, hK, -, -, -, -, -⟩ := E
  have he : (mz_w tab N ad en ca t)[k]? = some (ad k, .inl (ca 4, n, .inr (.inr (.inr (.inr (fun i => some (ad (z + i)))))))) := by
    rw [mz_w_at hk]; unfold mz_ce; rw [ht]; rfl
  exact va_aldq (D := (dC, dI)) hx hb hK w.1 k 4 he rfl hi hd kk
theorem mz_alen (E : mz_En SX N cl dC dI ad ca p s m meth c cc nL own ret) (w : mz_Wd tab N cl dC dI ad en ca s t H locs) (k : Nat) {a n z : Nat} {v : Int32} (hk : k < N) (ht : tab k = .inr (a, n, z)) (ha : a < 5) (hv : Int32.ofNat n = v) (hd : decode cc pc = .ok (.arraylength, 1))
    (kk : W p l e R s m args below meth c H locs cells slots Q (F0 m (pc + 1) ls (.int v :: rest))) : W p l e R s m args below meth c H locs cells slots Q (F0 m pc ls (.ref (ad k) :: rest)) := by
  obtain ⟨hx, hb, -, hown, hcx, hK, -, -, -, -, -⟩ := E
  have he : (mz_w tab N ad en ca t)[k]? = some (ad k, .inl (mz_ar ad ca (a, n, z) (t.1 k) (t.2 k))) := by
    rw [mz_w_at hk]; unfold mz_ce; rw [ht]
  match a, ha, he with
  | 0, _, he => exact va_alen (D := (dC, dI)) hx hb hK w.1 k 0 (cA := ca 0) (x := (n, .inl (t.1 k))) he rfl hv hd kk
  | 1, _, he => exact va_alen (D := (dC, dI)) hx hb hK w.1 k 1 (cA := ca 1) (x := (n, .inl (t.1 k))) he rfl hv hd kk
  | 2, _, he => exact va_alen (D := (dC, dI)) hx hb hK w.1 k 2 (cA := ca 2) (x := (n, .inl (t.1 k))) he rfl hv hd kk
  | 3, _, he => exact va_alen (D := (dC, dI)) hx hb hK w.1 k 3 (cA := ca 3) (x := (n, .inr (.inl (t.2 k)))) he rfl hv hd kk
  | 4, _, he => exact va_alen (D := (dC, dI)) hx hb hK w.1 k 4 (cA := ca 4) (x := (n, .inr (.inr (.inr (.inr (fun i => some (ad (z + i)))))))) he rfl hv hd kk
  | _ + 5, ha, _ => exact absurd ha (by omega)
theorem mz_iast (E : mz_En SX N cl dC dI ad ca p s m meth c cc nL own ret) (w : mz_Wd tab N cl dC dI ad en ca s t H locs) (k : Nat) {n z : Nat} {i x : Int32} (hk : k < N) (ht : tab k = .inr (0, n, z)) (hi : vp_in i n) (hd : decode cc pc = .ok (.iastore, 1))
    (kk : ∀ (H1 : Heap) (locs1 : List Loc), mz_Wd tab N cl dC dI ad en ca s (mz_pI t k i.toNatClampNeg x) H1 locs1 → W p l e R s m args below meth c H1 locs1 cells slots Q (F0 m (pc + 1) ls rest)) : W p l e R s m args below meth c H locs cells slots Q (F0 m pc ls (.int x :: .int i :: .ref (ad k) :: rest)) := by
  obtain ⟨hx, hb, -, hown, hcx, hK, hJ, -, -, -, -⟩ := E
  have he : (mz_w tab N ad en ca t)[k]? = some (ad k, .inl (ca 0, n, .inl (t.1 k))) := by
    rw [mz_w_at hk]; unfold mz_ce; rw [ht]; rfl
  refine va_iast (D := (dC, dI)) hx hb hK w.1 (mz_w_D hJ) w.2 k 0 he rfl hi hd (fun H1 locs1 hP _ hS => kk H1 locs1 ⟨?_, hS⟩)
  rw [← mz_w_set (t := t) (t' := mz_pI t k i.toNatClampNeg x) rfl mz_ce_pI]
  have e1 : mz_ce tab ad en ca (mz_pI t k i.toNatClampNeg x) k = .inl (ca 0, n, .inl (upd (t.1 k) i.toNatClampNeg x)) := by
    unfold mz_ce
    rw [ht, mz_pI_eq]
    rfl
  rw [e1]
  exact hP
theorem mz_bast (E : mz_En SX N cl dC dI ad ca p s m meth c cc nL own ret) (w : mz_Wd tab N cl dC dI ad en ca s t H locs) (k : Nat) {n z : Nat} {i x : Int32} (hk : k < N) (ht : tab k = .inr (1, n, z)) (hi : vp_in i n) (hd : decode cc pc = .ok (.bastore, 1))
    (kk : ∀ (H1 : Heap) (locs1 : List Loc), mz_Wd tab N cl dC dI ad en ca s (mz_pI t k i.toNatClampNeg (vp_nar .byte x)) H1 locs1 → W p l e R s m args below meth c H1 locs1 cells slots Q (F0 m (pc + 1) ls rest)) : W p l e R s m args below meth c H locs cells slots Q (F0 m pc ls (.int x :: .int i :: .ref (ad k) :: rest)) := by
  obtain ⟨hx, hb, -, hown, hcx, hK, hJ, -, -, -, -⟩ := E
  have he : (mz_w tab N ad en ca t)[k]? = some (ad k, .inl (ca 1, n, .inl (t.1 k))) := by
    rw [mz_w_at hk]; unfold mz_ce; rw [ht]; rfl
  refine va_bast (D := (dC, dI)) hx hb hK w.1 (mz_w_D hJ) w.2 k 1 he rfl hi hd (fun H1 locs1 hP _ hS => kk H1 locs1 ⟨?_, hS⟩)
  rw [← mz_w_set (t := t) (t' := mz_pI t k i.toNatClampNeg (vp_nar .byte x)) rfl mz_ce_pI]
  have e1 : mz_ce tab ad en ca (mz_pI t k i.toNatClampNeg (vp_nar .byte x)) k = .inl (ca 1, n, .inl (upd (t.1 k) i.toNatClampNeg (vp_nar .byte x))) := by
    unfold mz_ce
    rw [ht, mz_pI_eq]
    rfl
  rw [e1]
  exact hP
theorem mz_zast (E : mz_En SX N cl dC dI ad ca p s m meth c cc nL own ret) (w : mz_Wd tab N cl dC dI ad en ca s t H locs) (k : Nat) {n z : Nat} {i x : Int32} (hk : k < N) (ht : tab k = .inr (2, n, z)) (hi : vp_in i n) (hd : decode cc pc = .ok (.bastore, 1))
    (kk : ∀ (H1 : Heap) (locs1 : List Loc), mz_Wd tab N cl dC dI ad en ca s (mz_pI t k i.toNatClampNeg (vp_nar .boolean x)) H1 locs1 → W p l e R s m args below meth c H1 locs1 cells slots Q (F0 m (pc + 1) ls rest)) : W p l e R s m args below meth c H locs cells slots Q (F0 m pc ls (.int x :: .int i :: .ref (ad k) :: rest)) := by
  obtain ⟨hx, hb, -, hown, hcx, hK, hJ, -, -, -, -⟩ := E
  have he : (mz_w tab N ad en ca t)[k]? = some (ad k, .inl (ca 2, n, .inl (t.1 k))) := by
    rw [mz_w_at hk]; unfold mz_ce; rw [ht]; rfl
  refine va_zast (D := (dC, dI)) hx hb hK w.1 (mz_w_D hJ) w.2 k 2 he rfl hi hd (fun H1 locs1 hP _ hS => kk H1 locs1 ⟨?_, hS⟩)
  rw [← mz_w_set (t := t) (t' := mz_pI t k i.toNatClampNeg (vp_nar .boolean x)) rfl mz_ce_pI]
  have e1 : mz_ce tab ad en ca (mz_pI t k i.toNatClampNeg (vp_nar .boolean x)) k = .inl (ca 2, n, .inl (upd (t.1 k) i.toNatClampNeg (vp_nar .boolean x))) := by
    unfold mz_ce
    rw [ht, mz_pI_eq]
    rfl
  rw [e1]
  exact hP
theorem mz_last (E : mz_En SX N cl dC dI ad ca p s m meth c cc nL own ret) (w : mz_Wd tab N cl dC dI ad en ca s t H locs) (k : Nat) {n z : Nat} {i : Int32} {x : Int64} (hk : k < N) (ht : tab k = .inr (3, n, z)) (hi : vp_in i n) (hd : decode cc pc = .ok (.lastore, 1))
    (kk : ∀ (H1 : Heap) (locs1 : List Loc), mz_Wd tab N cl dC dI ad en ca s (mz_pL t k i.toNatClampNeg x) H1 locs1 → W p l e R s m args below meth c H1 locs1 cells slots Q (F0 m (pc + 1) ls rest)) : W p l e R s m args below meth c H locs cells slots Q (F0 m pc ls (.long x :: .int i :: .ref (ad k) :: rest)) := by
  obtain ⟨hx, hb, -, hown, hcx, hK, hJ, -, -, -, -⟩ := E
  have he : (mz_w tab N ad en ca t)[k]? = some (ad k, .inl (ca 3, n, .inr (.inl (t.2 k)))) := by
    rw [mz_w_at hk]; unfold mz_ce; rw [ht]; rfl
  refine va_last (D := (dC, dI)) hx hb hK w.1 (mz_w_D hJ) w.2 k 3 he rfl hi hd (fun H1 locs1 hP _ hS => kk H1 locs1 ⟨?_, hS⟩)
  rw [← mz_w_set (t := t) (t' := mz_pL t k i.toNatClampNeg x) rfl mz_ce_pL]
  have e1 : mz_ce tab ad en ca (mz_pL t k i.toNatClampNeg x) k = .inl (ca 3, n, .inr (.inl (vp_updL (t.2 k) i.toNatClampNeg x))) := by
    unfold mz_ce
    rw [ht, mz_pL_eq]
    rfl
  rw [e1]
  exact hP
end MZ
