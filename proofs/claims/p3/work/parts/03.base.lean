/-! The state of a side (the class, or the reference) as numbers: (cell, place) to a value; cells by a table -/
abbrev mz_St : Type := (Nat → Nat → Int32) × (Nat → Nat → Int64)
def mz_gI (t : mz_St) (k j : Nat) : Int32 := t.1 k j
def mz_gL (t : mz_St) (k j : Nat) : Int64 := t.2 k j
def mz_pI (t : mz_St) (k j : Nat) (v : Int32) : mz_St := (fun a b => if a = k ∧ b = j then v else t.1 a b, t.2)
def mz_pL (t : mz_St) (k j : Nat) (v : Int64) : mz_St := (t.1, fun a b => if a = k ∧ b = j then v else t.2 a b)
/-- a cell: an object (class number, kinds of its fields), or an array (0 int, 1 byte, 2 boolean, 3 long, 4 references; length; first cell that it holds) -/
abbrev mz_Tab : Type := Nat → (Nat × List (Nat × Nat)) ⊕ (Nat × Nat × Nat)
/-- a field's kind: 0 int, 1 long, 2 the cell of that number, 3 an enum constant by its place -/
def mz_vl (ad en : Nat → Nat) (kd : Nat × Nat) (x : Int32) (y : Int64) : Value := match kd.1 with
  | 0 => .int x
  | 1 => .long y
  | 2 => .ref (ad kd.2)
  | 3 => .ref (en x.toNatClampNeg)
  | _ => .null
def mz_ob (ad en : Nat → Nat) (ks : List (Nat × Nat)) (f : Nat → Int32) (g : Nat → Int64) : List Value := (List.range ks.length).map (fun j => mz_vl ad en (ks.getD j (0, 0)) (f j) (g j))
def mz_ar (ad : Nat → Nat) (ca : Nat → ClassId) (q : Nat × Nat × Nat) (f : Nat → Int32) (g : Nat → Int64) : ClassId × vp_A := match q.1 with
  | 3 => (ca 3, q.2.1, .inr (.inl g))
  | 4 => (ca 4, q.2.1, .inr (.inr (.inr (.inr (fun i => some (ad (q.2.2 + i)))))))
  | t => (ca t, q.2.1, .inl f)
def mz_ce (tab : mz_Tab) (ad en : Nat → Nat) (ca : Nat → ClassId) (t : mz_St) (k : Nat) : va_E := match tab k with
  | .inl o => .inr (o.1, mz_ob ad en o.2 (t.1 k) (t.2 k))
  | .inr q => .inl (mz_ar ad ca q (t.1 k) (t.2 k))
def mz_w (tab : mz_Tab) (N : Nat) (ad en : Nat → Nat) (ca : Nat → ClassId) (t : mz_St) : va_W := (List.range N).map (fun k => (ad k, mz_ce tab ad en ca t k))
def mz_A (ad : Nat → Nat) (N : Nat) : Nat → Prop := fun q => ∃ k, k < N ∧ q = ad k
def mz_J (ad : Nat → Nat) (N : Nat) : Prop := ∀ i j, i < N → j < N → ad i = ad j → i = j
theorem mz_w_at {tab : mz_Tab} {N : Nat} {ad en : Nat → Nat} {ca : Nat → ClassId} {t : mz_St} {k : Nat} (hk : k < N) : (mz_w tab N ad en ca t)[k]? = some (ad k, mz_ce tab ad en ca t k) := by
  simp [mz_w, hk]
theorem mz_w_get {tab : mz_Tab} {N : Nat} {ad en : Nat → Nat} {ca : Nat → ClassId} {t : mz_St} {k : Nat} {q : Nat × va_E} (h : (mz_w tab N ad en ca t)[k]? = some q) : k < N ∧ q = (ad k, mz_ce tab ad en ca t k) := by
  by_cases hk : k < N
  · rw [mz_w_at hk] at h
    exact ⟨hk, (Option.some.inj h).symm⟩
  · simp [mz_w, hk] at h
theorem mz_w_set {tab : mz_Tab} {N : Nat} {ad en : Nat → Nat} {ca : Nat → ClassId} {t t' : mz_St} {k : Nat} {e : va_E} (he : e = mz_ce tab ad en ca t' k) (ho : ∀ i, i ≠ k → mz_ce tab ad en ca t' i = mz_ce tab ad en ca t i) : (mz_w tab N ad en ca t).set k (ad k, e) = mz_w tab N ad en ca t' := by
  subst he
  apply List.ext_getElem?
  intro i
  rw [List.getElem?_set]
  by_cases hi : k = i
  · subst hi
    by_cases hN : k < N
    · simp [mz_w, hN]
    · simp [mz_w, hN]
  · rw [if_neg hi]
    by_cases hN : i < N
    · rw [mz_w_at hN, mz_w_at hN, ho i (fun h => hi h.symm)]
    · simp [mz_w, hN]
theorem mz_w_D {tab : mz_Tab} {N : Nat} {ad en : Nat → Nat} {ca : Nat → ClassId} {t : mz_St} (hJ : mz_J ad N) : va_D (mz_A ad N) (mz_w tab N ad en ca t) := by
  refine ⟨fun i j p q hi hj h => ?_, fun k q hk => ?_⟩
  · obtain ⟨h1, rfl⟩ := mz_w_get hi
    obtain ⟨h2, rfl⟩ := mz_w_get hj
    exact hJ i j h1 h2 h
  · obtain ⟨h1, rfl⟩ := mz_w_get hk
    exact ⟨k, h1, rfl⟩
theorem mz_w_J {tab : mz_Tab} {N : Nat} {ad en : Nat → Nat} {ca : Nat → ClassId} {t : mz_St} {A : Nat → Prop} (h : va_D A (mz_w tab N ad en ca t)) : mz_J ad N := fun i j hi hj e => h.1 i j _ _ (mz_w_at hi) (mz_w_at hj) e
theorem mz_pI_ne {t : mz_St} {k j i : Nat} {v : Int32} (h : i ≠ k) : (mz_pI t k j v).1 i = t.1 i := by
  funext b
  simp [mz_pI, h]
theorem mz_pI_eq {t : mz_St} {k j : Nat} {v : Int32} : (mz_pI t k j v).1 k = upd (t.1 k) j v := by
  funext b
  simp [mz_pI, upd]
theorem mz_pL_ne {t : mz_St} {k j i : Nat} {v : Int64} (h : i ≠ k) : (mz_pL t k j v).2 i = t.2 i := by
  funext b
  simp [mz_pL, h]
theorem mz_pL_eq {t : mz_St} {k j : Nat} {v : Int64} : (mz_pL t k j v).2 k = vp_updL (t.2 k) j v := by
  funext b
  simp [mz_pL, vp_updL]
theorem mz_ce_pI {tab : mz_Tab} {ad en : Nat → Nat} {ca : Nat → ClassId} {t : mz_St} {k j : Nat} {v : Int32} (i : Nat) (h : i ≠ k) : mz_ce tab ad en ca (mz_pI t k j v) i = mz_ce tab ad en ca t i := by
  unfold mz_ce
  rw [mz_pI_ne h]
  rfl
theorem mz_ce_pL {tab : mz_Tab} {ad en : Nat → Nat} {ca : Nat → ClassId} {t : mz_St} {k j : Nat} {v : Int64} (i : Nat) (h : i ≠ k) : mz_ce tab ad en ca (mz_pL t k j v) i = mz_ce tab ad en ca t i := by
  unfold mz_ce
  rw [mz_pL_ne h]
  rfl
theorem mz_ob_at {ad en : Nat → Nat} {ks : List (Nat × Nat)} {f : Nat → Int32} {g : Nat → Int64} {j : Nat} (hj : j < ks.length) : (mz_ob ad en ks f g)[j]? = some (mz_vl ad en (ks.getD j (0, 0)) (f j) (g j)) := by
  simp [mz_ob, hj]
theorem mz_ob_len {ad en : Nat → Nat} {ks : List (Nat × Nat)} {f : Nat → Int32} {g : Nat → Int64} : (mz_ob ad en ks f g).length = ks.length := by
  simp [mz_ob]
theorem mz_ob_setI {ad en : Nat → Nat} {ks : List (Nat × Nat)} {f : Nat → Int32} {g : Nat → Int64} {j : Nat} {v : Int32} : (mz_ob ad en ks f g).set j (mz_vl ad en (ks.getD j (0, 0)) v (g j)) = mz_ob ad en ks (upd f j v) g := by
  apply List.ext_getElem?
  intro i
  rw [List.getElem?_set, mz_ob_len]
  by_cases hi : j = i
  · subst hi
    by_cases hj : j < ks.length
    · rw [if_pos rfl, if_pos hj, mz_ob_at hj]
      simp [upd]
    · simp [mz_ob, hj]
  · rw [if_neg hi]
    by_cases hN : i < ks.length
    · rw [mz_ob_at hN, mz_ob_at hN]
      simp [upd, Ne.symm hi]
    · simp [mz_ob, hN]
theorem mz_ob_setL {ad en : Nat → Nat} {ks : List (Nat × Nat)} {f : Nat → Int32} {g : Nat → Int64} {j : Nat} {v : Int64} : (mz_ob ad en ks f g).set j (mz_vl ad en (ks.getD j (0, 0)) (f j) v) = mz_ob ad en ks f (vp_updL g j v) := by
  apply List.ext_getElem?
  intro i
  rw [List.getElem?_set, mz_ob_len]
  by_cases hi : j = i
  · subst hi
    by_cases hj : j < ks.length
    · rw [if_pos rfl, if_pos hj, mz_ob_at hj]
      simp [vp_updL]
    · simp [mz_ob, hj]
  · rw [if_neg hi]
    by_cases hN : i < ks.length
    · rw [mz_ob_at hN, mz_ob_at hN]
      simp [vp_updL, Ne.symm hi]
    · simp [mz_ob, hN]
/-! options: what a model that has an answer says -/
theorem mz_gd {α : Type} {g : Prop} [Decidable g] {K : Option α} {r : α} (h : (if g then K else none) = some r) : g ∧ K = some r := by
  by_cases hg : g
  · rw [if_pos hg] at h
    exact ⟨hg, h⟩
  · rw [if_neg hg] at h
    cases h
theorem mz_bd {α β : Type} {x : Option α} {K : α → Option β} {r : β} (h : x.bind K = some r) : ∃ q, x = some q ∧ K q = some r := Option.bind_eq_some_iff.mp h
theorem mz_t {α : Type} {g : Prop} [Decidable g] {x y : α} {r : α} (hg : g) (h : (if g then x else y) = r) : x = r := (if_pos hg).symm.trans h
theorem mz_f {α : Type} {g : Prop} [Decidable g] {x y : α} {r : α} (hg : ¬ g) (h : (if g then x else y) = r) : y = r := (if_neg hg).symm.trans h
/-! words at another state -/
def mz_cx (U : State) : Prop := ∀ w ∈ mz_tb, w.before #[] U = true
theorem mz_cx.at {U : State} (h : mz_cx U) (args : Array Value) : ∀ w ∈ mz_tb, w.before args U = true := fun w hw => word_at (State.WarmedH.refl U) (good_of_word (List.mem_filter.mp hw).2) (h w hw)
theorem mz_cx.of {U : State} {args : Array Value} (h : ∀ w ∈ lw_tbl, w.before args U = true) : mz_cx U := fun w hw => word_at (State.WarmedH.refl U) (good_of_word (List.mem_filter.mp hw).2) (h w (List.mem_filter.mp hw).1)
theorem mz_cx.warm {s U : State} (h : mz_cx s) (hW : s.WarmedH U.vm) : mz_cx U := fun w hw => word_at hW (good_of_word (List.mem_filter.mp hw).2) (h w hw)
theorem mz_cx.same {s U : State} (h : mz_cx s) (hv : U.vm = s.vm) : mz_cx U := h.warm (by rw [hv]; exact State.WarmedH.refl s)
