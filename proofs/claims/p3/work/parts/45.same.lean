/-! PURE: both sides find the same name -/
theorem sp_pkA_cg {f g : Nat → Int32} {u q : Nat} : ∀ i, (∀ j, j < i → f (u + j) = g (q + j)) → sp_pkA f u i = sp_pkA g q i := by
  intro i
  induction i with
  | zero => intro _; rfl
  | succ i ih =>
    intro h
    simp only [sp_pkA]
    rw [ih (fun j hj => h j (by omega)), h i (by omega)]
theorem sp_pkB_cg {f g : Nat → Int32} {u q : Nat} : ∀ i, (∀ j, j < i → f (u + j) = g (q + j)) → sp_pkB f u i = sp_pkB g q i := by
  intro i
  induction i with
  | zero => intro _; rfl
  | succ i ih =>
    intro h
    simp only [sp_pkB]
    rw [ih (fun j hj => h j (by omega)), h i (by omega)]
/-- the names of the two sides: the class's lengths ln and signs g, the reference's halves ga, gb -/
def nr_R (ln g : Nat → Int32) (ga gb : Nat → Int64) (cnt : Nat) : Prop :=
  (∀ i, i < cnt → ∃ l, 0 < l ∧ l ≤ 12 ∧ ln i = nI l ∧ sp_sm g (12 * i) l ∧ ga i = sp_pkA g (12 * i) l ∧ gb i = sp_pkB g (12 * i) l) ∧ (∀ i j, i < cnt → j < cnt → ga i = ga j → gb i = gb j → i = j)
theorem sp_sm_cg {f g : Nat → Int32} {u q i : Nat} (h : ∀ j, j < i → f (u + j) = g (q + j)) (hs : sp_sm f u i) : sp_sm g q i := fun j hj => by
  obtain ⟨m, a, b, c⟩ := hs j hj
  exact ⟨m, a, b, by rw [← h j hj]; exact c⟩
theorem nr_match {ln g f : Nat → Int32} {ga gb : Nat → Int64} {cnt u w i : Nat} (h : nr_R ln g ga gb cnt) (hi : i < cnt) (hl : w - u ≤ 12) (hs : sp_sm f u (w - u)) :
    ((decide (ln i = nI (w - u)) && sp_eq g f (w - u) (12 * i) u) = true) ↔ (ga i = sp_pkA f u (w - u) ∧ gb i = sp_pkB f u (w - u)) := by
  obtain ⟨l, l0, l1, e1, e2, e3, e4⟩ := h.1 i hi
  rw [Bool.and_eq_true, decide_eq_true_eq, sp_eq_iff, e1, e3, e4]
  refine ⟨fun q => ?_, fun q => ?_⟩
  · have e : l = w - u := (nI_eq (by omega) (by omega)).mp q.1
    rw [e]
    exact ⟨sp_pkA_cg _ q.2, sp_pkB_cg _ q.2⟩
  · obtain ⟨a, b⟩ := sp_pk_inj l1 hl e2 hs q.1 q.2
    rw [a]
    exact ⟨rfl, fun j hj => b j (by omega)⟩
theorem sp_pm_no {ga gb : Nat → Int64} {A B : Int64} : ∀ m i x, (∀ j, i ≤ j → j < i + m → ¬ (ga j = A ∧ gb j = B)) → sp_pm ga gb A B m i x = x := by
  intro m
  induction m with
  | zero => intro i x _; rfl
  | succ m ih =>
    intro i x h
    simp only [sp_pm]
    rw [if_neg (h i (by omega) (by omega))]
    exact ih (i + 1) x (fun j h1 h2 => h j (by omega) (by omega))
theorem nr_look {ln g f : Nat → Int32} {ga gb : Nat → Int64} {cnt u w : Nat} (h : nr_R ln g ga gb cnt) (hl : w - u ≤ 12) (hs : sp_sm f u (w - u)) :
    ∀ m i, i + m = cnt → sp_ix (sp_nm ln g f u w m i) = sp_pm ga gb (sp_pkA f u (w - u)) (sp_pkB f u (w - u)) m i (-1) := by
  intro m
  induction m with
  | zero => intro i _; rfl
  | succ m ih =>
    intro i hi
    have hm := nr_match h (show i < cnt by omega) hl hs
    simp only [sp_nm, sp_pm]
    by_cases c : ga i = sp_pkA f u (w - u) ∧ gb i = sp_pkB f u (w - u)
    · rw [if_pos (hm.mpr c), if_pos c, sp_pm_no]
      · rfl
      · intro j h1 h2 q
        have := h.2 i j (by omega) (by omega) (by rw [c.1, q.1]) (by rw [c.2, q.2])
        omega
    · rw [if_neg (fun q => c (hm.mp q)), if_neg c]
      exact ih (i + 1) (by omega)
/-- the same word on both sides: one place, or none -/
theorem nr_same {ln g f L : Nat → Int32} {ga gb : Nat → Int64} {cnt u w q : Nat} (h : nr_R ln g ga gb cnt) (hl : w - u ≤ 12) (hs : sp_sm f u (w - u)) (hf : ∀ j, j < w - u → f (u + j) = L (q + j)) :
    sp_ix (sp_nm ln g f u w cnt 0) = sp_pm ga gb (sp_pkA L q (w - u)) (sp_pkB L q (w - u)) cnt 0 (-1) := by
  rw [nr_look h hl hs cnt 0 (by omega), sp_pkA_cg _ hf, sp_pkB_cg _ hf]
/-- what is found is in range -/
theorem sp_nm_lt {ln g f : Nat → Int32} {u w : Nat} : ∀ m i k, sp_nm ln g f u w m i = some k → i ≤ k ∧ k < i + m := by
  intro m
  induction m with
  | zero => intro i k h; exact nomatch h
  | succ m ih =>
    intro i k h
    simp only [sp_nm] at h
    split at h
    · have := Option.some.inj h; omega
    · have := ih (i + 1) k h; omega
/-- words: their signs are small -/
theorem sp_run_sm {f : Nat → Int32} : ∀ m a, ∀ j, a ≤ j → j < sp_run f m a → sp_w (f j) = true := by
  intro m
  induction m with
  | zero => intro a j h1 h2; exact absurd h2 (by unfold sp_run; omega)
  | succ m ih =>
    intro a j h1 h2
    simp only [sp_run] at h2
    by_cases hw : sp_w (f a) = true
    · rw [if_pos hw] at h2
      by_cases hj : j = a
      · rw [hj]; exact hw
      · exact ih (a + 1) j (by omega) h2
    · rw [if_neg hw] at h2
      omega
theorem sp_we_sm {f : Nat → Int32} {m a : Nat} : sp_sm f a (sp_we f m a - a) := by
  intro j hj
  cases m with
  | zero => exact absurd hj (by show ¬ j < a - a; omega)
  | succ m =>
    have e : sp_we f (m + 1) a = if sp_b (f a) = true then sp_run f m (a + 1) else a := rfl
    rw [e] at hj
    by_cases hb : sp_b (f a) = true
    · rw [if_pos hb] at hj
      refine sp_w_n ?_
      by_cases h0 : j = 0
      · rw [h0]
        show sp_w (f a) = true
        unfold sp_w
        rw [hb]
        rfl
      · exact sp_run_sm m (a + 1) (a + j) (by omega) (by omega)
    · rw [if_neg hb] at hj
      omega
/-- the same line at another place: words, blanks -/
theorem sp_bl_cg {f L : Nat → Int32} {d : Nat} : ∀ m q, (∀ j, q ≤ j → j < q + m → f (d + j) = L j) → sp_bl f m (d + q) = d + sp_bl L m q := by
  intro m
  induction m with
  | zero => intro q _; rfl
  | succ m ih =>
    intro q h
    simp only [sp_bl]
    rw [h q (by omega) (by omega)]
    by_cases c : L q = 32
    · rw [if_pos c, if_pos c, show d + q + 1 = d + (q + 1) by omega]
      exact ih (q + 1) (fun j h1 h2 => h j (by omega) (by omega))
    · rw [if_neg c, if_neg c]
theorem sp_run_cg {f L : Nat → Int32} {d : Nat} : ∀ m q, (∀ j, q ≤ j → j < q + m → f (d + j) = L j) → sp_run f m (d + q) = d + sp_run L m q := by
  intro m
  induction m with
  | zero => intro q _; rfl
  | succ m ih =>
    intro q h
    simp only [sp_run]
    rw [h q (by omega) (by omega)]
    by_cases c : sp_w (L q) = true
    · rw [if_pos c, if_pos c, show d + q + 1 = d + (q + 1) by omega]
      exact ih (q + 1) (fun j h1 h2 => h j (by omega) (by omega))
    · rw [if_neg c, if_neg c]
theorem sp_we_cg {f L : Nat → Int32} {d : Nat} : ∀ m q, (∀ j, q ≤ j → j < q + m → f (d + j) = L j) → sp_we f m (d + q) = d + sp_we L m q := by
  intro m q h
  cases m with
  | zero => rfl
  | succ m =>
    show (if sp_b (f (d + q)) = true then sp_run f m (d + q + 1) else d + q) = d + (if sp_b (L q) = true then sp_run L m (q + 1) else q)
    rw [h q (by omega) (by omega)]
    by_cases c : sp_b (L q) = true
    · rw [if_pos c, if_pos c, show d + q + 1 = d + (q + 1) by omega]
      exact sp_run_cg m (q + 1) (fun j h1 h2 => h j (by omega) (by omega))
    · rw [if_neg c, if_neg c]
theorem sp_find_cg {f L : Nat → Int32} {d : Nat} {c : Int32} : ∀ m q, (∀ j, q ≤ j → j < q + m → f (d + j) = L j) → sp_find f c m (d + q) = d + sp_find L c m q := by
  intro m
  induction m with
  | zero => intro q _; rfl
  | succ m ih =>
    intro q h
    simp only [sp_find]
    rw [h q (by omega) (by omega)]
    by_cases e : L q = c
    · rw [if_pos e, if_pos e]
    · rw [if_neg e, if_neg e, show d + q + 1 = d + (q + 1) by omega]
      exact ih (q + 1) (fun j h1 h2 => h j (by omega) (by omega))
