/-! PURE: values. An answer: the number, the first fault met so far (0 none), the place behind; none: not as it must be -/
abbrev sp_A : Type := Option (Int32 × Int32 × Nat)
def sp_meet (m k : Int32) : Int32 := if m = 0 then k else m
/-- digits from a on -/
def sp_dr (L : Nat → Int32) : Nat → Nat → Nat
  | 0, a => a
  | m + 1, a => if sp_d (L a) = true then sp_dr L m (a + 1) else a
/-- what m digits from q on make of v -/
def sp_dv (L : Nat → Int32) : Nat → Nat → Int32 → Int32
  | 0, _, v => v
  | m + 1, q, v => sp_dv L m (q + 1) (v * 10 + (L q - 48))
def sp_num (L : Nat → Int32) (e : Nat) (m : Int32) (q : Nat) : sp_A :=
  if sp_b (sp_at L e (sp_dr L (e - q) q)) = true then none else if sp_dr L (e - q) q - q ≤ 9 then some (sp_dv L (sp_dr L (e - q) q - q) q 0, m, sp_dr L (e - q) q) else none
/-- a product's tail -/
def sp_prT (L : Nat → Int32) (e : Nat) (fac : Int32 → Nat → sp_A) : Nat → Int32 → Int32 → Nat → sp_A
  | 0, v, m, q => some (v, m, sp_nb L q e)
  | k + 1, v, m, q =>
    if sp_at L e (sp_nb L q e) = 42 then (fac m (sp_nb L q e + 1)).bind fun r => sp_prT L e fac k (v * r.1) r.2.1 r.2.2
    else if sp_at L e (sp_nb L q e) = 47 then (fac m (sp_nb L q e + 1)).bind fun r => if r.1 = 0 then sp_prT L e fac k 0 (sp_meet r.2.1 4) r.2.2 else sp_prT L e fac k (v / r.1) r.2.1 r.2.2
    else if sp_at L e (sp_nb L q e) = 37 then (fac m (sp_nb L q e + 1)).bind fun r => if r.1 = 0 then sp_prT L e fac k 0 (sp_meet r.2.1 4) r.2.2 else sp_prT L e fac k (v - v / r.1 * r.1) r.2.1 r.2.2
    else some (v, m, sp_nb L q e)
def sp_pr (L : Nat → Int32) (e : Nat) (fac : Int32 → Nat → sp_A) (m : Int32) (q : Nat) : sp_A := (fac m q).bind fun r => sp_prT L e fac (e + 1) r.1 r.2.1 r.2.2
/-- a sum's tail -/
def sp_suT (L : Nat → Int32) (e : Nat) (pr : Int32 → Nat → sp_A) : Nat → Int32 → Int32 → Nat → sp_A
  | 0, v, m, q => some (v, m, sp_nb L q e)
  | k + 1, v, m, q =>
    if sp_at L e (sp_nb L q e) = 43 then (pr m (sp_nb L q e + 1)).bind fun r => sp_suT L e pr k (v + r.1) r.2.1 r.2.2
    else if sp_at L e (sp_nb L q e) = 45 then (pr m (sp_nb L q e + 1)).bind fun r => sp_suT L e pr k (v - r.1) r.2.1 r.2.2
    else some (v, m, sp_nb L q e)
def sp_su (L : Nat → Int32) (e : Nat) (fac : Int32 → Nat → sp_A) (m : Int32) (q : Nat) : sp_A := (sp_pr L e fac m q).bind fun r => sp_suT L e (sp_pr L e fac) (e + 1) r.1 r.2.1 r.2.2
/-- which comparison stands at q: 1 ==, 2 !=, 3 <, 4 <=, 0 none -/
def sp_cm (L : Nat → Int32) (e q : Nat) : Nat :=
  if sp_at L e q = 61 ∧ sp_at L e (q + 1) = 61 then 1 else if sp_at L e q = 33 ∧ sp_at L e (q + 1) = 61 then 2 else if sp_at L e q = 60 then (if sp_at L e (q + 1) = 61 then 4 else 3) else 0
def sp_is (w : Nat) (a b : Int32) : Bool := if w = 1 then decide (a = b) else if w = 2 then decide (a ≠ b) else if w = 3 then decide (a < b) else decide (a ≤ b)
def sp_va (L : Nat → Int32) (e : Nat) (fac : Int32 → Nat → sp_A) (m : Int32) (q : Nat) : sp_A := (sp_su L e fac m q).bind fun r =>
  if sp_cm L e (sp_nb L r.2.2 e) = 0 then some (r.1, r.2.1, sp_nb L r.2.2 e)
  else (sp_su L e fac r.2.1 (sp_nb L r.2.2 e + (if sp_cm L e (sp_nb L r.2.2 e) = 3 then 1 else 2))).bind fun z => some (sp_bi (sp_is (sp_cm L e (sp_nb L r.2.2 e)) r.1 z.1), z.2.1, z.2.2)
/-- a word at q or behind blanks: asked for (?), or its number -/
def sp_wo (L : Nat → Int32) (e : Nat) (lv : Nat → Nat → Option Int32) (ask : Bool) (m : Int32) (q : Nat) : sp_A :=
  if sp_nb L q e < sp_we L (e - sp_nb L q e) (sp_nb L q e) ∧ sp_we L (e - sp_nb L q e) (sp_nb L q e) - sp_nb L q e ≤ 12 then (match lv (sp_nb L q e) (sp_we L (e - sp_nb L q e) (sp_nb L q e)) with
    | some x => some (if ask = true then 1 else x, m, sp_we L (e - sp_nb L q e) (sp_nb L q e))
    | none => some (0, if ask = true then m else sp_meet m 3, sp_we L (e - sp_nb L q e) (sp_nb L q e)))
  else none
/-- a factor, over what may stand within it (none: nothing more may be opened); lv: a word's number, if it is a constant -/
def sp_faG (L : Nat → Int32) (e : Nat) (lv : Nat → Nat → Option Int32) (sub : Option (Int32 → Nat → sp_A)) (m : Int32) (q : Nat) : sp_A :=
  if sp_at L e (sp_nb L q e) = 45 then (match sub with
    | none => none
    | some fac => (fac m (sp_nb L q e + 1)).bind fun r => some (-r.1, r.2.1, r.2.2))
  else if sp_at L e (sp_nb L q e) = 40 then (match sub with
    | none => none
    | some fac => (sp_va L e fac m (sp_nb L q e + 1)).bind fun r => if sp_at L e (sp_nb L r.2.2 e) = 41 then some (r.1, r.2.1, sp_nb L r.2.2 e + 1) else none)
  else if sp_d (sp_at L e (sp_nb L q e)) = true then sp_num L e m (sp_nb L q e)
  else if sp_at L e (sp_nb L q e) = 63 then sp_wo L e lv true m (sp_nb L q e + 1)
  else sp_wo L e lv false m (sp_nb L q e)
def sp_fa (L : Nat → Int32) (e : Nat) (lv : Nat → Nat → Option Int32) : Nat → Int32 → Nat → sp_A
  | 0 => sp_faG L e lv none
  | d + 1 => sp_faG L e lv (some (sp_fa L e lv d))
theorem sp_dr_le (L : Nat → Int32) : ∀ m a, a ≤ sp_dr L m a ∧ sp_dr L m a ≤ a + m := by
  intro m
  induction m with
  | zero => intro a; exact ⟨Nat.le_refl _, Nat.le_refl _⟩
  | succ m ih =>
    intro a
    simp only [sp_dr]
    split
    · have := ih (a + 1); omega
    · omega
theorem sp_dr_stop (L : Nat → Int32) : ∀ m a, sp_dr L m a < a + m → sp_d (L (sp_dr L m a)) = false := by
  intro m
  induction m with
  | zero => intro a h; exact absurd h (by show ¬ a < a + 0; omega)
  | succ m ih =>
    intro a h
    simp only [sp_dr] at h ⊢
    cases hd : sp_d (L a)
    · rw [hd] at h
      simp only [Bool.false_eq_true, if_false]
      exact hd
    · rw [hd] at h
      simp only [if_true] at h ⊢
      exact ih (a + 1) (by omega)
/-! the class's reader works on the line that stands at d .. d + e in row 2: only fields 2, 4, 5, 6, 7 of cell 6 change -/
def cv_F (t t' : mz_St) : Prop := (∀ k j, ¬ (k = 6 ∧ (j = 2 ∨ j = 4 ∨ j = 5 ∨ j = 6 ∨ j = 7)) → mz_gI t' k j = mz_gI t k j) ∧ t'.2 = t.2
theorem cv_F.rf (t : mz_St) : cv_F t t := ⟨fun _ _ _ => rfl, rfl⟩
theorem cv_F.tr {a b c : mz_St} (h1 : cv_F a b) (h2 : cv_F b c) : cv_F a c := ⟨fun k j h => (h2.1 k j h).trans (h1.1 k j h), h2.2.trans h1.2⟩
theorem cv_F.put {t t' : mz_St} (h : cv_F t t') {j : Nat} (v : Int32) (hj : j = 2 ∨ j = 4 ∨ j = 5 ∨ j = 6 ∨ j = 7) : cv_F t (mz_pI t' 6 j v) := by
  refine ⟨fun k i hk => ?_, h.2⟩
  rw [gI_pI, if_neg (fun q => hk ⟨q.1, by rw [q.2]; exact hj⟩)]
  exact h.1 k i hk
theorem cv_F.row {t t' : mz_St} (h : cv_F t t') {k : Nat} (hk : k ≠ 6) : mz_gI t' k = mz_gI t k := by
  funext j
  exact h.1 k j (fun q => hk q.1)
