/-! PURE: the same lines on both sides -/
theorem sp_find_cg0 {f g : Nat → Int32} {c : Int32} : ∀ m q, (∀ j, q ≤ j → j < q + m → f j = g j) → sp_find f c m q = sp_find g c m q := by
  intro m
  induction m with
  | zero => intro q _; rfl
  | succ m ih =>
    intro q h
    unfold sp_find
    rw [h q (by omega) (by omega), ih (q + 1) (fun j h1 h2 => h j (by omega) (by omega))]
theorem sp_bl_cg0 {f g : Nat → Int32} : ∀ m q, (∀ j, q ≤ j → j < q + m → f j = g j) → sp_bl f m q = sp_bl g m q := by
  intro m
  induction m with
  | zero => intro q _; rfl
  | succ m ih =>
    intro q h
    unfold sp_bl
    rw [h q (by omega) (by omega), ih (q + 1) (fun j h1 h2 => h j (by omega) (by omega))]
theorem sp_tr_cg0 {f g : Nat → Int32} : ∀ m b, m ≤ b → (∀ j, b - m ≤ j → j < b → f j = g j) → sp_tr f m b = sp_tr g m b := by
  intro m
  induction m with
  | zero => intro b _ _; rfl
  | succ m ih =>
    intro b hb h
    unfold sp_tr
    rw [h (b - 1) (by omega) (by omega), ih (b - 1) (by omega) (fun j h1 h2 => h j (by omega) (by omega))]
theorem fl_cg {f g : Nat → Int32} {a b : Nat} (hab : a ≤ b) (h : ∀ j, a ≤ j → j < b → f j = g j) : fl_p f a b = fl_p g a b ∧ fl_e f a b = fl_e g a b := by
  have h1 : fl_s f a b = fl_s g a b := sp_find_cg0 (b - a) a (fun j q1 q2 => h j q1 (by omega))
  obtain ⟨k1, k2, k3, k4⟩ := fl_in g hab
  have h2 : fl_p f a b = fl_p g a b := by
    unfold fl_p
    rw [h1]
    exact sp_bl_cg0 _ a (fun j q1 q2 => h j q1 (by omega))
  refine ⟨h2, ?_⟩
  unfold fl_e
  rw [h1, h2]
  exact sp_tr_cg0 _ _ (by omega) (fun j q1 q2 => h j (by omega) (by omega))
/-- c lines alike on both sides, within len signs -/
def Lp (tC tM : mz_St) (len c : Nat) : Prop := mz_gI tC 1 4 = nI c ∧ mz_gI tM 0 3 = nI c ∧ ∀ i, i < c → ∃ p e, p ≤ e ∧ e ≤ len ∧ mz_gI tC 3 i = nI p ∧ mz_gI tC 4 i = nI e ∧ mz_gI tM 2 i = nI p ∧ mz_gI tM 3 i = nI e
theorem fl_w_0 {k1 k2 kc jc c p e : Nat} {t : mz_St} {k j : Nat} (h1 : ¬ (k = k1 ∧ j = c)) (h2 : ¬ (k = k2 ∧ j = c)) (h3 : ¬ (k = kc ∧ j = jc)) : mz_gI (fl_w k1 k2 kc jc c p e t) k j = mz_gI t k j := by
  unfold fl_w
  rw [gI_pI, if_neg h3, gI_pI, if_neg h2, gI_pI, if_neg h1]
theorem Lp_w {tC tM : mz_St} {len c p e : Nat} (h : Lp tC tM len c) (hpe : p ≤ e) (he : e ≤ len) : Lp (fl_w 3 4 1 4 c p e tC) (fl_w 2 3 0 3 c p e tM) len (c + 1) := by
  refine ⟨rfl, rfl, fun i hi => ?_⟩
  by_cases hc : i = c
  · subst hc
    refine ⟨p, e, hpe, he, ?_, ?_, ?_, ?_⟩
    · unfold fl_w; simp [gI_pI]
    · unfold fl_w; simp [gI_pI]
    · unfold fl_w; simp [gI_pI]
    · unfold fl_w; simp [gI_pI]
  · obtain ⟨p', e', a1, a2, a3, a4, a5, a6⟩ := h.2.2 i (by omega)
    have z : ∀ k1 k : Nat, ¬ (k = k1 ∧ i = c) := fun _ _ q => hc q.2
    refine ⟨p', e', a1, a2, ?_, ?_, ?_, ?_⟩
    · rw [fl_w_0 (z _ _) (z _ _) (fun q => absurd q.1 (by decide))]; exact a3
    · rw [fl_w_0 (z _ _) (z _ _) (fun q => absurd q.1 (by decide))]; exact a4
    · rw [fl_w_0 (z _ _) (z _ _) (fun q => absurd q.1 (by decide))]; exact a5
    · rw [fl_w_0 (z _ _) (z _ _) (fun q => absurd q.1 (by decide))]; exact a6
theorem Lp_go {f g : Nat → Int32} {len : Nat} (hfg : ∀ j, j < len → f j = g j) : ∀ m a x c tC tM, m = len + 1 - x → x ≤ len + 1 → a ≤ x → c ≤ a → Lp tC tM len c →
    ∃ c', c ≤ c' ∧ c' ≤ len + 1 ∧ (0 < m → c < c') ∧ Lp (fl_go 3 4 1 4 f len m a x c tC) (fl_go 2 3 0 3 g len m a x c tM) len c' := by
  intro m
  induction m with
  | zero => intro a x c tC tM hm hx ha hc h; exact ⟨c, Nat.le_refl _, by omega, fun q => absurd q (Nat.lt_irrefl 0), h⟩
  | succ m ih =>
    intro a x c tC tM hm hx ha hc h
    unfold fl_go
    have hx' : x ≤ len := by omega
    obtain ⟨q1, q2⟩ := fl_cg (f := f) (g := g) ha (fun j _ h2 => hfg j (by omega))
    obtain ⟨k1, k2, k3, k4⟩ := fl_in g ha
    have hcond : (x = len ∨ f x = 10) ↔ (x = len ∨ g x = 10) := by
      by_cases he : x = len
      · simp [he]
      · rw [hfg x (by omega)]
    by_cases hz : x = len ∨ f x = 10
    · rw [if_pos hz, if_pos (hcond.mp hz), q1, q2]
      obtain ⟨c', b1, b2, -, b4⟩ := ih (x + 1) (x + 1) (c + 1) _ _ (by omega) (by omega) (by omega) (by omega) (Lp_w h k2 (by omega))
      exact ⟨c', by omega, b2, fun _ => by omega, b4⟩
    · rw [if_neg hz, if_neg (fun q => hz (hcond.mpr q))]
      have hne : ¬ x = len := fun q => hz (Or.inl q)
      obtain ⟨c', b1, b2, b3, b4⟩ := ih a (x + 1) c tC tM (by omega) (by omega) (by omega) hc h
      exact ⟨c', b1, b2, fun _ => b3 (by omega), b4⟩
theorem fl_go_keep {k1 k2 kc jc len : Nat} {f : Nat → Int32} {k j : Nat} (h1 : ¬ k = k1) (h2 : ¬ k = k2) (h3 : ¬ (k = kc ∧ j = jc)) : ∀ m a x c t, mz_gI (fl_go k1 k2 kc jc f len m a x c t) k j = mz_gI t k j := by
  intro m
  induction m with
  | zero => intro a x c t; rfl
  | succ m ih =>
    intro a x c t
    unfold fl_go
    split
    · rw [ih, fl_w_0 (fun q => h1 q.1) (fun q => h2 q.1) h3]
    · exact ih _ _ _ _
theorem fl_go_keepL {k1 k2 kc jc len : Nat} {f : Nat → Int32} {k j : Nat} : ∀ m a x c t, mz_gL (fl_go k1 k2 kc jc f len m a x c t) k j = mz_gL t k j := by
  intro m
  induction m with
  | zero => intro a x c t; rfl
  | succ m ih =>
    intro a x c t
    unfold fl_go
    split
    · rw [ih]
      rfl
    · exact ih _ _ _ _
/-- both sides part the text alike; nothing else changes -/
theorem Lp_lines {n len : Nat} {tC tM : mz_St} (hn : 10000 ≤ n) (h : Tx tC tM len) : ∃ a b c, f_SI_partIntoLines n tC = some a ∧ f_MO_findLines n tM = some b ∧ 0 < c ∧ c ≤ 3001 ∧ Lp a b len c ∧ Tx a b len ∧
    (∀ k j, ¬ k = 3 → ¬ k = 4 → ¬ (k = 1 ∧ j = 4) → mz_gI a k j = mz_gI tC k j) ∧ (∀ k j, mz_gL a k j = mz_gL tC k j) ∧
    (∀ k j, ¬ k = 2 → ¬ k = 3 → ¬ (k = 0 ∧ j = 3) → mz_gI b k j = mz_gI tM k j) ∧ (∀ k j, mz_gL b k j = mz_gL tM k j) := by
  have hl := h.2.2.1
  obtain ⟨c, -, b2, b3, b4⟩ := Lp_go (f := mz_gI tC 2) (g := mz_gI tM 1) (len := len) (fun j hj => (h.2.2.2 j hj).1) (len + 1) 0 0 0 (mz_pI tC 1 4 0) (mz_pI tM 0 3 0) (by omega) (by omega) (by omega) (by omega) ⟨rfl, rfl, fun i hi => absurd hi (Nat.not_lt_zero i)⟩
  have kC : ∀ k j, ¬ k = 3 → ¬ k = 4 → ¬ (k = 1 ∧ j = 4) → mz_gI (fl_go 3 4 1 4 (mz_gI tC 2) len (len + 1) 0 0 0 (mz_pI tC 1 4 0)) k j = mz_gI tC k j := fun k j h1 h2 h3 => by
    rw [fl_go_keep h1 h2 h3, gI_pI, if_neg h3]
  have kM : ∀ k j, ¬ k = 2 → ¬ k = 3 → ¬ (k = 0 ∧ j = 3) → mz_gI (fl_go 2 3 0 3 (mz_gI tM 1) len (len + 1) 0 0 0 (mz_pI tM 0 3 0)) k j = mz_gI tM k j := fun k j h1 h2 h3 => by
    rw [fl_go_keep h1 h2 h3, gI_pI, if_neg h3]
  refine ⟨_, _, c, fl_class hn hl h.1, fl_ref hn hl h.2.1, b3 (by omega), by omega, b4, ⟨?_, ?_, hl, fun i hi => ?_⟩, kC, fun k j => fl_go_keepL _ _ _ _ _, kM, fun k j => fl_go_keepL _ _ _ _ _⟩
  · rw [kC 1 3 (by decide) (by decide) (by decide)]; exact h.1
  · rw [kM 0 2 (by decide) (by decide) (by decide)]; exact h.2.1
  · rw [kC 2 i (by decide) (by decide) (by simp), kM 1 i (by decide) (by decide) (by simp)]
    exact h.2.2.2 i hi
