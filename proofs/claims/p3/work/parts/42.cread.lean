/-! PURE: the class's reader stands at a of a line that ends at b -/
def cr_R (t : mz_St) (a b : Nat) : Prop := mz_gI t 6 2 = nI a ∧ mz_gI t 6 3 = nI b ∧ a ≤ b ∧ b ≤ 6600
theorem cr_R.to {t : mz_St} {a b a' : Nat} (h : cr_R t a b) (ha : a' ≤ b) : cr_R (mz_pI t 6 2 (nI a')) a' b := ⟨rfl, h.2.1, ha, h.2.2.2⟩
/-- behind blanks -/
def sp_nb (f : Nat → Int32) (a b : Nat) : Nat := sp_bl f (b - a) a
theorem sp_nb_le (f : Nat → Int32) {a b : Nat} (h : a ≤ b) : a ≤ sp_nb f a b ∧ sp_nb f a b ≤ b := by
  have := sp_bl_le f (b - a) a
  unfold sp_nb
  omega
theorem sp_nb_not (f : Nat → Int32) : ∀ m a, sp_bl f m a < a + m → f (sp_bl f m a) ≠ 32 := by
  intro m
  induction m with
  | zero => intro a h; exact absurd h (by unfold sp_bl; omega)
  | succ m ih =>
    intro a h
    simp only [sp_bl] at h ⊢
    by_cases hc : f a = 32
    · rw [if_pos hc] at h ⊢
      exact ih (a + 1) (by omega)
    · rw [if_neg hc]
      exact hc
theorem cr_next {n a b : Nat} {t : mz_St} (hn : 10000 ≤ n) (h : cr_R t a b) : f_RE_next n t = some (sp_at (mz_gI t 2) b (sp_nb (mz_gI t 2) a b), mz_pI t 6 2 (nI (sp_nb (mz_gI t 2) a b))) := by
  obtain ⟨h1, h2, h3, h4⟩ := h
  have hle := sp_nb_le (mz_gI t 2) h3
  unfold f_RE_next mz_let
  rw [h1, h2, ev_behind hn h4 h3]
  simp only [Option.bind_some, gI_pI]
  change (if mz_gI t 6 3 ≤ nI (sp_nb (mz_gI t 2) a b) then some ((-1 : Int32), mz_pI t 6 2 (nI (sp_nb (mz_gI t 2) a b))) else (f_SI_at n (nI (sp_nb (mz_gI t 2) a b)) (mz_pI t 6 2 (nI (sp_nb (mz_gI t 2) a b)))).bind fun q5 => some (q5.1, q5.2)) = _
  rw [h2]
  unfold sp_at
  by_cases hlt : sp_nb (mz_gI t 2) a b < b
  · rw [if_neg (nI_ge hlt (by omega)), ev_at (by omega), if_pos hlt]
    rfl
  · rw [if_pos (nI_le (by omega) (by omega)), if_neg hlt]
theorem cr_take {n a b : Nat} {t : mz_St} {c : Int32} (hn : 10000 ≤ n) (h : cr_R t a b) (hc : c ≠ -1) : f_RE_take n c t = some (if sp_at (mz_gI t 2) b (sp_nb (mz_gI t 2) a b) = c then ((1 : Int32), mz_pI t 6 2 (nI (sp_nb (mz_gI t 2) a b + 1))) else ((0 : Int32), mz_pI t 6 2 (nI (sp_nb (mz_gI t 2) a b)))) := by
  obtain ⟨h1, h2, h3, h4⟩ := h
  have hle := sp_nb_le (mz_gI t 2) h3
  unfold f_RE_take mz_let
  rw [h1, h2, ev_behind hn h4 h3]
  simp only [Option.bind_some]
  change (if mz_gI t 6 3 ≤ nI (sp_nb (mz_gI t 2) a b) then some ((0 : Int32), mz_pI t 6 2 (nI (sp_nb (mz_gI t 2) a b))) else (f_SI_at n (nI (sp_nb (mz_gI t 2) a b)) (mz_pI t 6 2 (nI (sp_nb (mz_gI t 2) a b)))).bind fun q5 => if q5.1 = c then some ((1 : Int32), mz_pI q5.2 6 2 (mz_gI q5.2 6 2 + (1 : Int32))) else some ((0 : Int32), q5.2)) = _
  rw [h2]
  unfold sp_at
  by_cases hlt : sp_nb (mz_gI t 2) a b < b
  · rw [if_neg (nI_ge hlt (by omega)), ev_at (by omega), if_pos hlt]
    simp only [Option.bind_some]
    change (if mz_gI t 2 (sp_nb (mz_gI t 2) a b) = c then some ((1 : Int32), mz_pI (mz_pI t 6 2 (nI (sp_nb (mz_gI t 2) a b))) 6 2 (nI (sp_nb (mz_gI t 2) a b) + (1 : Int32))) else some ((0 : Int32), mz_pI t 6 2 (nI (sp_nb (mz_gI t 2) a b)))) = _
    rw [pI_pI, show nI (sp_nb (mz_gI t 2) a b) + (1 : Int32) = nI (sp_nb (mz_gI t 2) a b + 1) from nI_1 _]
    by_cases he : mz_gI t 2 (sp_nb (mz_gI t 2) a b) = c
    · rw [if_pos he, if_pos he]
    · rw [if_neg he, if_neg he]
  · rw [if_pos (nI_le (by omega) (by omega)), if_neg hlt, if_neg (fun q => hc q.symm)]
theorem cr_isDone {n a b : Nat} {t : mz_St} (hn : 10000 ≤ n) (h : cr_R t a b) : f_RE_isDone n t = some (sp_bi (decide (sp_at (mz_gI t 2) b (sp_nb (mz_gI t 2) a b) = -1)), mz_pI t 6 2 (nI (sp_nb (mz_gI t 2) a b))) := by
  unfold f_RE_isDone sp_bi
  rw [cr_next hn h]
  simp only [Option.bind_some]
  by_cases hc : sp_at (mz_gI t 2) b (sp_nb (mz_gI t 2) a b) = -1
  · simp [hc]
  · simp [hc]
/-- a word: from and to, and whether it is one -/
def cr_st (t : mz_St) (u w : Nat) : mz_St := mz_pI (mz_pI (mz_pI t 6 4 (nI u)) 6 5 (nI w)) 6 2 (nI w)
theorem cr_takeWord {n a b : Nat} {t : mz_St} (hn : 10000 ≤ n) (h : cr_R t a b) :
    f_RE_takeWord n t = some (sp_bi (decide (sp_nb (mz_gI t 2) a b < sp_we (mz_gI t 2) (b - sp_nb (mz_gI t 2) a b) (sp_nb (mz_gI t 2) a b)) && decide (sp_we (mz_gI t 2) (b - sp_nb (mz_gI t 2) a b) (sp_nb (mz_gI t 2) a b) - sp_nb (mz_gI t 2) a b ≤ 12)), cr_st t (sp_nb (mz_gI t 2) a b) (sp_we (mz_gI t 2) (b - sp_nb (mz_gI t 2) a b) (sp_nb (mz_gI t 2) a b))) := by
  obtain ⟨h1, h2, h3, h4⟩ := h
  have hle := sp_nb_le (mz_gI t 2) h3
  have hwe := sp_we_le (mz_gI t 2) (b - sp_nb (mz_gI t 2) a b) (sp_nb (mz_gI t 2) a b)
  unfold f_RE_takeWord mz_let
  rw [h1, h2, ev_behind hn h4 h3]
  simp only [Option.bind_some]
  change (f_SI_wordEnd n (nI (sp_nb (mz_gI t 2) a b)) (mz_gI t 6 3) (mz_pI (mz_pI t 6 2 (nI (sp_nb (mz_gI t 2) a b))) 6 4 (nI (sp_nb (mz_gI t 2) a b)))).bind _ = _
  rw [h2, ev_we hn h4 hle.2]
  simp only [Option.bind_some]
  change (if nI (sp_we (mz_gI t 2) (b - sp_nb (mz_gI t 2) a b) (sp_nb (mz_gI t 2) a b)) ≤ nI (sp_nb (mz_gI t 2) a b) then some ((0 : Int32), mz_pI (mz_pI (mz_pI (mz_pI t 6 2 (nI (sp_nb (mz_gI t 2) a b))) 6 4 (nI (sp_nb (mz_gI t 2) a b))) 6 5 (nI (sp_we (mz_gI t 2) (b - sp_nb (mz_gI t 2) a b) (sp_nb (mz_gI t 2) a b)))) 6 2 (nI (sp_we (mz_gI t 2) (b - sp_nb (mz_gI t 2) a b) (sp_nb (mz_gI t 2) a b)))) else (if (12 : Int32) < nI (sp_we (mz_gI t 2) (b - sp_nb (mz_gI t 2) a b) (sp_nb (mz_gI t 2) a b)) - nI (sp_nb (mz_gI t 2) a b) then some ((0 : Int32), mz_pI (mz_pI (mz_pI (mz_pI t 6 2 (nI (sp_nb (mz_gI t 2) a b))) 6 4 (nI (sp_nb (mz_gI t 2) a b))) 6 5 (nI (sp_we (mz_gI t 2) (b - sp_nb (mz_gI t 2) a b) (sp_nb (mz_gI t 2) a b)))) 6 2 (nI (sp_we (mz_gI t 2) (b - sp_nb (mz_gI t 2) a b) (sp_nb (mz_gI t 2) a b)))) else some ((1 : Int32), mz_pI (mz_pI (mz_pI (mz_pI t 6 2 (nI (sp_nb (mz_gI t 2) a b))) 6 4 (nI (sp_nb (mz_gI t 2) a b))) 6 5 (nI (sp_we (mz_gI t 2) (b - sp_nb (mz_gI t 2) a b) (sp_nb (mz_gI t 2) a b)))) 6 2 (nI (sp_we (mz_gI t 2) (b - sp_nb (mz_gI t 2) a b) (sp_nb (mz_gI t 2) a b)))))) = _
  generalize hu : sp_nb (mz_gI t 2) a b = u at *
  generalize hw : sp_we (mz_gI t 2) (b - u) u = w at *
  have est : mz_pI (mz_pI (mz_pI (mz_pI t 6 2 (nI u)) 6 4 (nI u)) 6 5 (nI w)) 6 2 (nI w) = cr_st t u w := by
    unfold cr_st
    rw [pI_comm t (nI u) (nI u) (by decide : ¬ ((6 : Nat) = 6 ∧ (2 : Nat) = 4)), pI_comm _ (nI u) (nI w) (by decide : ¬ ((6 : Nat) = 6 ∧ (2 : Nat) = 5)), pI_pI]
  rw [est]
  unfold sp_bi
  by_cases c1 : w ≤ u
  · rw [if_pos (nI_le c1 (by omega))]
    simp [show ¬ u < w by omega]
  · rw [if_neg (nI_ge (by omega) (by omega)), pz_sub (by omega)]
    by_cases c2 : w - u ≤ 12
    · rw [if_neg (show ¬ (12 : Int32) < nI (w - u) from nI_nlt (a := 12) c2 (by decide))]
      simp [show u < w by omega, c2]
    · rw [if_pos (show (12 : Int32) < nI (w - u) from nI_lt (a := 12) (by omega) (by omega))]
      simp [c2]
/-! the reference's reader, on: a word, a sign, the line's end -/
def mr_O (t : mz_St) (o : Bool) : Prop := mz_gI t 0 62 = sp_bi o
theorem sp_bi01 (b : Bool) : sp_bi b = 0 ∨ sp_bi b = 1 := by cases b; exact Or.inl rfl; exact Or.inr rfl
theorem mr_st_p {t : mz_St} {q : Nat} {x : Int32} {A B : Int64} : mr_st (mz_pI t 0 61 x) q A B = mr_st t q A B := by
  show mz_pI (mz_pI (mz_pL (mz_pL t 0 65 A) 0 66 B) 0 61 x) 0 61 (nI q) = _
  rw [pI_pI]
  rfl
theorem mr_word {n e q : Nat} {t : mz_St} {o : Bool} (hn : 10000 ≤ n) (h : mr_R t e q) (ho : mr_O t o) (hq : q ≤ e) :
    f_MO_word n t = some (mz_pI (mr_st t (sp_we (mz_gI t 43) (e - sp_nb (mz_gI t 43) q e) (sp_nb (mz_gI t 43) q e)) (sp_pkA (mz_gI t 43) (sp_nb (mz_gI t 43) q e) (sp_we (mz_gI t 43) (e - sp_nb (mz_gI t 43) q e) (sp_nb (mz_gI t 43) q e) - sp_nb (mz_gI t 43) q e)) (sp_pkB (mz_gI t 43) (sp_nb (mz_gI t 43) q e) (sp_we (mz_gI t 43) (e - sp_nb (mz_gI t 43) q e) (sp_nb (mz_gI t 43) q e) - sp_nb (mz_gI t 43) q e))) 0 62 (sp_bi (o && (decide (sp_nb (mz_gI t 43) q e < sp_we (mz_gI t 43) (e - sp_nb (mz_gI t 43) q e) (sp_nb (mz_gI t 43) q e)) && decide (sp_we (mz_gI t 43) (e - sp_nb (mz_gI t 43) q e) (sp_nb (mz_gI t 43) q e) - sp_nb (mz_gI t 43) q e ≤ 12))))) := by
  have he := h.2.2.1
  have hle := sp_nb_le (mz_gI t 43) hq
  unfold f_MO_word mz_let
  rw [mr_blanks hn h]
  simp only [Option.bind_some]
  have hR1 : mr_R (mz_pI t 0 61 (nI (sp_nb (mz_gI t 43) q e))) e (sp_nb (mz_gI t 43) q e) := h.to (by omega)
  have w0 := mr_word_0 hR1 hn hle.2
  simp only [mr_st_p] at w0
  change f_MO_word_16 n n 0 (mr_st t (sp_nb (mz_gI t 43) q e) 0 0) = f_MO_word_132 n (nI (sp_we (mz_gI t 43) (e - sp_nb (mz_gI t 43) q e) (sp_nb (mz_gI t 43) q e) - sp_nb (mz_gI t 43) q e)) (mr_st t (sp_we (mz_gI t 43) (e - sp_nb (mz_gI t 43) q e) (sp_nb (mz_gI t 43) q e)) (sp_pkA (mz_gI t 43) (sp_nb (mz_gI t 43) q e) (sp_we (mz_gI t 43) (e - sp_nb (mz_gI t 43) q e) (sp_nb (mz_gI t 43) q e) - sp_nb (mz_gI t 43) q e)) (sp_pkB (mz_gI t 43) (sp_nb (mz_gI t 43) q e) (sp_we (mz_gI t 43) (e - sp_nb (mz_gI t 43) q e) (sp_nb (mz_gI t 43) q e) - sp_nb (mz_gI t 43) q e))) at w0
  refine Eq.trans (show _ = f_MO_word_16 n n 0 (mr_st t (sp_nb (mz_gI t 43) q e) 0 0) from rfl) (w0.trans ?_)
  have hwe := sp_we_le (mz_gI t 43) (e - sp_nb (mz_gI t 43) q e) (sp_nb (mz_gI t 43) q e)
  generalize sp_pkA (mz_gI t 43) _ _ = A
  generalize sp_pkB (mz_gI t 43) _ _ = B
  generalize hu : sp_nb (mz_gI t 43) q e = u at *
  generalize hw : sp_we (mz_gI t 43) (e - u) u = w at *
  unfold f_MO_word_132 f_MO_word_154 f_MO_word_155 mz_let
  rw [show mz_gI (mr_st t w A B) 0 62 = sp_bi o from ho]
  cases o
  · rw [if_pos (show sp_bi false = 0 from rfl), if_pos (Or.inl rfl)]
    rfl
  · rw [if_neg (show ¬ sp_bi true = 0 by decide), mr_in]
    simp only [Option.bind_some, sp_bi_0, Bool.true_and]
    have d1 : decide ((1 : Int32) ≤ nI (w - u)) = decide (u < w) := by
      apply decide_eq_decide.mpr
      rw [show (1 : Int32) = nI 1 from rfl, pz_le (by omega) (by omega)]
      omega
    have d2 : decide (nI (w - u) ≤ (12 : Int32)) = decide (w - u ≤ 12) := by
      apply decide_eq_decide.mpr
      rw [show (12 : Int32) = nI 12 from rfl, pz_le (by omega) (by omega)]
    rw [d1, d2]
    cases (decide (u < w) && decide (w - u ≤ 12)) <;> simp [sp_bi]
theorem mr_sign {n e q : Nat} {t : mz_St} {o : Bool} {c : Int32} (hn : 10000 ≤ n) (h : mr_R t e q) (ho : mr_O t o) (hq : q < 2 ^ 29) :
    f_MO_sign n c t = some (mz_pI (mz_pI t 0 61 (nI (sp_bl (mz_gI t 43) (e - q) q + 1))) 0 62 (sp_bi (o && decide (sp_at (mz_gI t 43) e (sp_bl (mz_gI t 43) (e - q) q) = c)))) := by
  have he := h.2.2.1
  have hle := sp_bl_le (mz_gI t 43) (e - q) q
  unfold f_MO_sign
  rw [mr_blanks hn h]
  have hR1 : mr_R (mz_pI t 0 61 (nI (sp_bl (mz_gI t 43) (e - q) q))) e (sp_bl (mz_gI t 43) (e - q) q) := h.to (by omega)
  simp only [Option.bind_some]
  rw [show mz_gI (mz_pI t 0 61 (nI (sp_bl (mz_gI t 43) (e - q) q))) 0 62 = sp_bi o from ho, mr_here hR1]
  generalize hu : sp_bl (mz_gI t 43) (e - q) q = u at *
  have fin : ∀ b : Bool, f_MO_sign_25 n (sp_bi b) (mz_pI t 0 61 (nI u)) = some (mz_pI (mz_pI t 0 61 (nI (u + 1))) 0 62 (sp_bi b)) := by
    intro b
    unfold f_MO_sign_25 mz_let
    rw [if_pos (sp_bi01 b)]
    show some (mz_pI (mz_pI (mz_pI t 0 61 (nI u)) 0 62 (sp_bi b)) 0 61 (nI u + (1 : Int32))) = _
    rw [show nI u + (1 : Int32) = nI (u + 1) from nI_1 u, pI_comm (mz_pI t 0 61 (nI u)) (sp_bi b) (nI (u + 1)) (by decide : ¬ ((0 : Nat) = 0 ∧ (62 : Nat) = 61)), pI_pI]
  unfold f_MO_sign_24
  cases o
  · rw [if_pos (show sp_bi false = 0 from rfl)]
    exact fin false
  · rw [if_neg (show ¬ sp_bi true = 0 by decide)]
    simp only [Option.bind_some, Bool.true_and]
    change (if sp_at (mz_gI t 43) e u = c then _ else _) = _
    by_cases hc : sp_at (mz_gI t 43) e u = c
    · rw [if_pos hc, decide_eq_true hc]
      exact fin true
    · rw [if_neg hc, decide_eq_false hc]
      exact fin false
theorem mr_ends {n e q : Nat} {t : mz_St} {o : Bool} (hn : 10000 ≤ n) (h : mr_R t e q) (ho : mr_O t o) (hq : q < 2 ^ 29) :
    f_MO_lineEnds n t = some (mz_pI (mz_pI t 0 61 (nI (sp_bl (mz_gI t 43) (e - q) q))) 0 62 (sp_bi (o && decide (e ≤ sp_bl (mz_gI t 43) (e - q) q)))) := by
  have he := h.2.2.1
  have hle := sp_bl_le (mz_gI t 43) (e - q) q
  unfold f_MO_lineEnds
  rw [mr_blanks hn h]
  simp only [Option.bind_some]
  rw [show mz_gI (mz_pI t 0 61 (nI (sp_bl (mz_gI t 43) (e - q) q))) 0 62 = sp_bi o from ho, show mz_gI (mz_pI t 0 61 (nI (sp_bl (mz_gI t 43) (e - q) q))) 0 61 = nI (sp_bl (mz_gI t 43) (e - q) q) from rfl, show mz_gI (mz_pI t 0 61 (nI (sp_bl (mz_gI t 43) (e - q) q))) 0 60 = nI e from h.1]
  generalize hu : sp_bl (mz_gI t 43) (e - q) q = u at *
  have fin : ∀ b : Bool, f_MO_lineEnds_28 n (sp_bi b) (mz_pI t 0 61 (nI u)) = some (mz_pI (mz_pI t 0 61 (nI u)) 0 62 (sp_bi b)) := by
    intro b
    unfold f_MO_lineEnds_28 mz_let
    rw [if_pos (sp_bi01 b)]
  unfold f_MO_lineEnds_27
  cases o
  · rw [if_pos (show sp_bi false = 0 from rfl)]
    exact fin false
  · rw [if_neg (show ¬ sp_bi true = 0 by decide)]
    by_cases hc : e ≤ u
    · rw [if_neg (nI_nlt hc (by omega)), decide_eq_true hc]
      exact fin true
    · rw [if_pos (nI_lt (by omega) (by omega)), decide_eq_false hc]
      exact fin false
