/-- boxes of the class's cells -/
def bxK (c p : Nat) : Nat :=
  if c = 1 then (if p = 4 then 4 else if p = 3 then 13 else 0)
  else if c = 3 then 14 else if c = 4 then 14
  else if c = 6 then (if p = 2 then 1 else if p = 3 then 1 else if p = 4 then 1 else if p = 5 then 1 else if p = 6 then 2 else 0)
  else if c = 5 then (if p = 12 then 14 else if p = 13 then 14 else if p = 14 then 3 else 0)
  else if c = 15 then (if p = 4 then 5 else 0)
  else if c = 27 then (if p = 4 then 6 else 0)
  else if c = 17 then 9 else if c = 29 then 9
  else if c = 8 then 2 else if c = 9 then 2 else if c = 10 then 2 else if c = 11 then 2
  else if c = 23 then 1 else if c = 24 then 1 else if c = 25 then 1 else if c = 26 then 1
  else if c = 30 then (if p = 4 then 10 else if p = 7 then 12 else if p = 8 then 11 else if p = 9 then 2 else if p = 10 then 10 else 0)
  else if c = 32 then (if p = 5 then 7 else if p = 6 then 8 else 0)
  else if c = 34 then 8 else if c = 35 then 8
  else if 38 ≤ c ∧ c < 52 then (if p = 0 then 3 else if 9 ≤ p ∧ p ≤ 12 then 1 else 0)
  else if 52 ≤ c ∧ c < 80 then 1
  else 0
def bxL (k : Nat) : Int := if k = 1 then -1 else if k = 2 then 0 else if k = 3 then 0 else if k = 4 then 0 else if k = 5 then 0 else if k = 6 then 0 else if k = 7 then 0 else if k = 8 then 0 else if k = 9 then -2147483648 else if k = 10 then 0 else if k = 11 then 0 else if k = 12 then 0 else if k = 14 then -1 else -2147483648
def bxH (k : Nat) : Int := if k = 1 then 7000 else if k = 2 then 1 else if k = 3 then 15 else if k = 4 then 3001 else if k = 5 then 64 else if k = 6 then 16 else if k = 7 then 1000 else if k = 8 then 12000 else if k = 9 then 12 else if k = 10 then 12 else if k = 11 then 2000000000 else if k = 12 then 6300 else if k = 14 then 6600 else 2147483647
def CI (L : Int32) (t : mz_St) : Prop := mz_gI t 1 3 = L ∧ (0 ≤ L.toInt ∧ L.toInt ≤ 3000) ∧ ∀ c p, bxL (bxK c p) ≤ (mz_gI t c p).toInt ∧ (mz_gI t c p).toInt ≤ bxH (bxK c p)
theorem bxK_f0 {c : Nat} (h : mz_fr c) : bxK c 0 = 3 := by
  unfold bxK mz_fr at *
  repeat (first | rw [if_neg (by omega)] | rw [if_pos (by omega)])
theorem bxK_f9 {c p : Nat} (h : mz_fr c) (h1 : 9 ≤ p) (h2 : p ≤ 12) : bxK c p = 1 := by
  unfold bxK mz_fr at *
  repeat (first | rw [if_neg (by omega)] | rw [if_pos (by omega)])
theorem bxK_f1 {c p : Nat} (h : mz_fr c) (h1 : p ≠ 0) (h2 : ¬ (9 ≤ p ∧ p ≤ 12)) : bxK c p = 0 := by
  unfold bxK mz_fr at *
  repeat (first | rw [if_neg (by omega)] | rw [if_pos (by omega)])
theorem bxK_a14 {c p : Nat} (h : mz_fr c) : bxK (c + 14) p = 1 := by
  unfold bxK mz_fr at *
  repeat (first | rw [if_neg (by omega)] | rw [if_pos (by omega)])
theorem bxK_a28 {c p : Nat} (h : mz_fr c) : bxK (c + 28) p = 1 := by
  unfold bxK mz_fr at *
  repeat (first | rw [if_neg (by omega)] | rw [if_pos (by omega)])
theorem CI_put {L : Int32} {t : mz_St} {c p : Nat} {v : Int32} (h : CI L t) (hk : bxK c p ≠ 13) (h1 : bxL (bxK c p) ≤ v.toInt) (h2 : v.toInt ≤ bxH (bxK c p)) : CI L (mz_pI t c p v) := by
  refine ⟨?_, h.2.1, fun c' p' => ?_⟩
  · rw [gI_oth _ _ (fun q => hk (by rw [← q.1, ← q.2]; rfl))]; exact h.1
  · by_cases hq : c' = c ∧ p' = p
    · rw [hq.1, hq.2, gI_same]; exact ⟨h1, h2⟩
    · rw [gI_oth _ _ hq]; exact h.2.2 c' p'
theorem CI_p0 {L : Int32} {t t' : mz_St} {c p : Nat} {v : Int32} (h : CI L t) (e : t' = mz_pI t c p v) (hk : bxK c p = 0) : CI L t' := by
  rw [e]
  exact CI_put h (by rw [hk]; decide) (by rw [hk]; exact ti_lo v) (by rw [hk]; exact ti_hi v)
theorem CI_p1 {L : Int32} {t t' : mz_St} {c p : Nat} {v : Int32} (h : CI L t) (e : t' = mz_pI t c p v) (hk : bxK c p = 1) (h1 : -1 ≤ v.toInt) (h2 : v.toInt ≤ 7000) : CI L t' := by
  rw [e]
  exact CI_put h (by rw [hk]; decide) (by rw [hk]; exact h1) (by rw [hk]; exact h2)
theorem CI_g1 {L : Int32} {t : mz_St} {c p : Nat} (h : CI L t) (hk : bxK c p = 1) : -1 ≤ (mz_gI t c p).toInt ∧ (mz_gI t c p).toInt ≤ 7000 := by
  have := h.2.2 c p
  rw [hk] at this
  exact this
theorem CI_p2 {L : Int32} {t t' : mz_St} {c p : Nat} {v : Int32} (h : CI L t) (e : t' = mz_pI t c p v) (hk : bxK c p = 2) (h1 : 0 ≤ v.toInt) (h2 : v.toInt ≤ 1) : CI L t' := by
  rw [e]
  exact CI_put h (by rw [hk]; decide) (by rw [hk]; exact h1) (by rw [hk]; exact h2)
theorem CI_g2 {L : Int32} {t : mz_St} {c p : Nat} (h : CI L t) (hk : bxK c p = 2) : 0 ≤ (mz_gI t c p).toInt ∧ (mz_gI t c p).toInt ≤ 1 := by
  have := h.2.2 c p
  rw [hk] at this
  exact this
theorem CI_p3 {L : Int32} {t t' : mz_St} {c p : Nat} {v : Int32} (h : CI L t) (e : t' = mz_pI t c p v) (hk : bxK c p = 3) (h1 : 0 ≤ v.toInt) (h2 : v.toInt ≤ 15) : CI L t' := by
  rw [e]
  exact CI_put h (by rw [hk]; decide) (by rw [hk]; exact h1) (by rw [hk]; exact h2)
theorem CI_g3 {L : Int32} {t : mz_St} {c p : Nat} (h : CI L t) (hk : bxK c p = 3) : 0 ≤ (mz_gI t c p).toInt ∧ (mz_gI t c p).toInt ≤ 15 := by
  have := h.2.2 c p
  rw [hk] at this
  exact this
theorem CI_p4 {L : Int32} {t t' : mz_St} {c p : Nat} {v : Int32} (h : CI L t) (e : t' = mz_pI t c p v) (hk : bxK c p = 4) (h1 : 0 ≤ v.toInt) (h2 : v.toInt ≤ 3001) : CI L t' := by
  rw [e]
  exact CI_put h (by rw [hk]; decide) (by rw [hk]; exact h1) (by rw [hk]; exact h2)
theorem CI_g4 {L : Int32} {t : mz_St} {c p : Nat} (h : CI L t) (hk : bxK c p = 4) : 0 ≤ (mz_gI t c p).toInt ∧ (mz_gI t c p).toInt ≤ 3001 := by
  have := h.2.2 c p
  rw [hk] at this
  exact this
theorem CI_p5 {L : Int32} {t t' : mz_St} {c p : Nat} {v : Int32} (h : CI L t) (e : t' = mz_pI t c p v) (hk : bxK c p = 5) (h1 : 0 ≤ v.toInt) (h2 : v.toInt ≤ 64) : CI L t' := by
  rw [e]
  exact CI_put h (by rw [hk]; decide) (by rw [hk]; exact h1) (by rw [hk]; exact h2)
theorem CI_g5 {L : Int32} {t : mz_St} {c p : Nat} (h : CI L t) (hk : bxK c p = 5) : 0 ≤ (mz_gI t c p).toInt ∧ (mz_gI t c p).toInt ≤ 64 := by
  have := h.2.2 c p
  rw [hk] at this
  exact this
theorem CI_p6 {L : Int32} {t t' : mz_St} {c p : Nat} {v : Int32} (h : CI L t) (e : t' = mz_pI t c p v) (hk : bxK c p = 6) (h1 : 0 ≤ v.toInt) (h2 : v.toInt ≤ 16) : CI L t' := by
  rw [e]
  exact CI_put h (by rw [hk]; decide) (by rw [hk]; exact h1) (by rw [hk]; exact h2)
theorem CI_g6 {L : Int32} {t : mz_St} {c p : Nat} (h : CI L t) (hk : bxK c p = 6) : 0 ≤ (mz_gI t c p).toInt ∧ (mz_gI t c p).toInt ≤ 16 := by
  have := h.2.2 c p
  rw [hk] at this
  exact this
theorem CI_p7 {L : Int32} {t t' : mz_St} {c p : Nat} {v : Int32} (h : CI L t) (e : t' = mz_pI t c p v) (hk : bxK c p = 7) (h1 : 0 ≤ v.toInt) (h2 : v.toInt ≤ 1000) : CI L t' := by
  rw [e]
  exact CI_put h (by rw [hk]; decide) (by rw [hk]; exact h1) (by rw [hk]; exact h2)
theorem CI_g7 {L : Int32} {t : mz_St} {c p : Nat} (h : CI L t) (hk : bxK c p = 7) : 0 ≤ (mz_gI t c p).toInt ∧ (mz_gI t c p).toInt ≤ 1000 := by
  have := h.2.2 c p
  rw [hk] at this
  exact this
theorem CI_p8 {L : Int32} {t t' : mz_St} {c p : Nat} {v : Int32} (h : CI L t) (e : t' = mz_pI t c p v) (hk : bxK c p = 8) (h1 : 0 ≤ v.toInt) (h2 : v.toInt ≤ 12000) : CI L t' := by
  rw [e]
  exact CI_put h (by rw [hk]; decide) (by rw [hk]; exact h1) (by rw [hk]; exact h2)
theorem CI_g8 {L : Int32} {t : mz_St} {c p : Nat} (h : CI L t) (hk : bxK c p = 8) : 0 ≤ (mz_gI t c p).toInt ∧ (mz_gI t c p).toInt ≤ 12000 := by
  have := h.2.2 c p
  rw [hk] at this
  exact this
theorem CI_p9 {L : Int32} {t t' : mz_St} {c p : Nat} {v : Int32} (h : CI L t) (e : t' = mz_pI t c p v) (hk : bxK c p = 9) (h1 : -2147483648 ≤ v.toInt) (h2 : v.toInt ≤ 12) : CI L t' := by
  rw [e]
  exact CI_put h (by rw [hk]; decide) (by rw [hk]; exact h1) (by rw [hk]; exact h2)
theorem CI_g9 {L : Int32} {t : mz_St} {c p : Nat} (h : CI L t) (hk : bxK c p = 9) : -2147483648 ≤ (mz_gI t c p).toInt ∧ (mz_gI t c p).toInt ≤ 12 := by
  have := h.2.2 c p
  rw [hk] at this
  exact this
theorem CI_p10 {L : Int32} {t t' : mz_St} {c p : Nat} {v : Int32} (h : CI L t) (e : t' = mz_pI t c p v) (hk : bxK c p = 10) (h1 : 0 ≤ v.toInt) (h2 : v.toInt ≤ 12) : CI L t' := by
  rw [e]
  exact CI_put h (by rw [hk]; decide) (by rw [hk]; exact h1) (by rw [hk]; exact h2)
theorem CI_g10 {L : Int32} {t : mz_St} {c p : Nat} (h : CI L t) (hk : bxK c p = 10) : 0 ≤ (mz_gI t c p).toInt ∧ (mz_gI t c p).toInt ≤ 12 := by
  have := h.2.2 c p
  rw [hk] at this
  exact this
theorem CI_p11 {L : Int32} {t t' : mz_St} {c p : Nat} {v : Int32} (h : CI L t) (e : t' = mz_pI t c p v) (hk : bxK c p = 11) (h1 : 0 ≤ v.toInt) (h2 : v.toInt ≤ 2000000000) : CI L t' := by
  rw [e]
  exact CI_put h (by rw [hk]; decide) (by rw [hk]; exact h1) (by rw [hk]; exact h2)
theorem CI_g11 {L : Int32} {t : mz_St} {c p : Nat} (h : CI L t) (hk : bxK c p = 11) : 0 ≤ (mz_gI t c p).toInt ∧ (mz_gI t c p).toInt ≤ 2000000000 := by
  have := h.2.2 c p
  rw [hk] at this
  exact this
theorem CI_p12 {L : Int32} {t t' : mz_St} {c p : Nat} {v : Int32} (h : CI L t) (e : t' = mz_pI t c p v) (hk : bxK c p = 12) (h1 : 0 ≤ v.toInt) (h2 : v.toInt ≤ 6300) : CI L t' := by
  rw [e]
  exact CI_put h (by rw [hk]; decide) (by rw [hk]; exact h1) (by rw [hk]; exact h2)
theorem CI_g12 {L : Int32} {t : mz_St} {c p : Nat} (h : CI L t) (hk : bxK c p = 12) : 0 ≤ (mz_gI t c p).toInt ∧ (mz_gI t c p).toInt ≤ 6300 := by
  have := h.2.2 c p
  rw [hk] at this
  exact this
theorem CI_p14 {L : Int32} {t t' : mz_St} {c p : Nat} {v : Int32} (h : CI L t) (e : t' = mz_pI t c p v) (hk : bxK c p = 14) (h1 : -1 ≤ v.toInt) (h2 : v.toInt ≤ 6600) : CI L t' := by
  rw [e]
  exact CI_put h (by rw [hk]; decide) (by rw [hk]; exact h1) (by rw [hk]; exact h2)
theorem CI_g14 {L : Int32} {t : mz_St} {c p : Nat} (h : CI L t) (hk : bxK c p = 14) : -1 ≤ (mz_gI t c p).toInt ∧ (mz_gI t c p).toInt ≤ 6600 := by
  have := h.2.2 c p
  rw [hk] at this
  exact this
theorem CI_g13 {L : Int32} {t : mz_St} (h : CI L t) : 0 ≤ (mz_gI t 1 3).toInt ∧ (mz_gI t 1 3).toInt ≤ 3000 := by rw [h.1]; exact h.2.1
theorem wi_lt (i : Nat) : mz_wi.getD i 0 < 15 := by
  by_cases h : i < 16
  · have key : ∀ i, i < 16 → mz_wi.getD i 0 < 15 := by decide
    exact key i h
  · rw [List.getD_eq_getElem?_getD, List.getElem?_eq_none (by simp only [mz_wi, List.length_cons, List.length_nil]; omega)]
    decide
