/-- boxes of the reference's cells; 13: what stays -/
def bxM (c p : Nat) : Nat :=
  if c = 0 then (if p = 2 then 13 else if p = 3 then 13 else if p = 6 then 29 else if p = 8 then 13 else if p = 12 then 13 else if p = 24 then 5 else if p = 28 then 7 else if p = 29 then 8 else if p = 34 then 13 else if p = 48 then 13 else if p = 51 then 13 else if p = 53 then 13 else if p = 60 then 23 else if p = 61 then 24 else if p = 62 then 2 else if p = 75 then 13 else 0)
  else if c = 1 then 13
  else if c = 2 then 13
  else if c = 3 then 13
  else if c = 6 then 13
  else if c = 7 then 13
  else if c = 8 then 13
  else if c = 9 then 13
  else if c = 10 then 13
  else if c = 13 then 13
  else if c = 14 then 13
  else if c = 22 then 13
  else if c = 23 then 13
  else if c = 24 then 13
  else if c = 25 then 13
  else if c = 26 then 13
  else if c = 27 then 13
  else if c = 28 then 13
  else if c = 29 then 13
  else if c = 30 then 13
  else if c = 31 then 13
  else if c = 32 then 13
  else if c = 35 then 13
  else if c = 36 then 13
  else if c = 37 then 13
  else if c = 38 then 13
  else if c = 39 then 13
  else if c = 40 then 13
  else if c = 41 then 13
  else if c = 42 then 13
  else if c = 53 then 13
  else if c = 54 then 13
  else if c = 18 then 8
  else 0
def bxN (c p : Nat) : Nat :=
  if c = 0 then (if p = 48 then 21 else if p = 51 then 22 else if p = 61 then 24 else if p = 62 then 2 else 13)
  else if c = 35 then 22
  else if c = 36 then 22
  else if c = 37 then 0
  else 13
def bmL (k : Nat) : Int := if k = 2 then 0 else if k = 5 then 0 else if k = 7 then 0 else if k = 8 then 0 else if k = 21 then 0 else if k = 22 then 0 else if k = 23 then 0 else if k = 24 then 0 else if k = 29 then 0 else -2147483648
def bmH (k : Nat) : Int := if k = 2 then 1 else if k = 5 then 64 else if k = 7 then 1000 else if k = 8 then 12000 else if k = 21 then 24000 else if k = 22 then 48000 else if k = 23 then 6000 else if k = 24 then 7000 else if k = 29 then 2147483647 else 2147483647
def FX (t : mz_St) : Prop := (0 ≤ (mz_gI t 0 2).toInt ∧ (mz_gI t 0 2).toInt ≤ 3000) ∧ (0 ≤ (mz_gI t 0 3).toInt ∧ (mz_gI t 0 3).toInt ≤ 3001) ∧ (0 ≤ (mz_gI t 0 8).toInt ∧ (mz_gI t 0 8).toInt ≤ 4001) ∧ (0 ≤ (mz_gI t 0 12).toInt ∧ (mz_gI t 0 12).toInt ≤ 16) ∧ (0 ≤ (mz_gI t 0 34).toInt ∧ (mz_gI t 0 34).toInt ≤ 13) ∧ (0 ≤ (mz_gI t 0 48).toInt ∧ (mz_gI t 0 48).toInt ≤ 24000) ∧ (0 ≤ (mz_gI t 0 51).toInt ∧ (mz_gI t 0 51).toInt ≤ 48000) ∧ (0 ≤ (mz_gI t 0 53).toInt ∧ (mz_gI t 0 53).toInt ≤ 8) ∧ (0 ≤ (mz_gI t 0 75).toInt ∧ (mz_gI t 0 75).toInt ≤ 6) ∧ (∀ p, 0 ≤ (mz_gI t 2 p).toInt ∧ (mz_gI t 2 p).toInt ≤ 3000) ∧ (∀ p, 0 ≤ (mz_gI t 3 p).toInt ∧ (mz_gI t 3 p).toInt ≤ 3000) ∧ (∀ p, 0 ≤ (mz_gI t 6 p).toInt ∧ (mz_gI t 6 p).toInt ≤ 3001) ∧ (∀ p, 0 ≤ (mz_gI t 7 p).toInt ∧ (mz_gI t 7 p).toInt ≤ 3001) ∧ (∀ p, 0 ≤ (mz_gI t 10 p).toInt ∧ (mz_gI t 10 p).toInt ≤ 6) ∧ (∀ p, -1 ≤ (mz_gI t 13 p).toInt ∧ (mz_gI t 13 p).toInt ≤ 3000) ∧ (∀ p, -1 ≤ (mz_gI t 14 p).toInt ∧ (mz_gI t 14 p).toInt ≤ 3000) ∧ (∀ p, 0 ≤ (mz_gI t 23 p).toInt ∧ (mz_gI t 23 p).toInt ≤ 3001) ∧ (∀ p, 0 ≤ (mz_gI t 24 p).toInt ∧ (mz_gI t 24 p).toInt ≤ 3001) ∧ (∀ p, 0 ≤ (mz_gI t 25 p).toInt ∧ (mz_gI t 25 p).toInt ≤ 3001) ∧ (∀ p, -1 ≤ (mz_gI t 26 p).toInt ∧ (mz_gI t 26 p).toInt ≤ 4000) ∧ (∀ p, 0 ≤ (mz_gI t 27 p).toInt ∧ (mz_gI t 27 p).toInt ≤ 4000) ∧ (∀ p, 0 ≤ (mz_gI t 28 p).toInt ∧ (mz_gI t 28 p).toInt ≤ 15) ∧ (∀ p, 0 ≤ (mz_gI t 30 p).toInt ∧ (mz_gI t 30 p).toInt ≤ 8) ∧ (∀ p, 0 ≤ (mz_gI t 31 p).toInt ∧ (mz_gI t 31 p).toInt ≤ 6420) ∧ (∀ p, 0 ≤ (mz_gI t 32 p).toInt ∧ (mz_gI t 32 p).toInt ≤ 42500) ∧ (∀ p, 0 ≤ (mz_gI t 35 p).toInt ∧ (mz_gI t 35 p).toInt ≤ 48000) ∧ (∀ p, 0 ≤ (mz_gI t 36 p).toInt ∧ (mz_gI t 36 p).toInt ≤ 48000) ∧ (∀ p, 0 ≤ (mz_gI t 38 p).toInt ∧ (mz_gI t 38 p).toInt ≤ 1) ∧ (∀ p, 0 ≤ (mz_gI t 39 p).toInt ∧ (mz_gI t 39 p).toInt ≤ 1) ∧ (∀ p, 0 ≤ (mz_gI t 40 p).toInt ∧ (mz_gI t 40 p).toInt ≤ 1) ∧ (∀ p, 0 ≤ (mz_gI t 41 p).toInt ∧ (mz_gI t 41 p).toInt ≤ 1) ∧ (∀ p, -1 ≤ (mz_gI t 53 p).toInt ∧ (mz_gI t 53 p).toInt ≤ 9000) ∧ (∀ p, -1 ≤ (mz_gI t 54 p).toInt ∧ (mz_gI t 54 p).toInt ≤ 9000) ∧ (∀ p, (mz_gI t 2 p).toInt ≤ (mz_gI t 3 p).toInt)
def MI (s t : mz_St) : Prop := FX s ∧ (∀ c p, bxM c p = 13 → mz_gI t c p = mz_gI s c p) ∧ ∀ c p, bmL (bxM c p) ≤ (mz_gI t c p).toInt ∧ (mz_gI t c p).toInt ≤ bmH (bxM c p)
theorem MI_put {s t : mz_St} {c p : Nat} {v : Int32} (h : MI s t) (hk : bxM c p ≠ 13) (h1 : bmL (bxM c p) ≤ v.toInt) (h2 : v.toInt ≤ bmH (bxM c p)) : MI s (mz_pI t c p v) := by
  refine ⟨h.1, fun c' p' hc => ?_, fun c' p' => ?_⟩
  · rw [gI_oth _ _ (fun q => hk (by rw [← q.1, ← q.2]; exact hc))]; exact h.2.1 c' p' hc
  · by_cases hq : c' = c ∧ p' = p
    · rw [hq.1, hq.2, gI_same]; exact ⟨h1, h2⟩
    · rw [gI_oth _ _ hq]; exact h.2.2 c' p'
theorem MI_p0 {s t t' : mz_St} {c p : Nat} {v : Int32} (h : MI s t) (e : t' = mz_pI t c p v) (hk : bxM c p = 0) : MI s t' := by
  rw [e]
  exact MI_put h (by rw [hk]; decide) (by rw [hk]; exact ti_lo v) (by rw [hk]; exact ti_hi v)
theorem MI_pL {s t t' : mz_St} {c p : Nat} {v : Int64} (h : MI s t) (e : t' = mz_pL t c p v) : MI s t' := by
  rw [e]; exact h
theorem MI_13 {s t : mz_St} {c p : Nat} (h : MI s t) (hk : bxM c p = 13) : (mz_gI t c p).toInt = (mz_gI s c p).toInt := by rw [h.2.1 c p hk]
theorem MI_p2 {s t t' : mz_St} {c p : Nat} {v : Int32} (h : MI s t) (e : t' = mz_pI t c p v) (hk : bxM c p = 2) (h1 : 0 ≤ v.toInt) (h2 : v.toInt ≤ 1) : MI s t' := by
  rw [e]
  exact MI_put h (by rw [hk]; decide) (by rw [hk]; exact h1) (by rw [hk]; exact h2)
theorem MI_g2 {s t : mz_St} {c p : Nat} (h : MI s t) (hk : bxM c p = 2) : 0 ≤ (mz_gI t c p).toInt ∧ (mz_gI t c p).toInt ≤ 1 := by
  have := h.2.2 c p
  rw [hk] at this
  exact this
theorem MI_p5 {s t t' : mz_St} {c p : Nat} {v : Int32} (h : MI s t) (e : t' = mz_pI t c p v) (hk : bxM c p = 5) (h1 : 0 ≤ v.toInt) (h2 : v.toInt ≤ 64) : MI s t' := by
  rw [e]
  exact MI_put h (by rw [hk]; decide) (by rw [hk]; exact h1) (by rw [hk]; exact h2)
theorem MI_g5 {s t : mz_St} {c p : Nat} (h : MI s t) (hk : bxM c p = 5) : 0 ≤ (mz_gI t c p).toInt ∧ (mz_gI t c p).toInt ≤ 64 := by
  have := h.2.2 c p
  rw [hk] at this
  exact this
theorem MI_p7 {s t t' : mz_St} {c p : Nat} {v : Int32} (h : MI s t) (e : t' = mz_pI t c p v) (hk : bxM c p = 7) (h1 : 0 ≤ v.toInt) (h2 : v.toInt ≤ 1000) : MI s t' := by
  rw [e]
  exact MI_put h (by rw [hk]; decide) (by rw [hk]; exact h1) (by rw [hk]; exact h2)
theorem MI_g7 {s t : mz_St} {c p : Nat} (h : MI s t) (hk : bxM c p = 7) : 0 ≤ (mz_gI t c p).toInt ∧ (mz_gI t c p).toInt ≤ 1000 := by
  have := h.2.2 c p
  rw [hk] at this
  exact this
theorem MI_p8 {s t t' : mz_St} {c p : Nat} {v : Int32} (h : MI s t) (e : t' = mz_pI t c p v) (hk : bxM c p = 8) (h1 : 0 ≤ v.toInt) (h2 : v.toInt ≤ 12000) : MI s t' := by
  rw [e]
  exact MI_put h (by rw [hk]; decide) (by rw [hk]; exact h1) (by rw [hk]; exact h2)
theorem MI_g8 {s t : mz_St} {c p : Nat} (h : MI s t) (hk : bxM c p = 8) : 0 ≤ (mz_gI t c p).toInt ∧ (mz_gI t c p).toInt ≤ 12000 := by
  have := h.2.2 c p
  rw [hk] at this
  exact this
theorem MI_p21 {s t t' : mz_St} {c p : Nat} {v : Int32} (h : MI s t) (e : t' = mz_pI t c p v) (hk : bxM c p = 21) (h1 : 0 ≤ v.toInt) (h2 : v.toInt ≤ 24000) : MI s t' := by
  rw [e]
  exact MI_put h (by rw [hk]; decide) (by rw [hk]; exact h1) (by rw [hk]; exact h2)
theorem MI_g21 {s t : mz_St} {c p : Nat} (h : MI s t) (hk : bxM c p = 21) : 0 ≤ (mz_gI t c p).toInt ∧ (mz_gI t c p).toInt ≤ 24000 := by
  have := h.2.2 c p
  rw [hk] at this
  exact this
theorem MI_p22 {s t t' : mz_St} {c p : Nat} {v : Int32} (h : MI s t) (e : t' = mz_pI t c p v) (hk : bxM c p = 22) (h1 : 0 ≤ v.toInt) (h2 : v.toInt ≤ 48000) : MI s t' := by
  rw [e]
  exact MI_put h (by rw [hk]; decide) (by rw [hk]; exact h1) (by rw [hk]; exact h2)
theorem MI_g22 {s t : mz_St} {c p : Nat} (h : MI s t) (hk : bxM c p = 22) : 0 ≤ (mz_gI t c p).toInt ∧ (mz_gI t c p).toInt ≤ 48000 := by
  have := h.2.2 c p
  rw [hk] at this
  exact this
theorem MI_p23 {s t t' : mz_St} {c p : Nat} {v : Int32} (h : MI s t) (e : t' = mz_pI t c p v) (hk : bxM c p = 23) (h1 : 0 ≤ v.toInt) (h2 : v.toInt ≤ 6000) : MI s t' := by
  rw [e]
  exact MI_put h (by rw [hk]; decide) (by rw [hk]; exact h1) (by rw [hk]; exact h2)
theorem MI_g23 {s t : mz_St} {c p : Nat} (h : MI s t) (hk : bxM c p = 23) : 0 ≤ (mz_gI t c p).toInt ∧ (mz_gI t c p).toInt ≤ 6000 := by
  have := h.2.2 c p
  rw [hk] at this
  exact this
theorem MI_p24 {s t t' : mz_St} {c p : Nat} {v : Int32} (h : MI s t) (e : t' = mz_pI t c p v) (hk : bxM c p = 24) (h1 : 0 ≤ v.toInt) (h2 : v.toInt ≤ 7000) : MI s t' := by
  rw [e]
  exact MI_put h (by rw [hk]; decide) (by rw [hk]; exact h1) (by rw [hk]; exact h2)
theorem MI_g24 {s t : mz_St} {c p : Nat} (h : MI s t) (hk : bxM c p = 24) : 0 ≤ (mz_gI t c p).toInt ∧ (mz_gI t c p).toInt ≤ 7000 := by
  have := h.2.2 c p
  rw [hk] at this
  exact this
theorem MI_p29 {s t t' : mz_St} {c p : Nat} {v : Int32} (h : MI s t) (e : t' = mz_pI t c p v) (hk : bxM c p = 29) (h1 : 0 ≤ v.toInt) (h2 : v.toInt ≤ 2147483647) : MI s t' := by
  rw [e]
  exact MI_put h (by rw [hk]; decide) (by rw [hk]; exact h1) (by rw [hk]; exact h2)
theorem MI_g29 {s t : mz_St} {c p : Nat} (h : MI s t) (hk : bxM c p = 29) : 0 ≤ (mz_gI t c p).toInt ∧ (mz_gI t c p).toInt ≤ 2147483647 := by
  have := h.2.2 c p
  rw [hk] at this
  exact this
def NI (s t : mz_St) : Prop := (FX s ∧ 0 ≤ (mz_gI s 0 60).toInt ∧ (mz_gI s 0 60).toInt ≤ 6000) ∧ (∀ c p, bxN c p = 13 → mz_gI t c p = mz_gI s c p) ∧ ∀ c p, bmL (bxN c p) ≤ (mz_gI t c p).toInt ∧ (mz_gI t c p).toInt ≤ bmH (bxN c p)
theorem NI_put {s t : mz_St} {c p : Nat} {v : Int32} (h : NI s t) (hk : bxN c p ≠ 13) (h1 : bmL (bxN c p) ≤ v.toInt) (h2 : v.toInt ≤ bmH (bxN c p)) : NI s (mz_pI t c p v) := by
  refine ⟨h.1, fun c' p' hc => ?_, fun c' p' => ?_⟩
  · rw [gI_oth _ _ (fun q => hk (by rw [← q.1, ← q.2]; exact hc))]; exact h.2.1 c' p' hc
  · by_cases hq : c' = c ∧ p' = p
    · rw [hq.1, hq.2, gI_same]; exact ⟨h1, h2⟩
    · rw [gI_oth _ _ hq]; exact h.2.2 c' p'
theorem NI_p0 {s t t' : mz_St} {c p : Nat} {v : Int32} (h : NI s t) (e : t' = mz_pI t c p v) (hk : bxN c p = 0) : NI s t' := by
  rw [e]
  exact NI_put h (by rw [hk]; decide) (by rw [hk]; exact ti_lo v) (by rw [hk]; exact ti_hi v)
theorem NI_pL {s t t' : mz_St} {c p : Nat} {v : Int64} (h : NI s t) (e : t' = mz_pL t c p v) : NI s t' := by
  rw [e]; exact h
theorem NI_13 {s t : mz_St} {c p : Nat} (h : NI s t) (hk : bxN c p = 13) : (mz_gI t c p).toInt = (mz_gI s c p).toInt := by rw [h.2.1 c p hk]
theorem NI_p2 {s t t' : mz_St} {c p : Nat} {v : Int32} (h : NI s t) (e : t' = mz_pI t c p v) (hk : bxN c p = 2) (h1 : 0 ≤ v.toInt) (h2 : v.toInt ≤ 1) : NI s t' := by
  rw [e]
  exact NI_put h (by rw [hk]; decide) (by rw [hk]; exact h1) (by rw [hk]; exact h2)
theorem NI_g2 {s t : mz_St} {c p : Nat} (h : NI s t) (hk : bxN c p = 2) : 0 ≤ (mz_gI t c p).toInt ∧ (mz_gI t c p).toInt ≤ 1 := by
  have := h.2.2 c p
  rw [hk] at this
  exact this
theorem NI_p5 {s t t' : mz_St} {c p : Nat} {v : Int32} (h : NI s t) (e : t' = mz_pI t c p v) (hk : bxN c p = 5) (h1 : 0 ≤ v.toInt) (h2 : v.toInt ≤ 64) : NI s t' := by
  rw [e]
  exact NI_put h (by rw [hk]; decide) (by rw [hk]; exact h1) (by rw [hk]; exact h2)
theorem NI_g5 {s t : mz_St} {c p : Nat} (h : NI s t) (hk : bxN c p = 5) : 0 ≤ (mz_gI t c p).toInt ∧ (mz_gI t c p).toInt ≤ 64 := by
  have := h.2.2 c p
  rw [hk] at this
  exact this
theorem NI_p7 {s t t' : mz_St} {c p : Nat} {v : Int32} (h : NI s t) (e : t' = mz_pI t c p v) (hk : bxN c p = 7) (h1 : 0 ≤ v.toInt) (h2 : v.toInt ≤ 1000) : NI s t' := by
  rw [e]
  exact NI_put h (by rw [hk]; decide) (by rw [hk]; exact h1) (by rw [hk]; exact h2)
theorem NI_g7 {s t : mz_St} {c p : Nat} (h : NI s t) (hk : bxN c p = 7) : 0 ≤ (mz_gI t c p).toInt ∧ (mz_gI t c p).toInt ≤ 1000 := by
  have := h.2.2 c p
  rw [hk] at this
  exact this
theorem NI_p8 {s t t' : mz_St} {c p : Nat} {v : Int32} (h : NI s t) (e : t' = mz_pI t c p v) (hk : bxN c p = 8) (h1 : 0 ≤ v.toInt) (h2 : v.toInt ≤ 12000) : NI s t' := by
  rw [e]
  exact NI_put h (by rw [hk]; decide) (by rw [hk]; exact h1) (by rw [hk]; exact h2)
theorem NI_g8 {s t : mz_St} {c p : Nat} (h : NI s t) (hk : bxN c p = 8) : 0 ≤ (mz_gI t c p).toInt ∧ (mz_gI t c p).toInt ≤ 12000 := by
  have := h.2.2 c p
  rw [hk] at this
  exact this
theorem NI_p21 {s t t' : mz_St} {c p : Nat} {v : Int32} (h : NI s t) (e : t' = mz_pI t c p v) (hk : bxN c p = 21) (h1 : 0 ≤ v.toInt) (h2 : v.toInt ≤ 24000) : NI s t' := by
  rw [e]
  exact NI_put h (by rw [hk]; decide) (by rw [hk]; exact h1) (by rw [hk]; exact h2)
theorem NI_g21 {s t : mz_St} {c p : Nat} (h : NI s t) (hk : bxN c p = 21) : 0 ≤ (mz_gI t c p).toInt ∧ (mz_gI t c p).toInt ≤ 24000 := by
  have := h.2.2 c p
  rw [hk] at this
  exact this
theorem NI_p22 {s t t' : mz_St} {c p : Nat} {v : Int32} (h : NI s t) (e : t' = mz_pI t c p v) (hk : bxN c p = 22) (h1 : 0 ≤ v.toInt) (h2 : v.toInt ≤ 48000) : NI s t' := by
  rw [e]
  exact NI_put h (by rw [hk]; decide) (by rw [hk]; exact h1) (by rw [hk]; exact h2)
theorem NI_g22 {s t : mz_St} {c p : Nat} (h : NI s t) (hk : bxN c p = 22) : 0 ≤ (mz_gI t c p).toInt ∧ (mz_gI t c p).toInt ≤ 48000 := by
  have := h.2.2 c p
  rw [hk] at this
  exact this
theorem NI_p23 {s t t' : mz_St} {c p : Nat} {v : Int32} (h : NI s t) (e : t' = mz_pI t c p v) (hk : bxN c p = 23) (h1 : 0 ≤ v.toInt) (h2 : v.toInt ≤ 6000) : NI s t' := by
  rw [e]
  exact NI_put h (by rw [hk]; decide) (by rw [hk]; exact h1) (by rw [hk]; exact h2)
theorem NI_g23 {s t : mz_St} {c p : Nat} (h : NI s t) (hk : bxN c p = 23) : 0 ≤ (mz_gI t c p).toInt ∧ (mz_gI t c p).toInt ≤ 6000 := by
  have := h.2.2 c p
  rw [hk] at this
  exact this
theorem NI_p24 {s t t' : mz_St} {c p : Nat} {v : Int32} (h : NI s t) (e : t' = mz_pI t c p v) (hk : bxN c p = 24) (h1 : 0 ≤ v.toInt) (h2 : v.toInt ≤ 7000) : NI s t' := by
  rw [e]
  exact NI_put h (by rw [hk]; decide) (by rw [hk]; exact h1) (by rw [hk]; exact h2)
theorem NI_g24 {s t : mz_St} {c p : Nat} (h : NI s t) (hk : bxN c p = 24) : 0 ≤ (mz_gI t c p).toInt ∧ (mz_gI t c p).toInt ≤ 7000 := by
  have := h.2.2 c p
  rw [hk] at this
  exact this
theorem NI_p29 {s t t' : mz_St} {c p : Nat} {v : Int32} (h : NI s t) (e : t' = mz_pI t c p v) (hk : bxN c p = 29) (h1 : 0 ≤ v.toInt) (h2 : v.toInt ≤ 2147483647) : NI s t' := by
  rw [e]
  exact NI_put h (by rw [hk]; decide) (by rw [hk]; exact h1) (by rw [hk]; exact h2)
theorem NI_g29 {s t : mz_St} {c p : Nat} (h : NI s t) (hk : bxN c p = 29) : 0 ≤ (mz_gI t c p).toInt ∧ (mz_gI t c p).toInt ≤ 2147483647 := by
  have := h.2.2 c p
  rw [hk] at this
  exact this
theorem FX_0_2 {t : mz_St} (h : FX t) : 0 ≤ (mz_gI t 0 2).toInt ∧ (mz_gI t 0 2).toInt ≤ 3000 := h.1
theorem FX_0_3 {t : mz_St} (h : FX t) : 0 ≤ (mz_gI t 0 3).toInt ∧ (mz_gI t 0 3).toInt ≤ 3001 := h.2.1
theorem FX_0_8 {t : mz_St} (h : FX t) : 0 ≤ (mz_gI t 0 8).toInt ∧ (mz_gI t 0 8).toInt ≤ 4001 := h.2.2.1
theorem FX_0_12 {t : mz_St} (h : FX t) : 0 ≤ (mz_gI t 0 12).toInt ∧ (mz_gI t 0 12).toInt ≤ 16 := h.2.2.2.1
theorem FX_0_34 {t : mz_St} (h : FX t) : 0 ≤ (mz_gI t 0 34).toInt ∧ (mz_gI t 0 34).toInt ≤ 13 := h.2.2.2.2.1
theorem FX_0_48 {t : mz_St} (h : FX t) : 0 ≤ (mz_gI t 0 48).toInt ∧ (mz_gI t 0 48).toInt ≤ 24000 := h.2.2.2.2.2.1
theorem FX_0_51 {t : mz_St} (h : FX t) : 0 ≤ (mz_gI t 0 51).toInt ∧ (mz_gI t 0 51).toInt ≤ 48000 := h.2.2.2.2.2.2.1
theorem FX_0_53 {t : mz_St} (h : FX t) : 0 ≤ (mz_gI t 0 53).toInt ∧ (mz_gI t 0 53).toInt ≤ 8 := h.2.2.2.2.2.2.2.1
theorem FX_0_75 {t : mz_St} (h : FX t) : 0 ≤ (mz_gI t 0 75).toInt ∧ (mz_gI t 0 75).toInt ≤ 6 := h.2.2.2.2.2.2.2.2.1
theorem FX_2 {t : mz_St} (h : FX t) (p : Nat) : 0 ≤ (mz_gI t 2 p).toInt ∧ (mz_gI t 2 p).toInt ≤ 3000 := h.2.2.2.2.2.2.2.2.2.1 p
theorem FX_3 {t : mz_St} (h : FX t) (p : Nat) : 0 ≤ (mz_gI t 3 p).toInt ∧ (mz_gI t 3 p).toInt ≤ 3000 := h.2.2.2.2.2.2.2.2.2.2.1 p
theorem FX_6 {t : mz_St} (h : FX t) (p : Nat) : 0 ≤ (mz_gI t 6 p).toInt ∧ (mz_gI t 6 p).toInt ≤ 3001 := h.2.2.2.2.2.2.2.2.2.2.2.1 p
theorem FX_7 {t : mz_St} (h : FX t) (p : Nat) : 0 ≤ (mz_gI t 7 p).toInt ∧ (mz_gI t 7 p).toInt ≤ 3001 := h.2.2.2.2.2.2.2.2.2.2.2.2.1 p
theorem FX_10 {t : mz_St} (h : FX t) (p : Nat) : 0 ≤ (mz_gI t 10 p).toInt ∧ (mz_gI t 10 p).toInt ≤ 6 := h.2.2.2.2.2.2.2.2.2.2.2.2.2.1 p
theorem FX_13 {t : mz_St} (h : FX t) (p : Nat) : -1 ≤ (mz_gI t 13 p).toInt ∧ (mz_gI t 13 p).toInt ≤ 3000 := h.2.2.2.2.2.2.2.2.2.2.2.2.2.2.1 p
theorem FX_14 {t : mz_St} (h : FX t) (p : Nat) : -1 ≤ (mz_gI t 14 p).toInt ∧ (mz_gI t 14 p).toInt ≤ 3000 := h.2.2.2.2.2.2.2.2.2.2.2.2.2.2.2.1 p
theorem FX_23 {t : mz_St} (h : FX t) (p : Nat) : 0 ≤ (mz_gI t 23 p).toInt ∧ (mz_gI t 23 p).toInt ≤ 3001 := h.2.2.2.2.2.2.2.2.2.2.2.2.2.2.2.2.1 p
theorem FX_24 {t : mz_St} (h : FX t) (p : Nat) : 0 ≤ (mz_gI t 24 p).toInt ∧ (mz_gI t 24 p).toInt ≤ 3001 := h.2.2.2.2.2.2.2.2.2.2.2.2.2.2.2.2.2.1 p
theorem FX_25 {t : mz_St} (h : FX t) (p : Nat) : 0 ≤ (mz_gI t 25 p).toInt ∧ (mz_gI t 25 p).toInt ≤ 3001 := h.2.2.2.2.2.2.2.2.2.2.2.2.2.2.2.2.2.2.1 p
theorem FX_26 {t : mz_St} (h : FX t) (p : Nat) : -1 ≤ (mz_gI t 26 p).toInt ∧ (mz_gI t 26 p).toInt ≤ 4000 := h.2.2.2.2.2.2.2.2.2.2.2.2.2.2.2.2.2.2.2.1 p
theorem FX_27 {t : mz_St} (h : FX t) (p : Nat) : 0 ≤ (mz_gI t 27 p).toInt ∧ (mz_gI t 27 p).toInt ≤ 4000 := h.2.2.2.2.2.2.2.2.2.2.2.2.2.2.2.2.2.2.2.2.1 p
theorem FX_28 {t : mz_St} (h : FX t) (p : Nat) : 0 ≤ (mz_gI t 28 p).toInt ∧ (mz_gI t 28 p).toInt ≤ 15 := h.2.2.2.2.2.2.2.2.2.2.2.2.2.2.2.2.2.2.2.2.2.1 p
theorem FX_30 {t : mz_St} (h : FX t) (p : Nat) : 0 ≤ (mz_gI t 30 p).toInt ∧ (mz_gI t 30 p).toInt ≤ 8 := h.2.2.2.2.2.2.2.2.2.2.2.2.2.2.2.2.2.2.2.2.2.2.1 p
theorem FX_31 {t : mz_St} (h : FX t) (p : Nat) : 0 ≤ (mz_gI t 31 p).toInt ∧ (mz_gI t 31 p).toInt ≤ 6420 := h.2.2.2.2.2.2.2.2.2.2.2.2.2.2.2.2.2.2.2.2.2.2.2.1 p
theorem FX_32 {t : mz_St} (h : FX t) (p : Nat) : 0 ≤ (mz_gI t 32 p).toInt ∧ (mz_gI t 32 p).toInt ≤ 42500 := h.2.2.2.2.2.2.2.2.2.2.2.2.2.2.2.2.2.2.2.2.2.2.2.2.1 p
theorem FX_35 {t : mz_St} (h : FX t) (p : Nat) : 0 ≤ (mz_gI t 35 p).toInt ∧ (mz_gI t 35 p).toInt ≤ 48000 := h.2.2.2.2.2.2.2.2.2.2.2.2.2.2.2.2.2.2.2.2.2.2.2.2.2.1 p
theorem FX_36 {t : mz_St} (h : FX t) (p : Nat) : 0 ≤ (mz_gI t 36 p).toInt ∧ (mz_gI t 36 p).toInt ≤ 48000 := h.2.2.2.2.2.2.2.2.2.2.2.2.2.2.2.2.2.2.2.2.2.2.2.2.2.2.1 p
theorem FX_38 {t : mz_St} (h : FX t) (p : Nat) : 0 ≤ (mz_gI t 38 p).toInt ∧ (mz_gI t 38 p).toInt ≤ 1 := h.2.2.2.2.2.2.2.2.2.2.2.2.2.2.2.2.2.2.2.2.2.2.2.2.2.2.2.1 p
theorem FX_39 {t : mz_St} (h : FX t) (p : Nat) : 0 ≤ (mz_gI t 39 p).toInt ∧ (mz_gI t 39 p).toInt ≤ 1 := h.2.2.2.2.2.2.2.2.2.2.2.2.2.2.2.2.2.2.2.2.2.2.2.2.2.2.2.2.1 p
theorem FX_40 {t : mz_St} (h : FX t) (p : Nat) : 0 ≤ (mz_gI t 40 p).toInt ∧ (mz_gI t 40 p).toInt ≤ 1 := h.2.2.2.2.2.2.2.2.2.2.2.2.2.2.2.2.2.2.2.2.2.2.2.2.2.2.2.2.2.1 p
theorem FX_41 {t : mz_St} (h : FX t) (p : Nat) : 0 ≤ (mz_gI t 41 p).toInt ∧ (mz_gI t 41 p).toInt ≤ 1 := h.2.2.2.2.2.2.2.2.2.2.2.2.2.2.2.2.2.2.2.2.2.2.2.2.2.2.2.2.2.2.1 p
theorem FX_53 {t : mz_St} (h : FX t) (p : Nat) : -1 ≤ (mz_gI t 53 p).toInt ∧ (mz_gI t 53 p).toInt ≤ 9000 := h.2.2.2.2.2.2.2.2.2.2.2.2.2.2.2.2.2.2.2.2.2.2.2.2.2.2.2.2.2.2.2.1 p
theorem FX_54 {t : mz_St} (h : FX t) (p : Nat) : -1 ≤ (mz_gI t 54 p).toInt ∧ (mz_gI t 54 p).toInt ≤ 9000 := h.2.2.2.2.2.2.2.2.2.2.2.2.2.2.2.2.2.2.2.2.2.2.2.2.2.2.2.2.2.2.2.2.1 p
theorem FX_l {t : mz_St} (h : FX t) (p : Nat) : (mz_gI t 2 p).toInt ≤ (mz_gI t 3 p).toInt := h.2.2.2.2.2.2.2.2.2.2.2.2.2.2.2.2.2.2.2.2.2.2.2.2.2.2.2.2.2.2.2.2.2 p
