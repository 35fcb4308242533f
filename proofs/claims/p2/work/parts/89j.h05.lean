/-! a parameters -/
set_option maxRecDepth 4000 in
set_option maxHeartbeats 8000000 in
theorem pI_pI' (t : mz_St) (k j : Nat) (v w : Int32) : mz_pI (mz_pI t k j v) k j w = mz_pI t k j w := by
  unfold mz_pI
  refine Prod.ext ?_ rfl
  funext a b
  by_cases h : a = k ∧ b = j <;> simp [h]
set_option maxRecDepth 4000 in
set_option maxHeartbeats 8000000 in
theorem pI_self' (t : mz_St) (k j : Nat) : mz_pI t k j (mz_gI t k j) = t := by
  unfold mz_pI
  refine Prod.ext ?_ rfl
  funext a b
  show (if a = k ∧ b = j then mz_gI t k j else t.1 a b) = t.1 a b
  by_cases hq : a = k ∧ b = j
  · rw [if_pos hq, hq.1, hq.2]; rfl
  · rw [if_neg hq]
def rD (t : mz_St) (j : Nat) (a b : Int32) : mz_St := mz_pI (mz_pI t 53 j a) 54 j b
set_option maxRecDepth 4000 in
set_option maxHeartbeats 8000000 in
theorem rD_94 {n : Nat} {x1 x2 x3 : Int32} {t : mz_St} (h0 : 0 ≤ (mz_gI t 0 75).toInt) (h1 : (mz_gI t 0 75).toInt ≤ 6) : f_MO_readDefault_94 n x1 x2 x3 t = some (rD t (mz_gI t 0 75).toNatClampNeg (x2 + x1) (x3 + x1)) := by
  have hx : ¬ ((mz_gI t 0 75) < 0 ∨ 8 ≤ (mz_gI t 0 75).toNatClampNeg) := ti_ix h0 (by omega)
  unfold f_MO_readDefault_94
  simp only [mz_let]
  rw [if_pos hx, gI_z _ _ (by decide), if_pos hx]
  rfl
set_option maxRecDepth 4000 in
set_option maxHeartbeats 8000000 in
theorem rD_70 {n : Nat} {x1 x2 : Int32} {t : mz_St} (h0 : 0 ≤ (mz_gI t 0 75).toInt) (h1 : (mz_gI t 0 75).toInt ≤ 6) (h2 : 0 ≤ x2.toInt) : ∀ (k : Nat) (x3 : Int32), x2.toInt ≤ x3.toInt → x3.toInt ≤ 6000 → (x3.toInt + 2147483648).toNat < k → Tp (f_MO_readDefault_70 n k x1 x2 x3 t) (fun r => ∃ b : Int32, r = rD t (mz_gI t 0 75).toNatClampNeg (x2 + x1) (b + x1) ∧ x2.toInt ≤ b.toInt ∧ b.toInt ≤ x3.toInt) := by
  intro k
  induction k with
  | zero => intros; omega
  | succ k ih =>
    intro x3 h3 h4 hk
    have l1 : (1 : Int32).toInt = 1 := rfl
    unfold f_MO_readDefault_70
    simp only [ti_m1]
    rw [rD_94 h0 h1]
    refine Tp_if (fun _ => Tp_so ⟨x3, rfl, h3, Int.le_refl _⟩) (fun h => ?_)
    have h' := ti_ne h
    have e : (x3 - (1 : Int32)).toInt = x3.toInt - (1 : Int32).toInt := ti_sub (by omega) (by omega)
    refine Tp_gd (ti_ix (by omega) (by omega)) ?_
    refine Tp_if (fun _ => ?_) (fun _ => Tp_so ⟨x3, rfl, h3, Int.le_refl _⟩)
    refine Tp_mo (ih (x3 - 1) (by omega) (by omega) (by omega)) (fun r hr => ?_)
    obtain ⟨b, e1, e2, e3⟩ := hr
    exact ⟨b, e1, e2, by omega⟩
set_option maxRecDepth 4000 in
set_option maxHeartbeats 8000000 in
theorem rD_48 {n : Nat} (hn : 8589934592 ≤ n) {x1 x3 : Int32} {t : mz_St} (h0 : 0 ≤ (mz_gI t 0 75).toInt) (h1 : (mz_gI t 0 75).toInt ≤ 6) (h4 : x3.toInt ≤ 6000) : ∀ (k : Nat) (x2 : Int32), 0 ≤ x2.toInt → x2.toInt ≤ x3.toInt → (2147483648 - x2.toInt).toNat < k → Tp (f_MO_readDefault_48 n k x1 x2 x3 t) (fun r => ∃ a b : Int32, r = rD t (mz_gI t 0 75).toNatClampNeg (a + x1) (b + x1) ∧ x2.toInt ≤ a.toInt ∧ a.toInt ≤ b.toInt ∧ b.toInt ≤ x3.toInt) := by
  intro k
  induction k with
  | zero => intros; omega
  | succ k ih =>
    intro x2 h2 h3 hk
    have l1 : (1 : Int32).toInt = 1 := rfl
    have go : Tp (f_MO_readDefault_70 n n x1 x2 x3 t) (fun r => ∃ a b : Int32, r = rD t (mz_gI t 0 75).toNatClampNeg (a + x1) (b + x1) ∧ x2.toInt ≤ a.toInt ∧ a.toInt ≤ b.toInt ∧ b.toInt ≤ x3.toInt) := by
      refine Tp_mo (rD_70 (n := n) (x1 := x1) h0 h1 h2 n x3 h3 h4 (by omega)) (fun r hr => ?_)
      obtain ⟨b, e1, e2, e3⟩ := hr
      exact ⟨x2, b, e1, Int.le_refl _, e2, e3⟩
    unfold f_MO_readDefault_48
    refine Tp_if (fun _ => go) (fun h => ?_)
    have h' := ti_ne h
    have e : (x2 + (1 : Int32)).toInt = x2.toInt + (1 : Int32).toInt := ti_add (by omega) (by omega)
    refine Tp_gd (ti_ix (by omega) (by omega)) ?_
    refine Tp_if (fun _ => ?_) (fun _ => go)
    refine Tp_mo (ih (x2 + 1) (by omega) (by omega) (by omega)) (fun r hr => ?_)
    obtain ⟨a, b, e1, e2, e3, e4⟩ := hr
    exact ⟨a, b, e1, by omega, e3, e4⟩
set_option maxRecDepth 4000 in
set_option maxHeartbeats 8000000 in
theorem rD_5 {n : Nat} (hn : 8589934592 ≤ n) {x1 x2 : Int32} (h2 : 0 ≤ x2.toInt) : ∀ (k : Nat) (t : mz_St), 0 ≤ (mz_gI t 0 75).toInt → (mz_gI t 0 75).toInt ≤ 6 → (mz_gI t 0 60).toInt ≤ 6000 → x2.toInt ≤ (mz_gI t 0 61).toInt → (mz_gI t 0 61).toInt ≤ (mz_gI t 0 60).toInt → (2147483648 - (mz_gI t 0 61).toInt).toNat < k →
    Tp (f_MO_readDefault_5 n k x1 x2 t) (fun r => ∃ q a b : Int32, r = rD (mz_pI t 0 61 q) (mz_gI t 0 75).toNatClampNeg (a + x1) (b + x1) ∧ x2.toInt ≤ a.toInt ∧ a.toInt ≤ b.toInt ∧ b.toInt ≤ q.toInt ∧ (mz_gI t 0 61).toInt ≤ q.toInt ∧ q.toInt ≤ (mz_gI t 0 60).toInt) := by
  intro k
  induction k with
  | zero => intros; omega
  | succ k ih =>
    intro t h75 h75' h60 hx hq hk
    have l1 : (1 : Int32).toInt = 1 := rfl
    have go : Tp (f_MO_readDefault_43 n x1 x2 t) (fun r => ∃ q a b : Int32, r = rD (mz_pI t 0 61 q) (mz_gI t 0 75).toNatClampNeg (a + x1) (b + x1) ∧ x2.toInt ≤ a.toInt ∧ a.toInt ≤ b.toInt ∧ b.toInt ≤ q.toInt ∧ (mz_gI t 0 61).toInt ≤ q.toInt ∧ q.toInt ≤ (mz_gI t 0 60).toInt) := by
      unfold f_MO_readDefault_43
      refine Tp_mo (rD_48 hn (x1 := x1) (x3 := mz_gI t 0 61) h75 h75' (by omega) n x2 h2 hx (by omega)) (fun r hr => ?_)
      obtain ⟨a, b, e1, e2, e3, e4⟩ := hr
      refine ⟨mz_gI t 0 61, a, b, ?_, e2, e3, e4, Int.le_refl _, hq⟩
      rw [pI_self']
      exact e1
    unfold f_MO_readDefault_5
    refine Tp_if (fun _ => go) (fun h => ?_)
    have h' := ti_ne h
    refine Tp_gd (ti_ix (by omega) (by omega)) ?_
    refine Tp_if (fun _ => go) (fun _ => ?_)
    refine Tp_le (fun t4 e4 => ?_)
    have e : (mz_gI t 0 61 + (1 : Int32)).toInt = (mz_gI t 0 61).toInt + (1 : Int32).toInt := ti_add (by omega) (by omega)
    have g61 : mz_gI t4 0 61 = mz_gI t 0 61 + 1 := by rw [e4, gI_same]
    have g60 : mz_gI t4 0 60 = mz_gI t 0 60 := by rw [e4, gI_oth _ _ (by simp)]
    have g75 : mz_gI t4 0 75 = mz_gI t 0 75 := by rw [e4, gI_oth _ _ (by simp)]
    refine Tp_mo (ih t4 (by rw [g75]; exact h75) (by rw [g75]; exact h75') (by rw [g60]; exact h60) (by rw [g61]; omega) (by rw [g61, g60]; omega) (by rw [g61]; omega)) (fun r hr => ?_)
    obtain ⟨q, a, b, e1, e2, e3, e5, e6, e7⟩ := hr
    refine ⟨q, a, b, ?_, e2, e3, e5, by rw [g61] at e6; omega, by rw [g60] at e7; exact e7⟩
    rw [e1, g75, e4, pI_pI']
/-- what stays while parameters are read -/
def QQ (t0 t : mz_St) : Prop := (∀ c p, bxM c p = 13 → ¬ (c = 53 ∨ c = 54 ∨ c = 0 ∧ p = 75) → mz_gI t c p = mz_gI t0 c p) ∧ mz_gI t 0 60 = mz_gI t0 0 60
set_option maxRecDepth 4000 in
set_option maxHeartbeats 8000000 in
theorem QQ.m {t0 s t : mz_St} (h : QQ t0 s) (m : MI s t) (e : (mz_gI t 0 60).toInt = (mz_gI s 0 60).toInt) : QQ t0 t := ⟨fun c p hc hn => (m.2.1 c p hc).trans (h.1 c p hc hn), (Int32.toInt_inj.mp e).trans h.2⟩
set_option maxRecDepth 4000 in
set_option maxHeartbeats 8000000 in
theorem QQ.p {t0 t t' : mz_St} {c p : Nat} {v : Int32} (h : QQ t0 t) (e : t' = mz_pI t c p v) (hc : c = 53 ∨ c = 54 ∨ c = 0 ∧ p = 75 ∨ c = 0 ∧ (p = 61 ∨ p = 62)) : QQ t0 t' := by
  refine ⟨fun x y hx hn => ?_, ?_⟩
  · rw [e, gI_oth t v (fun z => ?_)]
    · exact h.1 x y hx hn
    · obtain ⟨rfl, rfl⟩ := z
      rcases hc with h | h | h | ⟨rfl, h | h⟩
      · exact hn (Or.inl h)
      · exact hn (Or.inr (Or.inl h))
      · exact hn (Or.inr (Or.inr h))
      · rw [h] at hx; exact absurd hx (by decide)
      · rw [h] at hx; exact absurd hx (by decide)
  · rw [e, gI_oth t v (by omega)]; exact h.2
def GP (x1 : Int) (t : mz_St) : Prop := (mz_gI t 0 62).toInt = 0 ∨ ((mz_gI t 0 61).toInt ≤ (mz_gI t 0 60).toInt ∧ ds (mz_gI t 53) (mz_gI t 54) 0 (mz_gI t 0 75).toNatClampNeg ≤ (mz_gI t 0 61).toInt ∧ ∀ k, k < (mz_gI t 0 75).toNatClampNeg → (mz_gI t 53 k).toInt ≤ (mz_gI t 54 k).toInt ∧ (mz_gI t 54 k).toInt ≤ (mz_gI t 0 60).toInt + x1)
set_option maxRecDepth 4000 in
set_option maxHeartbeats 8000000 in
theorem ds_cg {g h g' h' : Nat → Int32} {b : Nat} : ∀ k, (∀ j, j < k → g (b + j) = g' (b + j) ∧ h (b + j) = h' (b + j)) → ds g h b k = ds g' h' b k := by
  intro k
  induction k with
  | zero => intro _; rfl
  | succ k ih =>
    intro e
    have e1 : ds g h b (k + 1) = ds g h b k + (if (g (b + k)).toInt ≤ (h (b + k)).toInt then (h (b + k)).toInt - (g (b + k)).toInt else 0) := rfl
    have e2 : ds g' h' b (k + 1) = ds g' h' b k + (if (g' (b + k)).toInt ≤ (h' (b + k)).toInt then (h' (b + k)).toInt - (g' (b + k)).toInt else 0) := rfl
    rw [e1, e2, ih (fun j hj => e j (by omega)), (e k (by omega)).1, (e k (by omega)).2]
