/-- frames are closed down to f -/
def dF (t r : mz_St) (f : Int) : Prop := (∀ c, c ≠ 0 → mz_gI r c = mz_gI t c) ∧ (∀ p, p ≠ 34 → p ≠ 48 → p ≠ 51 → mz_gI r 0 p = mz_gI t 0 p) ∧ (mz_gI r 0 34).toInt = f
theorem l_MO_leave {n : Nat} {L : Int32} {t0 : mz_St} {x1 : Int32} (h1 : 1 ≤ x1.toInt) : ∀ (k : Nat) (t : mz_St), AI L t → x1.toInt ≤ (mz_gI t 0 34).toInt → dF t0 t (mz_gI t 0 34).toInt → ((mz_gI t 0 34).toInt = x1.toInt → RB (mz_gI t 0 34).toInt (mz_gI t 0 48).toInt (mz_gI t 0 51).toInt) → (mz_gI t 0 34).toInt.toNat < k →
    Tp (f_MO_leave_50 n k x1 t) (fun r => AI L r ∧ dF t0 r x1.toInt ∧ RB (mz_gI r 0 34).toInt (mz_gI r 0 48).toInt (mz_gI r 0 51).toInt) := by
  intro k
  induction k with
  | zero => intros; omega
  | succ k ih =>
    intro t a hx d rb hk
    have f34 := FX_0_34 a.1.1
    have l1 : (1 : Int32).toInt = 1 := rfl
    unfold f_MO_leave_50
    refine Tp_if (fun h => ?_) (fun h => ?_)
    · have h' := ti_e h
      have e : (mz_gI t 0 34).toInt = x1.toInt := by omega
      refine Tp_so ⟨a, ⟨d.1, d.2.1, e⟩, rb e⟩
    · have h' := ti_ne h
      have l34 : (mz_gI t 0 34 - (1 : Int32)).toInt = (mz_gI t 0 34).toInt - (1 : Int32).toInt := ti_sub (by omega) (by omega)
      have hcl := ti_cl (mz_gI t 0 34 - 1)
      rw [eF_eq (by omega) (by omega)]
      have hf : (((mz_gI t 0 34) - 1).toNatClampNeg : Int) = (mz_gI t 0 34).toInt - 1 := by omega
      have e34 : (mz_gI (eF t ((mz_gI t 0 34) - 1).toNatClampNeg) 0 34).toInt = (mz_gI t 0 34).toInt - 1 := by rw [eF_34.1]; omega
      exact ih _ (eF_AI a hf) (by omega) ⟨fun c hc => (eF_row hc).trans (d.1 c hc), fun p p1 p2 p3 => (eF_0 p1 p2 p3).trans (d.2.1 p p1 p2 p3), rfl⟩ (fun _ => eF_RB a hf) (by omega)
theorem s_MO_leave {n : Nat} {L : Int32} (hn : 8589934592 ≤ n) {t : mz_St} (ci : HI L t) (i0 : (((mz_gI t 0 34).toInt ≤ 1 ∧ (mz_gI t 0 48).toInt ≤ 0) ∨ (2 ≤ (mz_gI t 0 34).toInt ∧ (mz_gI t 0 48).toInt ≤ 2390 + 310 * (mz_gI t 0 34).toInt))) (i1 : (((mz_gI t 0 34).toInt ≤ 1 ∧ (mz_gI t 0 51).toInt ≤ 0) ∨ (2 ≤ (mz_gI t 0 34).toInt ∧ (mz_gI t 0 51).toInt ≤ 3310 * (mz_gI t 0 34).toInt - 610))) (i2 : 1 ≤ (mz_gI t 0 34).toInt) :
    Tp (f_MO_leave n t) (fun r => HI L r ∧ (0 < (mz_gI r 0 6).toInt ∨ (((mz_gI r 0 34).toInt ≤ 1 ∧ (mz_gI r 0 48).toInt ≤ 0) ∨ (2 ≤ (mz_gI r 0 34).toInt ∧ (mz_gI r 0 48).toInt ≤ 2390 + 310 * (mz_gI r 0 34).toInt))) ∧ (0 < (mz_gI r 0 6).toInt ∨ (((mz_gI r 0 34).toInt ≤ 1 ∧ (mz_gI r 0 51).toInt ≤ 0) ∨ (2 ≤ (mz_gI r 0 34).toInt ∧ (mz_gI r 0 51).toInt ≤ 3310 * (mz_gI r 0 34).toInt - 610))) ∧ (0 < (mz_gI r 0 6).toInt ∨ (mz_gI t 0 8).toInt ≤ (mz_gI r 0 8).toInt)) := by
  unfold f_MO_leave
  refine Tp_bi (s_MO_macroFrame hn ci.1.1) (fun q hq => ?_)
  obtain ⟨-, eq, q1, q2, q3, q4⟩ := hq
  rw [eq]
  refine Tp_bi (s_MO_lineEnds hn ci.1.1) (fun u hu => ?_)
  obtain ⟨mu, -, -⟩ := hu
  have cu := HI_tr ci mu
  have fl : ∀ x y, 0 < x.toInt → Tp ((f_MO_fail n x y u).bind fun q14 => some q14) (fun r => HI L r ∧ (0 < (mz_gI r 0 6).toInt ∨ (((mz_gI r 0 34).toInt ≤ 1 ∧ (mz_gI r 0 48).toInt ≤ 0) ∨ (2 ≤ (mz_gI r 0 34).toInt ∧ (mz_gI r 0 48).toInt ≤ 2390 + 310 * (mz_gI r 0 34).toInt))) ∧ (0 < (mz_gI r 0 6).toInt ∨ (((mz_gI r 0 34).toInt ≤ 1 ∧ (mz_gI r 0 51).toInt ≤ 0) ∨ (2 ≤ (mz_gI r 0 34).toInt ∧ (mz_gI r 0 51).toInt ≤ 3310 * (mz_gI r 0 34).toInt - 610))) ∧ (0 < (mz_gI r 0 6).toInt ∨ (mz_gI t 0 8).toInt ≤ (mz_gI r 0 8).toInt)) := by
    intro x y hx
    refine Tp_bi (s_MO_failL hn cu hx) (fun q hq => ?_)
    exact Tp_so ⟨hq.1, Or.inl hq.2.2.1, Or.inl hq.2.2.1, Or.inl hq.2.2.1⟩
  refine Tp_if (fun _ => fl _ _ (by decide)) (fun _ => ?_)
  refine Tp_if (fun h => ?_) (fun _ => fl _ _ (by decide))
  have h' := ti_e h
  rw [show (0 : Int32).toInt = 0 from rfl] at h'
  refine Tp_gd (ti_ix h' (by omega)) ?_
  have hcl := ti_cl q.1
  refine Tp_le (fun t8 e8 => ?_)
  have f30 := FX_30 (HI_FX cu) q.1.toNatClampNeg
  have a8 : AI L t8 := by
    rw [e8]
    exact AI_fix cu.1 (FXp_0_53 cu.1.1.1 (by omega) (by omega)) rfl (by simp) (RR_out cu.1.2.2 (by decide))
  have g34 : mz_gI t8 0 34 = mz_gI t 0 34 := by rw [e8, gI_oth _ _ (by simp), mu.2.1 0 34 rfl]
  have g48 : mz_gI t8 0 48 = mz_gI t 0 48 := by rw [e8, gI_oth _ _ (by simp), mu.2.1 0 48 rfl]
  have g51 : mz_gI t8 0 51 = mz_gI t 0 51 := by rw [e8, gI_oth _ _ (by simp), mu.2.1 0 51 rfl]
  have f34 := FX_0_34 (HI_FX ci)
  refine Tp_mo (l_MO_leave (n := n) (t0 := t8) (x1 := q.1) (by omega) n t8 a8 (by rw [g34]; omega) ⟨fun _ _ => rfl, fun _ _ _ _ => rfl, rfl⟩ (fun _ => by rw [g34, g48, g51]; exact ⟨i0, i1⟩) (by rw [g34]; omega)) (fun r hr => ?_)
  obtain ⟨ar, dr, rb⟩ := hr
  refine ⟨⟨ar, ?_⟩, Or.inr rb.1, Or.inr rb.2, Or.inr ?_⟩
  · obtain ⟨a, b, c, d⟩ := ci.2
    have r24 : mz_gI r 24 = mz_gI t 24 := by rw [dr.1 24 (by decide), e8, gI_row _ _ (by decide), MI_row mu (fun _ => rfl)]
    have r30 : mz_gI r 30 = mz_gI t 30 := by rw [dr.1 30 (by decide), e8, gI_row _ _ (by decide), MI_row mu (fun _ => rfl)]
    have r26 : mz_gI r 26 = mz_gI t 26 := by rw [dr.1 26 (by decide), e8, gI_row _ _ (by decide), MI_row mu (fun _ => rfl)]
    have r3 : mz_gI r 0 3 = mz_gI t 0 3 := by rw [dr.2.1 3 (by decide) (by decide) (by decide), e8, gI_oth _ _ (by simp), mu.2.1 0 3 rfl]
    have r53 : mz_gI r 0 53 = mz_gI t 30 q.1.toNatClampNeg := by rw [dr.2.1 53 (by decide) (by decide) (by decide), e8, gI_same, mu.2.1 30 _ rfl]
    unfold RC
    rw [r24, r30, r26, r3, r53, dr.2.2]
    exact ⟨a, fun p p' h1 h2 => b p p' h1 (by omega), fun p hp => b p _ (by omega) (by omega), fun p hp => d p (by omega)⟩
  · have : mz_gI r 0 8 = mz_gI t 0 8 := by rw [dr.2.1 8 (by decide) (by decide) (by decide), e8, gI_oth _ _ (by simp), mu.2.1 0 8 rfl]
    rw [this]
    exact Int.le_refl _
