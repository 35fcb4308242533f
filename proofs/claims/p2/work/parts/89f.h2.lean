theorem s_MO_atEnd {n : Nat} {L : Int32} (hn : 8589934592 ≤ n) {x1 : Int32} {t : mz_St} (ci : HI L t) (hF : 1 ≤ (mz_gI t 0 34).toInt) (hx : x1.toInt = (mz_gI t 0 34).toInt - 1) (rb : RB (mz_gI t 0 34).toInt (mz_gI t 0 48).toInt (mz_gI t 0 51).toInt) :
    Tp (f_MO_atEnd n x1 t) (fun r => HI L r ∧ (0 < (mz_gI r 0 6).toInt ∨ (RB (mz_gI r 0 34).toInt (mz_gI r 0 48).toInt (mz_gI r 0 51).toInt ∧ mz_gI r 0 8 = mz_gI t 0 8 ∧ lS (mz_gI r 26) (mz_gI r 0 34).toInt.toNat < lS (mz_gI t 26) (mz_gI t 0 34).toInt.toNat))) := by
  have f34 := FX_0_34 (HI_FX ci)
  have f53 := FX_0_53 (HI_FX ci)
  have hcl := ti_cl x1
  obtain ⟨f, hf⟩ : ∃ f, f = x1.toNatClampNeg := ⟨_, rfl⟩
  have hfF : (f : Int) = (mz_gI t 0 34).toInt - 1 := by omega
  have top := RC_top ci.2 f (by omega)
  have f30 := FX_30 (HI_FX ci) f
  have f26 := FX_26 (HI_FX ci) f
  have l0 := ci.2.2.2.2 f (by omega)
  have gx : ¬ (x1 < 0 ∨ 14 ≤ x1.toNatClampNeg) := ti_ix (by omega) (by omega)
  have l1 : (1 : Int32).toInt = 1 := rfl
  have e26 : (mz_gI t 26 f - (1 : Int32)).toInt = (mz_gI t 26 f).toInt - (1 : Int32).toInt := ti_sub (by omega) (by omega)
  have hN : (mz_gI t 0 34).toInt.toNat = f + 1 := by omega
  have lt : lS (mz_gI t 26) (mz_gI t 0 34).toInt.toNat = lS (mz_gI t 26) f + (mz_gI t 26 f).toInt + 1 := by rw [hN]; rfl
  have low : lS (mz_gI (aE t f) 26) f = lS (mz_gI t 26) f := lS_cg f (fun p hp => by rw [(aE_r p).1, if_neg (by omega)])
  unfold f_MO_atEnd
  rw [if_pos gx]
  refine Tp_if (fun h => ?_) (fun h => ?_)
  · simp only [mz_let]
    rw [if_pos gx, if_pos gx, if_pos gx, if_pos gx, if_pos gx, if_pos gx, if_pos gx, ← hf]
    have aI := aE_HI ci l0
    show Tp (if 0 < mz_gI (aE t f) 26 f then some (aE t f) else (f_MO_endFrame n (aE t f)).bind fun q14 => some q14) _
    have e34 : mz_gI (aE t f) 0 34 = mz_gI t 0 34 := by rw [aE_row (by decide) (by decide) (by decide)]
    have g26 : mz_gI (aE t f) 26 f = mz_gI t 26 f - 1 := by rw [(aE_r f).1, if_pos rfl]
    refine Tp_if (fun h2 => ?_) (fun h2 => ?_)
    · have h3 := ti_l h2
      rw [g26, show (0 : Int32).toInt = 0 from rfl] at h3
      refine Tp_so ⟨⟨aI, ?_⟩, Or.inr ⟨?_, ?_, ?_⟩⟩
      · obtain ⟨a, b, c, d⟩ := ci.2
        unfold RC
        rw [aE_row (c := 24) (by decide) (by decide) (by decide), aE_row (c := 30) (by decide) (by decide) (by decide), aE_row (c := 0) (by decide) (by decide) (by decide)]
        refine ⟨a, b, c, fun p hp => ?_⟩
        rw [(aE_r p).1]
        by_cases hq : p = f
        · rw [if_pos hq]; omega
        · rw [if_neg hq]; exact d p hp
      · rw [aE_row (c := 0) (by decide) (by decide) (by decide)]; exact rb
      · rw [aE_row (c := 0) (by decide) (by decide) (by decide)]
      · rw [e34, lt, hN]
        show lS (mz_gI (aE t f) 26) f + (mz_gI (aE t f) 26 f).toInt + 1 < _
        rw [low, g26, e26]
        omega
    · rw [eF_eq (by rw [e34]; exact hF) (by rw [e34]; omega)]
      have l34 : (mz_gI t 0 34 - (1 : Int32)).toInt = (mz_gI t 0 34).toInt - (1 : Int32).toInt := ti_sub (by omega) (by omega)
      have hcl2 := ti_cl (mz_gI t 0 34 - 1)
      have ef : (mz_gI (aE t f) 0 34 - 1).toNatClampNeg = f := by rw [e34]; omega
      rw [ef]
      have hf2 : (f : Int) = (mz_gI (aE t f) 0 34).toInt - 1 := by rw [e34]; exact hfF
      refine Tp_so ⟨⟨eF_AI aI hf2, ?_⟩, Or.inr ⟨eF_RB aI hf2, ?_, ?_⟩⟩
      · obtain ⟨a, b, c, d⟩ := ci.2
        unfold RC
        rw [eF_34.1, e34, eF_row (c := 24) (by decide), eF_row (c := 30) (by decide), eF_row (c := 26) (by decide), eF_0 (p := 3) (by decide) (by decide) (by decide), eF_0 (p := 53) (by decide) (by decide) (by decide), l34, aE_row (c := 24) (by decide) (by decide) (by decide), aE_row (c := 30) (by decide) (by decide) (by decide), aE_row (c := 0) (by decide) (by decide) (by decide)]
        refine ⟨a, fun p q h1 h2 => b p q h1 (by omega), fun p h => c p (by omega), fun p h => ?_⟩
        rw [(aE_r p).1, if_neg (by omega)]
        exact d p (by omega)
      · rw [eF_0 (by decide) (by decide) (by decide), aE_row (c := 0) (by decide) (by decide) (by decide)]
      · rw [eF_34.1, e34, eF_row (by decide), lt, l34]
        have : ((mz_gI t 0 34).toInt - (1 : Int32).toInt).toNat = f := by omega
        rw [this, low]
        omega
  · have h4 := ti_nq h
    rw [← hf] at h4
    have e53 : (mz_gI t 0 53 - (1 : Int32)).toInt = (mz_gI t 0 53).toInt - (1 : Int32).toInt := ti_sub (by omega) (by omega)
    refine Tp_gd (ti_ix (by omega) (by omega)) ?_
    refine Tp_bi (s_MO_failL hn ci (by decide)) (fun q hq => ?_)
    exact Tp_so ⟨hq.1, Or.inl hq.2.2.1⟩
theorem l_MO_bracketEnd {n : Nat} {L : Int32} (hn : 8589934592 ≤ n) {t0 : mz_St} {x1 : Int32} (hx0 : 0 ≤ x1.toInt) (hx : x1.toInt ≤ 12) : ∀ (k : Nat) (x2 x3 : Int32) (t : mz_St), HI L t → LI t0 t → ((0 < (mz_gI t 0 6).toInt) ∨ (mz_gI t0 0 8).toInt ≤ (mz_gI t 0 8).toInt) → (mz_gI t0 25 x1.toNatClampNeg).toInt ≤ x3.toInt → (0 < x2.toInt ∨ (mz_gI t0 25 x1.toNatClampNeg).toInt < x3.toInt) → x3.toInt ≤ (mz_gI t0 24 x1.toNatClampNeg).toInt → (2147483648 - x3.toInt).toNat < k →
    Tp (f_MO_bracketEnd_9 n k x1 x2 x3 t) (fun r => HI L r.2 ∧ LI t0 r.2 ∧ ((r.1).toInt = -1 ∧ 0 < (mz_gI r.2 0 6).toInt ∨ ((mz_gI t0 0 8).toInt ≤ (mz_gI r.2 0 8).toInt ∧ (mz_gI t0 25 x1.toNatClampNeg).toInt < (r.1).toInt ∧ (r.1).toInt ≤ (mz_gI t0 24 x1.toNatClampNeg).toInt))) := by
  intro k
  induction k with
  | zero => intros; omega
  | succ k ih =>
    intro x2 x3 t ci li hl h1 h2 h3 hm
    have l0 : (0 : Int32).toInt = 0 := rfl
    have l1 : (1 : Int32).toInt = 1 := rfl
    have f24 := FX_24 (HI_FX ci) x1.toNatClampNeg
    have f25 := FX_25 (HI_FX ci) x1.toNatClampNeg
    rw [li.row (by decide)] at f24 f25
    have g6 := HI_g29 ci (c := 0) (p := 6) rfl
    have end83 : Tp (f_MO_bracketEnd_83 n x2 x3 t) (fun r => HI L r.2 ∧ LI t0 r.2 ∧ ((r.1).toInt = -1 ∧ 0 < (mz_gI r.2 0 6).toInt ∨ ((mz_gI t0 0 8).toInt ≤ (mz_gI r.2 0 8).toInt ∧ (mz_gI t0 25 x1.toNatClampNeg).toInt < (r.1).toInt ∧ (r.1).toInt ≤ (mz_gI t0 24 x1.toNatClampNeg).toInt))) := by
      unfold f_MO_bracketEnd_83
      refine Tp_if (fun a => ?_) (fun a => ?_)
      · have a' := ti_e a
        refine Tp_if (fun b => ?_) (fun b => ?_)
        · have b' := ti_e b
          refine Tp_so ⟨ci, li, Or.inr ?_⟩
          dsimp only
          omega
        · refine Tp_bi (s_MO_failL hn ci (by decide)) (fun q hq => ?_)
          exact Tp_so ⟨hq.1, li.tr hq.2.1, Or.inl ⟨rfl, hq.2.2.1⟩⟩
      · have a' := ti_ne a
        refine Tp_so ⟨ci, li, Or.inl ⟨rfl, ?_⟩⟩
        dsimp only
        omega
    unfold f_MO_bracketEnd_9
    refine Tp_if (fun a => end83) (fun a => ?_)
    have a' := ti_ne a
    refine Tp_gd (ti_ix hx0 (by omega)) ?_
    refine Tp_if (fun b => end83) (fun b => ?_)
    have b' := ti_ne b
    rw [li.row (by decide)] at b'
    refine Tp_if (fun c => ?_) (fun c => end83)
    have c' := ti_q c
    refine Tp_bi (s_MO_look hn ci) (fun q hq => ?_)
    obtain ⟨cq, lq, hq⟩ := hq
    have hlq : (0 < (mz_gI q 0 6).toInt) ∨ (mz_gI t0 0 8).toInt ≤ (mz_gI q 0 8).toInt := by
      rcases hq with hq | hq
      · exact Or.inl hq
      · refine Or.inr ?_
        omega
    refine Tp_bi (s_MO_firstOf hn (x1 := x3) cq.1.1 (by omega) (by omega)) (fun d hd => ?_)
    obtain ⟨-, ed, -, -⟩ := hd
    rw [ed]
    have e3 : (x3 + (1 : Int32)).toInt = x3.toInt + (1 : Int32).toInt := ti_add (by omega) (by omega)
    have go : ∀ y, Tp (f_MO_bracketEnd_9 n k x1 y (x3 + (1 : Int32)) q) (fun r => HI L r.2 ∧ LI t0 r.2 ∧ ((r.1).toInt = -1 ∧ 0 < (mz_gI r.2 0 6).toInt ∨ ((mz_gI t0 0 8).toInt ≤ (mz_gI r.2 0 8).toInt ∧ (mz_gI t0 25 x1.toNatClampNeg).toInt < (r.1).toInt ∧ (r.1).toInt ≤ (mz_gI t0 24 x1.toNatClampNeg).toInt))) :=
      fun y => ih y _ q cq (li.tr lq) hlq (by omega) (by omega) (by omega) (by omega)
    unfold f_MO_bracketEnd_56 f_MO_bracketEnd_76
    refine Tp_if (fun _ => go _) (fun _ => ?_)
    refine Tp_if (fun _ => go _) (fun _ => ?_)
    exact Tp_if (fun _ => go _) (fun _ => go _)
theorem s_MO_bracketEnd {n : Nat} {L : Int32} (hn : 8589934592 ≤ n) {x1 : Int32} {t : mz_St} (ci : HI L t) (i0 : 0 ≤ x1.toInt) (i1 : x1.toInt ≤ 12) : Tp (f_MO_bracketEnd n x1 t) (fun r => HI L r.2 ∧ LI t r.2 ∧ ((r.1).toInt = -1 ∧ 0 < (mz_gI r.2 0 6).toInt ∨ ((mz_gI t 0 8).toInt ≤ (mz_gI r.2 0 8).toInt ∧ (mz_gI t 25 x1.toNatClampNeg).toInt < (r.1).toInt ∧ (r.1).toInt ≤ (mz_gI t 24 x1.toNatClampNeg).toInt))) := by
  have h := HI_at ci x1.toNatClampNeg
  unfold f_MO_bracketEnd
  refine Tp_gd (ti_ix i0 (by omega)) ?_
  have f25 := FX_25 (HI_FX ci) x1.toNatClampNeg
  exact l_MO_bracketEnd hn i0 i1 n 1 _ t ci (LI.rf t) (Or.inr (Int.le_refl _)) (Int.le_refl _) (Or.inl (by decide)) h.2 (by omega)
