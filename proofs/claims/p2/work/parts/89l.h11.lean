def NX (L : Int32) (t r : mz_St) : Prop := HI L r ∧ (0 < (mz_gI r 0 6).toInt ∨ (RB (mz_gI r 0 34).toInt (mz_gI r 0 48).toInt (mz_gI r 0 51).toInt ∧ ((mz_gI t 0 8).toInt < (mz_gI r 0 8).toInt ∨ (mz_gI r 0 8).toInt = (mz_gI t 0 8).toInt ∧ lS (mz_gI r 26) (mz_gI r 0 34).toInt.toNat < lS (mz_gI t 26) (mz_gI t 0 34).toInt.toNat)))
set_option maxRecDepth 4000 in
set_option maxHeartbeats 8000000 in
theorem next_58 {n : Nat} {L : Int32} (hn : 8589934592 ≤ n) {x2 s1 : Int32} {t u : mz_St} (cu : HI L u) (h0 : 0 ≤ x2.toInt) (h3 : x2.toInt ≤ 3000) (u34 : mz_gI u 0 34 = mz_gI t 0 34) (u48 : mz_gI u 0 48 = mz_gI t 0 48) (u51 : mz_gI u 0 51 = mz_gI t 0 51) (u8 : mz_gI u 0 8 = mz_gI t 0 8) (hF : 1 ≤ (mz_gI t 0 34).toInt) (rb : RB (mz_gI t 0 34).toInt (mz_gI t 0 48).toInt (mz_gI t 0 51).toInt) : Tp (f_MO_next_58 n x2 s1 u) (NX L t) := by
  have l0 : (0 : Int32).toInt = 0 := rfl
  have l1 : (1 : Int32).toInt = 1 := rfl
  unfold f_MO_next_58
  refine Tp_le (fun a ea => ?_)
  have ca := HI_p0 cu ea rfl
  have az : ∀ p, p ≠ 63 → mz_gI a 0 p = mz_gI u 0 p := fun p hp => by rw [ea, gI_oth _ _ (by omega)]
  refine Tp_bi (s_MO_look hn ca) (fun q hq => ?_)
  obtain ⟨cq, lq, hq⟩ := hq
  have g6 := HI_g29 cq (c := 0) (p := 6) rfl
  refine Tp_if (fun h => ?_) (fun h => ?_)
  · have h' := ti_e h
    rcases hq with hq | ⟨hq, hq2, hq3⟩
    · omega
    rw [az 8 (by decide), u8] at hq
    have q34 : mz_gI q 0 34 = mz_gI t 0 34 := by rw [lq 0 34 (by simp), az 34 (by decide), u34]
    have q48 : mz_gI q 0 48 = mz_gI t 0 48 := by rw [lq 0 48 (by simp), az 48 (by decide), u48]
    have q51 : mz_gI q 0 51 = mz_gI t 0 51 := by rw [lq 0 51 (by simp), az 51 (by decide), u51]
    refine Tp_bi (s_MO_firstOf hn (x1 := x2) (HI_MI cq) h0 h3) (fun d hd => ?_)
    obtain ⟨-, ed, -, -⟩ := hd
    rw [ed]
    have b126 : ∀ x4 s0, Tp (f_MO_next_126 n x2 x4 s0 q) (NX L t) := by
      intro x4 s0
      refine Tp_mo (s_MO_next_126 hn cq (by rw [q34, q48]; exact rb.1) (by rw [q34, q51]; exact rb.2) (by rw [q34]; exact hF) h0 h3) (fun r hr => ?_)
      obtain ⟨cr, r1, r2, r3⟩ := hr
      refine ⟨cr, ?_⟩
      by_cases hf : 0 < (mz_gI r 0 6).toInt
      · exact Or.inl hf
      · refine Or.inr ⟨⟨?_, ?_⟩, Or.inl ?_⟩
        · rcases r1 with r1 | r1
          · exact absurd r1 hf
          · exact r1
        · rcases r2 with r2 | r2
          · exact absurd r2 hf
          · exact r2
        · rcases r3 with r3 | r3
          · exact absurd r3 hf
          · omega
    have b106 : ∀ s0, Tp (f_MO_next_106 n x2 d.1 s0 q) (NX L t) := by
      intro s0
      unfold f_MO_next_106 f_MO_next_125
      refine Tp_if (fun _ => b126 _ _) (fun _ => ?_)
      exact Tp_if (fun _ => b126 _ _) (fun _ => b126 _ _)
    unfold f_MO_next_101
    refine Tp_if (fun _ => b106 _) (fun h53 => ?_)
    have h53' := ti_nq h53
    have f53 := FX_0_53 (HI_FX cq)
    have e53 : (mz_gI q 0 53 - (1 : Int32)).toInt = (mz_gI q 0 53).toInt - (1 : Int32).toInt := ti_sub (by omega) (by omega)
    refine Tp_gd (ti_ix (by omega) (by omega)) ?_
    exact Tp_if (fun _ => b106 _) (fun _ => b106 _)
  · have h' := ti_ne h
    exact Tp_so ⟨cq, Or.inl (by omega)⟩
set_option maxRecDepth 4000 in
set_option maxHeartbeats 8000000 in
theorem s_MO_next {n : Nat} {L : Int32} (hn : 8589934592 ≤ n) {t : mz_St} (ci : HI L t) (hF : 1 ≤ (mz_gI t 0 34).toInt) (rb : RB (mz_gI t 0 34).toInt (mz_gI t 0 48).toInt (mz_gI t 0 51).toInt) : Tp (f_MO_next n t) (NX L t) := by
  have f34 := FX_0_34 (HI_FX ci)
  have l0 : (0 : Int32).toInt = 0 := rfl
  have l1 : (1 : Int32).toInt = 1 := rfl
  have e34 : (mz_gI t 0 34 - (1 : Int32)).toInt = (mz_gI t 0 34).toInt - (1 : Int32).toInt := ti_sub (by omega) (by omega)
  have gx : ¬ ((mz_gI t 0 34 - (1 : Int32)) < 0 ∨ 14 ≤ (mz_gI t 0 34 - (1 : Int32)).toNatClampNeg) := ti_ix (by omega) (by omega)
  obtain ⟨f, ef⟩ : ∃ f, f = (mz_gI t 0 34 - (1 : Int32)).toNatClampNeg := ⟨_, rfl⟩
  have hat := HI_at ci f
  have f24 := FX_24 (HI_FX ci) f
  have f25 := FX_25 (HI_FX ci) f
  unfold f_MO_next
  rw [if_pos gx, if_pos gx]
  refine Tp_if (fun h => ?_) (fun h => ?_)
  · refine Tp_bi (s_MO_atEnd hn ci hF (by omega) rb) (fun q hq => ?_)
    refine Tp_so ⟨hq.1, ?_⟩
    rcases hq.2 with h | ⟨h1, h2, h3⟩
    · exact Or.inl h
    · exact Or.inr ⟨h1, Or.inr ⟨by rw [h2], h3⟩⟩
  · have h' := ti_nq h
    rw [if_pos gx, if_pos gx, if_pos gx]
    rw [← ef] at h' ⊢
    have e25 : (mz_gI t 25 f + (1 : Int32)).toInt = (mz_gI t 25 f).toInt + (1 : Int32).toInt := ti_add (by omega) (by omega)
    refine Tp_le (fun u eu => ?_)
    have cu := HI_f25 ci eu (by omega) (by omega)
    have uz : ∀ p, mz_gI u 0 p = mz_gI t 0 p := fun p => by rw [eu, gI_z _ _ (by decide)]
    exact Tp_if (fun _ => next_58 hn cu (by omega) (by omega) (uz 34) (uz 48) (uz 51) (uz 8) hF rb) (fun _ => next_58 hn cu (by omega) (by omega) (uz 34) (uz 48) (uz 51) (uz 8) hF rb)
set_option maxRecDepth 4000 in
set_option maxHeartbeats 8000000 in
theorem lS_le {L : Int32} {t : mz_St} (ci : HI L t) : ∀ f : Nat, (f : Int) ≤ (mz_gI t 0 34).toInt → 0 ≤ lS (mz_gI t 26) f ∧ lS (mz_gI t 26) f ≤ 4001 * f := by
  intro f
  induction f with
  | zero => intro _; exact ⟨Int.le_refl _, Int.le_refl _⟩
  | succ f ih =>
    intro hf
    have h1 := ih (by omega)
    have h2 := ci.2.2.2.2 f (by omega)
    have h3 := FX_26 (HI_FX ci) f
    have e : lS (mz_gI t 26) (f + 1) = lS (mz_gI t 26) f + (mz_gI t 26 f).toInt + 1 := rfl
    rw [e]
    omega
set_option maxRecDepth 4000 in
set_option maxHeartbeats 8000000 in
theorem expand_113 {n : Nat} {L : Int32} {t : mz_St} (a : AI L t) : Tp (f_MO_expand_113 n t) (fun r => AI L r.2) := by
  unfold f_MO_expand_113
  refine Tp_le (fun u eu => ?_)
  have au := AI_tr a (MI_p0 a.1 eu rfl)
  exact Tp_if (fun _ => Tp_so au) (fun _ => Tp_so au)
set_option maxRecDepth 4000 in
set_option maxHeartbeats 8000000 in
theorem l_MO_expand {n : Nat} {L : Int32} (hn : 8589934592 ≤ n) : ∀ (k : Nat) (t : mz_St), HI L t → (0 < (mz_gI t 0 6).toInt ∨ RB (mz_gI t 0 34).toInt (mz_gI t 0 48).toInt (mz_gI t 0 51).toInt) → (if 0 < (mz_gI t 0 6).toInt then 0 else ((4001 - (mz_gI t 0 8).toInt) * 100000 + lS (mz_gI t 26) (mz_gI t 0 34).toInt.toNat + 1).toNat) < k →
    Tp (f_MO_expand_92 n k t) (fun r => AI L r.2) := by
  intro k
  induction k with
  | zero => intro t _ _ h; omega
  | succ k ih =>
    intro t ci hrb hk
    have f34 := FX_0_34 (HI_FX ci)
    have f8 := FX_0_8 (HI_FX ci)
    have g6 := HI_g29 ci (c := 0) (p := 6) rfl
    have l0 : (0 : Int32).toInt = 0 := rfl
    unfold f_MO_expand_92
    refine Tp_if (fun _ => expand_113 ci.1) (fun h => ?_)
    have h' := ti_ne h
    refine Tp_if (fun h6 => ?_) (fun _ => expand_113 ci.1)
    have h6' := ti_q h6
    rcases hrb with hrb | rb
    · omega
    rw [if_neg (by omega)] at hk
    refine Tp_bi (s_MO_next hn ci (by omega) rb) (fun q hq => ?_)
    obtain ⟨cq, hq⟩ := hq
    have q34 := FX_0_34 (HI_FX cq)
    have q8 := FX_0_8 (HI_FX cq)
    have s1 := lS_le ci (mz_gI t 0 34).toInt.toNat (by omega)
    have s2 := lS_le cq (mz_gI q 0 34).toInt.toNat (by omega)
    by_cases hf : 0 < (mz_gI q 0 6).toInt
    · exact ih q cq (Or.inl hf) (by rw [if_pos hf]; omega)
    · rcases hq with hq | ⟨rbq, hq⟩
      · exact absurd hq hf
      · refine ih q cq (Or.inr rbq) ?_
        rw [if_neg hf]
        omega
