/-! by hand: what writes what stays -/
def LI (t r : mz_St) : Prop := ∀ c p, ¬ (c = 0 ∧ (p = 6 ∨ p = 7 ∨ p = 8)) → mz_gI r c p = mz_gI t c p
theorem LI.rf (t : mz_St) : LI t t := fun _ _ _ => rfl
theorem LI.tr {a b c : mz_St} (h : LI a b) (g : LI b c) : LI a c := fun x y q => (g x y q).trans (h x y q)
theorem LI.row {t r : mz_St} (h : LI t r) {c : Nat} (hc : c ≠ 0) : mz_gI r c = mz_gI t c := funext fun p => h c p (fun q => hc q.1)
theorem HI_fL {L : Int32} {t t' : mz_St} {v : Int32} (h : HI L t) (e : t' = mz_pI t 0 8 v) (h1 : 0 ≤ v.toInt) (h2 : v.toInt ≤ 4001) : HI L t' := by
  rw [e]
  exact ⟨AI_fix h.1 (FXp_0_8 h.1.1.1 h1 h2) rfl (by simp) (RR_out h.1.2.2 (by decide)), RC_cg h.2 (gI_oth t v (by simp)) (gI_oth t v (by simp)) (gI_oth t v (by simp)) (gI_row t v (by simp)) (gI_oth t v (by simp)) (gI_row t v (by simp))⟩
theorem LI_p {t : mz_St} {p : Nat} {v : Int32} (hp : p = 6 ∨ p = 7 ∨ p = 8) : LI t (mz_pI t 0 p v) := fun c q h => gI_oth t v (fun e => h ⟨e.1, by rw [e.2]; exact hp⟩)
theorem fail_eq {n : Nat} {x1 x2 : Int32} {t : mz_St} : ∃ r, f_MO_fail n x1 x2 t = some r ∧ LI t r ∧ mz_gI r 0 8 = mz_gI t 0 8 ∧ (mz_gI r 0 6 = if mz_gI t 0 6 = 0 then x1 else mz_gI t 0 6) := by
  unfold f_MO_fail
  by_cases h : mz_gI t 0 6 = 0
  · rw [if_pos h, if_pos h]
    refine ⟨_, rfl, (LI_p (by simp)).tr (LI_p (by simp)), ?_, ?_⟩
    · rw [gI_oth _ _ (by simp), gI_oth _ _ (by simp)]
    · rw [gI_oth _ _ (by simp), gI_same]
  · rw [if_neg h, if_neg h]
    exact ⟨_, rfl, LI.rf t, rfl, rfl⟩
theorem s_MO_failL {n : Nat} {L : Int32} (hn : 8589934592 ≤ n) {x1 x2 : Int32} {t : mz_St} (ci : HI L t) (i0 : 0 < x1.toInt) : Tp (f_MO_fail n x1 x2 t) (fun r => HI L r ∧ LI t r ∧ 0 < (mz_gI r 0 6).toInt ∧ mz_gI r 0 8 = mz_gI t 0 8) := by
  obtain ⟨r, e, h1, h2, h3⟩ := fail_eq (n := n) (x1 := x1) (x2 := x2) (t := t)
  obtain ⟨r', e', m, -⟩ := s_MO_fail hn (x1 := x1) (x2 := x2) ci.1.1 (by omega)
  obtain rfl : r = r' := Option.some.inj (e.symm.trans e')
  refine ⟨r, e, HI_tr ci m, h1, ?_, h2⟩
  rw [h3]
  by_cases h : mz_gI t 0 6 = 0
  · rw [if_pos h]; exact i0
  · rw [if_neg h]
    have := HI_g29 ci (c := 0) (p := 6) rfl
    have := ti_nq h
    rw [show (0 : Int32).toInt = 0 from rfl] at this
    omega
theorem s_MO_look {n : Nat} {L : Int32} (hn : 8589934592 ≤ n) {x1 : Int32} {t : mz_St} (ci : HI L t) : Tp (f_MO_look n x1 t) (fun r => HI L r ∧ LI t r ∧ (0 < (mz_gI r 0 6).toInt ∨ (mz_gI r 0 8).toInt = (mz_gI t 0 8).toInt + 1 ∧ (mz_gI r 0 8).toInt ≤ 4000 ∧ mz_gI r 0 6 = mz_gI t 0 6)) := by
  unfold f_MO_look
  have l1 : (1 : Int32).toInt = 1 := rfl
  have b := FX_0_8 (HI_FX ci)
  have a : (mz_gI t 0 8 + (1 : Int32)).toInt = (mz_gI t 0 8).toInt + (1 : Int32).toInt := ti_add (by omega) (by omega)
  refine Tp_le (fun t1 e1 => ?_)
  have g1 : mz_gI t1 0 8 = mz_gI t 0 8 + 1 := by rw [e1, gI_same]
  have L1 : LI t t1 := by rw [e1]; exact LI_p (by simp)
  refine Tp_if (fun h => ?_) (fun h => ?_)
  · have h4 := ti_e h
    rw [g1, show (4000 : Int32).toInt = 4000 from rfl] at h4
    refine Tp_so ⟨HI_fL ci e1 (by omega) (by omega), L1, Or.inr ⟨by rw [g1]; omega, by rw [g1]; omega, ?_⟩⟩
    rw [e1, gI_oth _ _ (by simp)]
  · refine Tp_le (fun t3 e3 => ?_)
    have e3' : t3 = mz_pI t 0 8 4000 := by
      rw [e3, e1]
      unfold mz_pI
      refine Prod.ext ?_ rfl
      funext x y
      by_cases hq : x = 0 ∧ y = 8 <;> simp [hq]
    have c3 := HI_fL ci e3' (by decide) (by decide)
    have L3 : LI t t3 := by rw [e3']; exact LI_p (by simp)
    have fin : ∀ z, Tp (f_MO_look_46 n 6 z t3) (fun r => HI L r ∧ LI t r ∧ (0 < (mz_gI r 0 6).toInt ∨ (mz_gI r 0 8).toInt = (mz_gI t 0 8).toInt + 1 ∧ (mz_gI r 0 8).toInt ≤ 4000 ∧ mz_gI r 0 6 = mz_gI t 0 6)) := by
      intro z
      unfold f_MO_look_46
      refine Tp_bi (s_MO_failL hn c3 (by decide)) (fun q hq => ?_)
      exact Tp_so ⟨hq.1, L3.tr hq.2.1, Or.inl hq.2.2.1⟩
    exact Tp_if (fun _ => fin _) (fun _ => fin _)
theorem gI_z (t : mz_St) {k j j' : Nat} (v : Int32) (h : k ≠ 0) : mz_gI (mz_pI t k j v) 0 j' = mz_gI t 0 j' := gI_oth t v (fun q => h q.1.symm)
/-- a frame is opened -/
def bF (t : mz_St) (f : Nat) (x1 x2 x3 x4 x5 x6 d : Int32) : mz_St :=
  mz_pI (mz_pI (mz_pI (mz_pI (mz_pI (mz_pI (mz_pI (mz_pI (mz_pI (mz_pI (mz_pI t 22 f x1) 23 f x2) 24 f x3) 25 f x2) 26 f x4) 27 f 0) 30 f (mz_gI t 0 53)) 31 f x5) 32 f x6) 0 34 (mz_gI t 0 34 + 1)) 0 10 d
theorem bF_row {t : mz_St} {f : Nat} {x1 x2 x3 x4 x5 x6 d : Int32} {c : Nat} (h : c ≠ 0 ∧ c ≠ 22 ∧ c ≠ 23 ∧ c ≠ 24 ∧ c ≠ 25 ∧ c ≠ 26 ∧ c ≠ 27 ∧ c ≠ 30 ∧ c ≠ 31 ∧ c ≠ 32) : mz_gI (bF t f x1 x2 x3 x4 x5 x6 d) c = mz_gI t c := by
  unfold bF
  obtain ⟨h0, h1, h2, h3, h4, h5, h6, h7, h8, h9⟩ := h
  rw [gI_row _ _ h0, gI_row _ _ h0, gI_row _ _ h9, gI_row _ _ h8, gI_row _ _ h7, gI_row _ _ h6, gI_row _ _ h5, gI_row _ _ h4, gI_row _ _ h3, gI_row _ _ h2, gI_row _ _ h1]
theorem bF_0 {t : mz_St} {f : Nat} {x1 x2 x3 x4 x5 x6 d : Int32} {p : Nat} (h1 : p ≠ 34) (h2 : p ≠ 10) : mz_gI (bF t f x1 x2 x3 x4 x5 x6 d) 0 p = mz_gI t 0 p := by
  unfold bF
  rw [gI_oth _ _ (by omega), gI_oth _ _ (by omega)]
  simp only [gI_z _ _ (show (22 : Nat) ≠ 0 by decide), gI_z _ _ (show (23 : Nat) ≠ 0 by decide), gI_z _ _ (show (24 : Nat) ≠ 0 by decide), gI_z _ _ (show (25 : Nat) ≠ 0 by decide), gI_z _ _ (show (26 : Nat) ≠ 0 by decide), gI_z _ _ (show (27 : Nat) ≠ 0 by decide), gI_z _ _ (show (30 : Nat) ≠ 0 by decide), gI_z _ _ (show (31 : Nat) ≠ 0 by decide), gI_z _ _ (show (32 : Nat) ≠ 0 by decide)]
theorem bF_34 {t : mz_St} {f : Nat} {x1 x2 x3 x4 x5 x6 d : Int32} : mz_gI (bF t f x1 x2 x3 x4 x5 x6 d) 0 34 = mz_gI t 0 34 + 1 := by
  unfold bF
  rw [gI_oth _ _ (by simp), gI_same]
theorem bF_r {t : mz_St} {f : Nat} {x1 x2 x3 x4 x5 x6 d : Int32} (p : Nat) :
    (mz_gI (bF t f x1 x2 x3 x4 x5 x6 d) 23 p = if p = f then x2 else mz_gI t 23 p) ∧ (mz_gI (bF t f x1 x2 x3 x4 x5 x6 d) 24 p = if p = f then x3 else mz_gI t 24 p) ∧ (mz_gI (bF t f x1 x2 x3 x4 x5 x6 d) 25 p = if p = f then x2 else mz_gI t 25 p)
    ∧ (mz_gI (bF t f x1 x2 x3 x4 x5 x6 d) 26 p = if p = f then x4 else mz_gI t 26 p) ∧ (mz_gI (bF t f x1 x2 x3 x4 x5 x6 d) 27 p = if p = f then 0 else mz_gI t 27 p) ∧ (mz_gI (bF t f x1 x2 x3 x4 x5 x6 d) 30 p = if p = f then mz_gI t 0 53 else mz_gI t 30 p)
    ∧ (mz_gI (bF t f x1 x2 x3 x4 x5 x6 d) 31 p = if p = f then x5 else mz_gI t 31 p) ∧ (mz_gI (bF t f x1 x2 x3 x4 x5 x6 d) 32 p = if p = f then x6 else mz_gI t 32 p) := by
  unfold bF
  by_cases h : p = f
  · subst h
    simp only [if_true]
    refine ⟨?_, ?_, ?_, ?_, ?_, ?_, ?_, ?_⟩ <;> (repeat (first | exact gI_same _ _ _ _ | rw [gI_oth _ _ (by decide +revert)] | rw [gI_oth _ _ (fun q => by have := q.1; omega)]))
  · simp only [if_neg h]
    refine ⟨?_, ?_, ?_, ?_, ?_, ?_, ?_, ?_⟩ <;> (repeat (first | rfl | rw [gI_oth _ _ (fun q => h q.2)] | rw [gI_oth _ _ (fun q => by have := q.1; omega)]))
theorem bF_eq {n : Nat} {t : mz_St} {x1 x2 x3 x4 x5 x6 : Int32} (h0 : 0 ≤ (mz_gI t 0 34).toInt) (h1 : (mz_gI t 0 34).toInt ≤ 13) : ∃ d, f_MO_beginFrame n x1 x2 x3 x4 x5 x6 t = some (bF t (mz_gI t 0 34).toNatClampNeg x1 x2 x3 x4 x5 x6 d) := by
  have hx : ¬ ((mz_gI t 0 34) < 0 ∨ 14 ≤ (mz_gI t 0 34).toNatClampNeg) := ti_ix h0 (by omega)
  unfold f_MO_beginFrame f_MO_beginFrame_133
  simp only [mz_let, gI_z _ _ (show (22 : Nat) ≠ 0 by decide), gI_z _ _ (show (23 : Nat) ≠ 0 by decide), gI_z _ _ (show (24 : Nat) ≠ 0 by decide), gI_z _ _ (show (25 : Nat) ≠ 0 by decide), gI_z _ _ (show (26 : Nat) ≠ 0 by decide), gI_z _ _ (show (27 : Nat) ≠ 0 by decide), gI_z _ _ (show (30 : Nat) ≠ 0 by decide), gI_z _ _ (show (31 : Nat) ≠ 0 by decide), gI_z _ _ (show (32 : Nat) ≠ 0 by decide), if_pos hx]
  split
  · exact ⟨_, rfl⟩
  · exact ⟨_, rfl⟩
theorem MI_self {s t : mz_St} (h : MI s t) : MI t t := ⟨FX_tr h, fun _ _ _ => rfl, h.2.2⟩
theorem bF_AI {L : Int32} {t : mz_St} {f : Nat} {x1 x2 x3 x4 x5 x6 d : Int32} (a : AI L t) (hf : (f : Int) = (mz_gI t 0 34).toInt) (h12 : (mz_gI t 0 34).toInt ≤ 12) (i2 : 0 ≤ x2.toInt) (i3 : x2.toInt ≤ x3.toInt) (i4 : x3.toInt ≤ 3001) (i5 : 0 ≤ x4.toInt) (i6 : x4.toInt ≤ 3100) (i7 : 0 ≤ x5.toInt) (i8 : 0 ≤ x6.toInt) (rb : RB (mz_gI t 0 34).toInt x5.toInt x6.toInt) : AI L (bF t f x1 x2 x3 x4 x5 x6 d) := by
  have f53 := FX_0_53 a.1.1
  have f34 := FX_0_34 a.1.1
  have l1 : (1 : Int32).toInt = 1 := rfl
  have e34 : (mz_gI t 0 34 + (1 : Int32)).toInt = (mz_gI t 0 34).toInt + (1 : Int32).toInt := ti_add (by omega) (by omega)
  have rb' := rb
  unfold RB at rb
  refine ⟨?_, ?_, ?_⟩
  · have m1 := MI_fix (c := 22) (p := f) (v := x1) a.1 (FXp_22 a.1.1) rfl
    have m2 := MI_fix (c := 23) (p := f) (v := x2) m1 (FXp_23 m1.1 i2 (by omega)) rfl
    have m3 := MI_fix (c := 24) (p := f) (v := x3) m2 (FXp_24 m2.1 (by omega) i4) rfl
    have m4 := MI_fix (c := 25) (p := f) (v := x2) m3 (FXp_25 m3.1 i2 (by omega)) rfl
    have m5 := MI_fix (c := 26) (p := f) (v := x4) m4 (FXp_26 m4.1 (by omega) (by omega)) rfl
    have m6 := MI_fix (c := 27) (p := f) (v := 0) m5 (FXp_27 m5.1 (by decide) (by decide)) rfl
    have m7 := MI_fix (c := 30) (p := f) (v := mz_gI t 0 53) m6 (FXp_30 m6.1 (by omega) (by omega)) rfl
    have m8 := MI_fix (c := 31) (p := f) (v := x5) m7 (FXp_31 m7.1 i7 (by omega)) rfl
    have m9 := MI_fix (c := 32) (p := f) (v := x6) m8 (FXp_32 m8.1 i8 (by omega)) rfl
    have m10 := MI_fix (c := 0) (p := 34) (v := mz_gI t 0 34 + 1) m9 (FXp_0_34 m9.1 (by omega) (by omega)) rfl
    exact MI_self (MI_p0 m10 (c := 0) (p := 10) (v := d) rfl rfl)
  · rw [bF_0 (by decide) (by decide)]; exact a.2.1
  · obtain ⟨r1, r2, r3, r4, r5⟩ := a.2.2
    refine ⟨fun p => ?_, ?_, fun p hp => ?_, fun p => ?_, ?_⟩
    · rw [(bF_r p).1, (bF_r p).2.1, (bF_r p).2.2.1]
      by_cases h : p = f
      · rw [if_pos h, if_pos h, if_pos h]; omega
      · rw [if_neg h, if_neg h, if_neg h]; exact r1 p
    · rw [bF_row (by decide), bF_row (by decide)]; exact r2
    · rw [(bF_r p).2.2.2.2.2.2.1, (bF_r p).2.2.2.2.2.2.2]
      by_cases h : p = f
      · rw [if_pos h, if_pos h, h, hf]; exact rb'
      · rw [if_neg h, if_neg h]; exact r3 p hp
    · rw [(bF_r p).2.2.2.1, (bF_r p).2.2.2.2.1]
      by_cases h : p = f
      · rw [if_pos h, if_pos h, show (0 : Int32).toInt = 0 from rfl]; omega
      · rw [if_neg h, if_neg h]; exact r4 p
    · rw [bF_row (by decide), bF_row (by decide), bF_row (by decide)]; exact r5
theorem bF_RC {L : Int32} {t : mz_St} {f : Nat} {x1 x2 x3 x4 x5 x6 d : Int32} (a : AI L t) (hf : (f : Int) = (mz_gI t 0 34).toInt) (h12 : (mz_gI t 0 34).toInt ≤ 12) (i5 : 0 ≤ x4.toInt) (h0 : f = 0 ∧ x3.toInt = (mz_gI t 0 3).toInt ∨ f ≠ 0 ∧ RC t) : RC (bF t f x1 x2 x3 x4 x5 x6 d) := by
  have f34 := FX_0_34 a.1.1
  have l1 : (1 : Int32).toInt = 1 := rfl
  have e34 : (mz_gI t 0 34 + (1 : Int32)).toInt = (mz_gI t 0 34).toInt + (1 : Int32).toInt := ti_add (by omega) (by omega)
  unfold RC
  rw [bF_34, bF_0 (by decide) (by decide), bF_0 (by decide) (by decide), (bF_r 0).2.1, e34]
  refine ⟨?_, fun p q hpq hq => ?_, fun p hp => ?_, fun p hp => ?_⟩
  · rcases h0 with ⟨e, h⟩ | ⟨e, h⟩
    · rw [if_pos e.symm]; exact h
    · rw [if_neg (fun q => e q.symm)]; exact h.1
  · rw [(bF_r p).2.2.2.2.2.1, (bF_r q).2.2.2.2.2.1]
    rcases h0 with ⟨e, -⟩ | ⟨e, h⟩
    · rw [if_pos (by omega), if_pos (by omega)]; exact Int.le_refl _
    · by_cases hq' : q = f
      · rw [if_pos hq']
        by_cases hp' : p = f
        · rw [if_pos hp']; exact Int.le_refl _
        · rw [if_neg hp']; exact h.2.2.1 p (by omega)
      · rw [if_neg hq', if_neg (by omega)]; exact h.2.1 p q hpq (by omega)
  · rw [(bF_r p).2.2.2.2.2.1]
    by_cases hp' : p = f
    · rw [if_pos hp']; exact Int.le_refl _
    · rw [if_neg hp']
      rcases h0 with ⟨e, -⟩ | ⟨e, h⟩
      · omega
      · exact h.2.2.1 p (by omega)
  · rw [(bF_r p).2.2.2.1]
    by_cases hp' : p = f
    · rw [if_pos hp']; exact i5
    · rw [if_neg hp']
      rcases h0 with ⟨e, -⟩ | ⟨e, h⟩
      · omega
      · exact h.2.2.2 p (by omega)
theorem s_MO_beginFrame {n : Nat} {L : Int32} (hn : 8589934592 ≤ n) {x1 x2 x3 x4 x5 x6 : Int32} {t : mz_St} (ci : HI L t) (i0 : 1 ≤ (mz_gI t 0 34).toInt) (i1 : (mz_gI t 0 34).toInt ≤ 12) (i2 : 0 ≤ x2.toInt) (i3 : x2.toInt ≤ x3.toInt) (i4 : x3.toInt ≤ 3001) (i5 : 0 ≤ x4.toInt) (i6 : x4.toInt ≤ 3100) (i7 : 0 ≤ x5.toInt) (i8 : 0 ≤ x6.toInt)
    (i9 : (((mz_gI t 0 34).toInt ≤ 1 ∧ x5.toInt ≤ 0) ∨ (2 ≤ (mz_gI t 0 34).toInt ∧ x5.toInt ≤ 2390 + 310 * (mz_gI t 0 34).toInt))) (i10 : (((mz_gI t 0 34).toInt ≤ 1 ∧ x6.toInt ≤ 0) ∨ (2 ≤ (mz_gI t 0 34).toInt ∧ x6.toInt ≤ 3310 * (mz_gI t 0 34).toInt - 610))) :
    Tp (f_MO_beginFrame n x1 x2 x3 x4 x5 x6 t) (fun r => HI L r ∧ (mz_gI r 0 34).toInt = (mz_gI t 0 34).toInt + 1 ∧ (mz_gI r 0 48).toInt = (mz_gI t 0 48).toInt ∧ (mz_gI r 0 51).toInt = (mz_gI t 0 51).toInt ∧ (mz_gI r 0 6).toInt = (mz_gI t 0 6).toInt ∧ (mz_gI r 0 8).toInt = (mz_gI t 0 8).toInt) := by
  obtain ⟨d, e⟩ := bF_eq (n := n) (x1 := x1) (x2 := x2) (x3 := x3) (x4 := x4) (x5 := x5) (x6 := x6) (t := t) (by omega) (by omega)
  have hc := ti_cl (mz_gI t 0 34)
  have hf : ((mz_gI t 0 34).toNatClampNeg : Int) = (mz_gI t 0 34).toInt := by omega
  have l1 : (1 : Int32).toInt = 1 := rfl
  have e34 : (mz_gI t 0 34 + (1 : Int32)).toInt = (mz_gI t 0 34).toInt + (1 : Int32).toInt := ti_add (by omega) (by omega)
  refine ⟨_, e, ⟨bF_AI ci.1 hf i1 i2 i3 i4 i5 i6 i7 i8 ⟨i9, i10⟩, bF_RC ci.1 hf i1 i5 (Or.inr ⟨by omega, ci.2⟩)⟩, ?_, ?_, ?_, ?_, ?_⟩
  · rw [bF_34]; omega
  · rw [bF_0 (by decide) (by decide)]
  · rw [bF_0 (by decide) (by decide)]
  · rw [bF_0 (by decide) (by decide)]
  · rw [bF_0 (by decide) (by decide)]
/-- a frame is closed -/
def eF (t : mz_St) (f : Nat) : mz_St := mz_pI (mz_pI (mz_pI t 0 34 (mz_gI t 0 34 - 1)) 0 48 (mz_gI t 31 f)) 0 51 (mz_gI t 32 f)
theorem eF_row {t : mz_St} {f c : Nat} (h : c ≠ 0) : mz_gI (eF t f) c = mz_gI t c := by
  unfold eF
  rw [gI_row _ _ h, gI_row _ _ h, gI_row _ _ h]
theorem eF_0 {t : mz_St} {f p : Nat} (h1 : p ≠ 34) (h2 : p ≠ 48) (h3 : p ≠ 51) : mz_gI (eF t f) 0 p = mz_gI t 0 p := by
  unfold eF
  rw [gI_oth _ _ (by omega), gI_oth _ _ (by omega), gI_oth _ _ (by omega)]
theorem eF_34 {t : mz_St} {f : Nat} : mz_gI (eF t f) 0 34 = mz_gI t 0 34 - 1 ∧ mz_gI (eF t f) 0 48 = mz_gI t 31 f ∧ mz_gI (eF t f) 0 51 = mz_gI t 32 f := by
  unfold eF
  refine ⟨?_, ?_, ?_⟩
  · rw [gI_oth _ _ (by simp), gI_oth _ _ (by simp), gI_same]
  · rw [gI_oth _ _ (by simp), gI_same]
  · rw [gI_same]
theorem eF_eq {n : Nat} {t : mz_St} (h0 : 1 ≤ (mz_gI t 0 34).toInt) (h1 : (mz_gI t 0 34).toInt ≤ 13) : f_MO_endFrame n t = some (eF t ((mz_gI t 0 34) - 1).toNatClampNeg) := by
  have l1 : (1 : Int32).toInt = 1 := rfl
  have e34 : (mz_gI t 0 34 - (1 : Int32)).toInt = (mz_gI t 0 34).toInt - (1 : Int32).toInt := ti_sub (by omega) (by omega)
  have hx : ¬ ((mz_gI t 0 34 - (1 : Int32)) < 0 ∨ 14 ≤ (mz_gI t 0 34 - (1 : Int32)).toNatClampNeg) := ti_ix (by omega) (by omega)
  unfold f_MO_endFrame
  simp only [mz_let]
  have e48 : ∀ w, mz_gI (mz_pI (mz_pI t 0 34 (mz_gI t 0 34 - 1)) 0 48 w) 0 34 = mz_gI t 0 34 - 1 := fun w => by rw [gI_oth _ _ (by simp), gI_same]
  rw [gI_same, if_pos hx, e48, if_pos hx]
  rfl
theorem eF_AI {L : Int32} {t : mz_St} {f : Nat} (a : AI L t) (hf : (f : Int) = (mz_gI t 0 34).toInt - 1) : AI L (eF t f) := by
  have f34 := FX_0_34 a.1.1
  have f31 := FX_31 a.1.1 f
  have f32 := FX_32 a.1.1 f
  have l1 : (1 : Int32).toInt = 1 := rfl
  have e34 : (mz_gI t 0 34 - (1 : Int32)).toInt = (mz_gI t 0 34).toInt - (1 : Int32).toInt := ti_sub (by omega) (by omega)
  refine ⟨?_, ?_, ?_⟩
  · have m1 := MI_fix (c := 0) (p := 34) (v := mz_gI t 0 34 - 1) a.1 (FXp_0_34 a.1.1 (by omega) (by omega)) rfl
    have m2 := MI_fix (c := 0) (p := 48) (v := mz_gI t 31 f) m1 (FXp_0_48 m1.1 (by omega) (by omega)) rfl
    exact MI_fix (c := 0) (p := 51) (v := mz_gI t 32 f) m2 (FXp_0_51 m2.1 (by omega) (by omega)) rfl
  · rw [eF_0 (by decide) (by decide) (by decide)]; exact a.2.1
  · exact RR_cg a.2.2 (fun c hc => eF_row (by omega))
theorem eF_RC {L : Int32} {t : mz_St} {f : Nat} (a : AI L t) (rc : RC t) (hf : (f : Int) = (mz_gI t 0 34).toInt - 1) : RC (eF t f) := by
  have f34 := FX_0_34 a.1.1
  have l1 : (1 : Int32).toInt = 1 := rfl
  have e34 : (mz_gI t 0 34 - (1 : Int32)).toInt = (mz_gI t 0 34).toInt - (1 : Int32).toInt := ti_sub (by omega) (by omega)
  unfold RC
  rw [eF_34.1, eF_row (c := 24) (by decide), eF_row (c := 30) (by decide), eF_row (c := 26) (by decide), eF_0 (p := 3) (by decide) (by decide) (by decide), eF_0 (p := 53) (by decide) (by decide) (by decide), e34]
  exact ⟨rc.1, fun p q h1 h2 => rc.2.1 p q h1 (by omega), fun p h => rc.2.2.1 p (by omega), fun p h => rc.2.2.2 p (by omega)⟩
theorem eF_RB {L : Int32} {t : mz_St} {f : Nat} (a : AI L t) (hf : (f : Int) = (mz_gI t 0 34).toInt - 1) : RB (mz_gI (eF t f) 0 34).toInt (mz_gI (eF t f) 0 48).toInt (mz_gI (eF t f) 0 51).toInt := by
  have f34 := FX_0_34 a.1.1
  have l1 : (1 : Int32).toInt = 1 := rfl
  have e34 : (mz_gI t 0 34 - (1 : Int32)).toInt = (mz_gI t 0 34).toInt - (1 : Int32).toInt := ti_sub (by omega) (by omega)
  rw [eF_34.1, eF_34.2.1, eF_34.2.2, e34]
  have := a.2.2.2.2.1 f (by omega)
  rw [hf] at this
  rw [l1]
  exact this
/-- what is still to be gone over, of the frames below f -/
def lS (g : Nat → Int32) : Nat → Int
  | 0 => 0
  | f + 1 => lS g f + (g f).toInt + 1
theorem lS_cg {g h : Nat → Int32} : ∀ f, (∀ p, p < f → g p = h p) → lS g f = lS h f := by
  intro f
  induction f with
  | zero => intro _; rfl
  | succ f ih =>
    intro e
    unfold lS
    rw [ih (fun p hp => e p (by omega)), e f (by omega)]
theorem RB_2 {F a b : Int} (h : RB F a b) : ((F ≤ 1 ∧ a ≤ 0) ∨ (2 ≤ F ∧ a ≤ 2390 + 310 * F)) ∧ ((F ≤ 1 ∧ b ≤ 0) ∨ (2 ≤ F ∧ b ≤ 3310 * F - 610)) := h
/-- a frame's turn ends -/
def aE (t : mz_St) (f : Nat) : mz_St := mz_pI (mz_pI (mz_pI t 26 f (mz_gI t 26 f - 1)) 27 f (mz_gI t 27 f + 1)) 25 f (mz_gI t 23 f)
theorem aE_row {t : mz_St} {f c : Nat} (h1 : c ≠ 26) (h2 : c ≠ 27) (h3 : c ≠ 25) : mz_gI (aE t f) c = mz_gI t c := by
  unfold aE
  rw [gI_row _ _ h3, gI_row _ _ h2, gI_row _ _ h1]
theorem aE_r {t : mz_St} {f : Nat} (p : Nat) : (mz_gI (aE t f) 26 p = if p = f then mz_gI t 26 f - 1 else mz_gI t 26 p) ∧ (mz_gI (aE t f) 27 p = if p = f then mz_gI t 27 f + 1 else mz_gI t 27 p) ∧ (mz_gI (aE t f) 25 p = if p = f then mz_gI t 23 f else mz_gI t 25 p) := by
  unfold aE
  by_cases h : p = f
  · subst h
    simp only [if_true]
    refine ⟨?_, ?_, ?_⟩ <;> (repeat (first | exact gI_same _ _ _ _ | rw [gI_oth _ _ (fun q => by have := q.1; omega)]))
  · simp only [if_neg h]
    refine ⟨?_, ?_, ?_⟩ <;> (repeat (first | rfl | rw [gI_oth _ _ (fun q => h q.2)] | rw [gI_oth _ _ (fun q => by have := q.1; omega)]))
theorem aE_HI {L : Int32} {t : mz_St} {f : Nat} (ci : HI L t) (h0 : 0 ≤ (mz_gI t 26 f).toInt) : AI L (aE t f) := by
  have f26 := FX_26 ci.1.1.1 f
  have f27 := FX_27 ci.1.1.1 f
  have f23 := FX_23 ci.1.1.1 f
  obtain ⟨r1, r2, r3, r4, r5⟩ := ci.1.2.2
  have r4f := r4 f
  have r1f := r1 f
  have l1 : (1 : Int32).toInt = 1 := rfl
  have e1 : (mz_gI t 26 f - (1 : Int32)).toInt = (mz_gI t 26 f).toInt - (1 : Int32).toInt := ti_sub (by omega) (by omega)
  have e2 : (mz_gI t 27 f + (1 : Int32)).toInt = (mz_gI t 27 f).toInt + (1 : Int32).toInt := ti_add (by omega) (by omega)
  refine ⟨?_, ?_, ?_⟩
  · have m1 := MI_fix (c := 26) (p := f) (v := mz_gI t 26 f - 1) ci.1.1 (FXp_26 ci.1.1.1 (by omega) (by omega)) rfl
    have m2 := MI_fix (c := 27) (p := f) (v := mz_gI t 27 f + 1) m1 (FXp_27 m1.1 (by omega) (by omega)) rfl
    exact MI_fix (c := 25) (p := f) (v := mz_gI t 23 f) m2 (FXp_25 m2.1 (by omega) (by omega)) rfl
  · rw [aE_row (by decide) (by decide) (by decide)]; exact ci.1.2.1
  · refine ⟨fun p => ?_, ?_, ?_, fun p => ?_, ?_⟩
    · rw [(aE_r p).2.2, aE_row (c := 23) (by decide) (by decide) (by decide), aE_row (c := 24) (by decide) (by decide) (by decide)]
      by_cases h : p = f
      · rw [if_pos h, h]; omega
      · rw [if_neg h]; exact r1 p
    · rw [aE_row (c := 6) (by decide) (by decide) (by decide), aE_row (c := 7) (by decide) (by decide) (by decide)]; exact r2
    · rw [aE_row (c := 31) (by decide) (by decide) (by decide), aE_row (c := 32) (by decide) (by decide) (by decide)]; exact r3
    · rw [(aE_r p).1, (aE_r p).2.1]
      by_cases h : p = f
      · rw [if_pos h, if_pos h]; omega
      · rw [if_neg h, if_neg h]; exact r4 p
    · rw [aE_row (c := 13) (by decide) (by decide) (by decide), aE_row (c := 14) (by decide) (by decide) (by decide), aE_row (c := 10) (by decide) (by decide) (by decide)]; exact r5
