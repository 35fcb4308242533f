/-! a call: arguments and what stands for them -/
def KI (t0 t : mz_St) : Prop := ∀ c p, ¬ (c = 35 ∨ c = 36 ∨ c = 37 ∨ c = 0 ∧ (p = 51 ∨ p = 62)) → mz_gI t c p = mz_gI t0 c p
set_option maxRecDepth 4000 in
set_option maxHeartbeats 8000000 in
theorem KI.p {t0 t t' : mz_St} {c p : Nat} {v : Int32} (h : KI t0 t) (e : t' = mz_pI t c p v) (hc : c = 35 ∨ c = 36 ∨ c = 37 ∨ c = 0 ∧ (p = 51 ∨ p = 62)) : KI t0 t' := fun x y q => by
  rw [e, gI_oth t v (fun z => q (by rw [z.1, z.2]; exact hc))]
  exact h x y q
set_option maxRecDepth 4000 in
set_option maxHeartbeats 8000000 in
theorem KI.row {t0 t : mz_St} (h : KI t0 t) {c : Nat} (hc : c ≠ 0) (h1 : c ≠ 35) (h2 : c ≠ 36) (h3 : c ≠ 37) : mz_gI t c = mz_gI t0 c := funext fun p => h c p (by omega)
set_option maxRecDepth 4000 in
set_option maxHeartbeats 8000000 in
theorem ds_mo (g h : Nat → Int32) (b : Nat) : ∀ k j, j ≤ k → ds g h b j ≤ ds g h b k := by
  intro k
  induction k with
  | zero => intro j hj; obtain rfl : j = 0 := by omega
            exact Int.le_refl _
  | succ k ih =>
    intro j hj
    by_cases e : j = k + 1
    · rw [e]; exact Int.le_refl _
    · have := ih j (by omega)
      have e : ds g h b (k + 1) = ds g h b k + (if (g (b + k)).toInt ≤ (h (b + k)).toInt then (h (b + k)).toInt - (g (b + k)).toInt else 0) := rfl
      rw [e]
      split <;> omega
def PPx (L : Int32) (t r : mz_St) : Prop := HI L r ∧ (0 < (mz_gI r 0 6).toInt ∨ (((mz_gI r 0 34).toInt ≤ 1 ∧ (mz_gI r 0 48).toInt ≤ 0) ∨ (2 ≤ (mz_gI r 0 34).toInt ∧ (mz_gI r 0 48).toInt ≤ 2390 + 310 * (mz_gI r 0 34).toInt))) ∧ (0 < (mz_gI r 0 6).toInt ∨ (((mz_gI r 0 34).toInt ≤ 1 ∧ (mz_gI r 0 51).toInt ≤ 0) ∨ (2 ≤ (mz_gI r 0 34).toInt ∧ (mz_gI r 0 51).toInt ≤ 3310 * (mz_gI r 0 34).toInt - 610))) ∧ (0 < (mz_gI r 0 6).toInt ∨ (mz_gI t 0 8).toInt ≤ (mz_gI r 0 8).toInt)
def CP (t0 : mz_St) (m : Nat) (x2 x3 : Int32) (g : Int) : Prop := 1 ≤ (mz_gI t0 0 34).toInt ∧ (mz_gI t0 0 34).toInt ≤ 13 ∧ m < 16 ∧ 0 ≤ x2.toInt ∧ x2.toInt ≤ 6500 ∧ 0 ≤ x3.toInt ∧ (((mz_gI t0 0 34).toInt ≤ 1 ∧ x2.toInt ≤ 0) ∨ (2 ≤ (mz_gI t0 0 34).toInt ∧ x2.toInt ≤ 2390 + 310 * (mz_gI t0 0 34).toInt)) ∧ (((mz_gI t0 0 34).toInt ≤ 1 ∧ x3.toInt ≤ 0) ∨ (2 ≤ (mz_gI t0 0 34).toInt ∧ x3.toInt ≤ 3310 * (mz_gI t0 0 34).toInt - 610))
  ∧ ((mz_gI t0 0 34).toInt = 1 ∧ g ≤ 3010 ∨ 2 ≤ (mz_gI t0 0 34).toInt ∧ g ≤ 3310 * (mz_gI t0 0 34).toInt - 300) ∧ ds (mz_gI t0 13) (mz_gI t0 14) (6 * m) (mz_gI t0 10 m).toNatClampNeg ≤ 3000
set_option maxRecDepth 4000 in
set_option maxHeartbeats 8000000 in
theorem l_call_179 {n : Nat} {L : Int32} {t0 : mz_St} {x1 x2 x3 x4 x5 : Int32} {m : Nat} {g : Int} (cp : CP t0 m x2 x3 g) (hm : x1.toInt = m) (h5 : 0 ≤ x5.toInt) (h5m : x5.toInt < (mz_gI t0 10 m).toInt) (h5k : (mz_gI t0 10 m).toInt ≤ 6)
    {K : Int32 → Int32 → Int32 → Int32 → Int32 → mz_St → Option mz_St} (hK : ∀ u, HI L u → KI t0 u → (mz_gI u 0 51).toInt ≤ g + ds (mz_gI t0 13) (mz_gI t0 14) (6 * m) (x5.toNatClampNeg + 1) → Tp (K x1 x2 x3 x4 (x5 + (1 : Int32)) u) (PPx L t0)) : ∀ (k : Nat) (x8 : Int32) (t : mz_St), HI L t → KI t0 t → 0 ≤ x8.toInt → (mz_gI t 0 51).toInt ≤ g + ds (mz_gI t0 13) (mz_gI t0 14) (6 * m) (x5.toNatClampNeg + 1) → ((mz_gI t0 14 (6 * m + x5.toNatClampNeg)).toInt ≤ x8.toInt ∨ (mz_gI t 0 51).toInt + ((mz_gI t0 14 (6 * m + x5.toNatClampNeg)).toInt - x8.toInt) ≤ g + ds (mz_gI t0 13) (mz_gI t0 14) (6 * m) (x5.toNatClampNeg + 1)) → (2147483648 - x8.toInt).toNat < k →
    Tp (f_MO_call_179 n K k x1 x2 x3 x4 x5 x8 t) (PPx L t0) := by
  obtain ⟨p1, p2, p3, p4, p5, p6, p7, p8, p9, p10⟩ := cp
  have dm := ds_mo (mz_gI t0 13) (mz_gI t0 14) (6 * m) (mz_gI t0 10 m).toNatClampNeg (x5.toNatClampNeg + 1) (by have := ti_cl x5; have := ti_cl (mz_gI t0 10 m); omega)
  have l1 : (1 : Int32).toInt = 1 := rfl
  have l6 : (6 : Int32).toInt = 6 := rfl
  have c5 := ti_cl x5
  have e1 : ((6 : Int32) * x1).toInt = 6 * x1.toInt := ti_mull rfl (by omega) (by omega)
  have e2 : ((6 : Int32) * x1 + x5).toInt = ((6 : Int32) * x1).toInt + x5.toInt := ti_add (by omega) (by omega)
  have e3 : (x2 + x5).toInt = x2.toInt + x5.toInt := ti_add (by omega) (by omega)
  have cl6 := ti_cl ((6 : Int32) * x1 + x5)
  have ix : ((6 : Int32) * x1 + x5).toNatClampNeg = 6 * m + x5.toNatClampNeg := by omega
  intro k
  induction k with
  | zero => intros; omega
  | succ k ih =>
    intro x8 t ci ki h8 hb hd hk
    have r14 := ki.row (c := 14) (by decide) (by decide) (by decide) (by decide)
    have f14 := FX_14 (HI_FX ci) (6 * m + x5.toNatClampNeg)
    rw [r14] at f14
    have f51 := FX_0_51 (HI_FX ci)
    have c51 := ti_cl (mz_gI t 0 51)
    unfold f_MO_call_179
    refine Tp_gd (ti_ix (by omega) (by omega)) ?_
    rw [ix, r14]
    refine Tp_if (fun h => ?_) (fun h => ?_)
    · refine Tp_gd (ti_ix (by omega) (by omega)) ?_
      refine Tp_le (fun t4 e4 => ?_)
      unfold f_MO_call_241
      refine hK t4 (HI_f36 ci e4 (by omega) (by omega)) (ki.p e4 (by omega)) ?_
      rw [e4, gI_oth _ _ (by simp)]
      exact hb
    · have h' := ti_ne h
      have hd' : (mz_gI t 0 51).toInt + ((mz_gI t0 14 (6 * m + x5.toNatClampNeg)).toInt - x8.toInt) ≤ g + ds (mz_gI t0 13) (mz_gI t0 14) (6 * m) (x5.toNatClampNeg + 1) := by omega
      refine Tp_gd (ti_ix (by omega) (by omega)) ?_
      refine Tp_gd (ti_ix (by omega) (by omega)) ?_
      refine Tp_le (fun t5 e5 => ?_)
      have g5 : mz_gI t5 0 51 = mz_gI t 0 51 := by rw [e5, gI_oth _ _ (by simp)]
      have c5' := HI_f37 ci e5
      have k5 := ki.p e5 (by omega)
      refine Tp_le (fun t6 e6 => ?_)
      have e51 : (mz_gI t 0 51 + (1 : Int32)).toInt = (mz_gI t 0 51).toInt + (1 : Int32).toInt := ti_add (by omega) (by omega)
      rw [g5] at e6
      have c6 := HI_f51 c5' e6 (by omega) (by omega)
      have k6 := k5.p e6 (by omega)
      have g6 : mz_gI t6 0 51 = mz_gI t 0 51 + 1 := by rw [e6, gI_same]
      have e8 : (x8 + (1 : Int32)).toInt = x8.toInt + (1 : Int32).toInt := ti_add (by omega) (by omega)
      exact ih (x8 + 1) t6 c6 k6 (by omega) (by rw [g6]; omega) (by rw [g6]; omega) (by omega)
set_option maxRecDepth 4000 in
set_option maxHeartbeats 8000000 in
theorem l_call_64 {n : Nat} {L : Int32} (hn : 8589934592 ≤ n) {t0 : mz_St} {x1 x2 x3 x4 : Int32} {m : Nat} {g : Int} (cp : CP t0 m x2 x3 g) (hm : x1.toInt = m) (h6 : 0 ≤ (mz_gI t0 10 m).toInt ∧ (mz_gI t0 10 m).toInt ≤ 6) : ∀ (k : Nat) (x5 : Int32) (t : mz_St), HI L t → KI t0 t → 0 ≤ x5.toInt → x5.toInt ≤ (mz_gI t0 10 m).toInt → (mz_gI t 0 51).toInt ≤ g + ds (mz_gI t0 13) (mz_gI t0 14) (6 * m) x5.toNatClampNeg → (2147483648 - x5.toInt).toNat < k →
    Tp (f_MO_call_64 n k x1 x2 x3 x4 x5 t) (PPx L t0) := by
  have cp' := cp
  obtain ⟨p1, p2, p3, p4, p5, p6, p7, p8, p9, p10⟩ := cp
  have c1 := ti_cl x1
  have m1 : x1.toNatClampNeg = m := by omega
  have l1 : (1 : Int32).toInt = 1 := rfl
  have l0 : (0 : Int32).toInt = 0 := rfl
  have l6 : (6 : Int32).toInt = 6 := rfl
  have cmo := ti_cl (mz_gI t0 10 m)
  intro k
  induction k with
  | zero => intros; omega
  | succ k ih =>
    intro x5 t ci ki h5 h5m hb hk
    have c5 := ti_cl x5
    have r10 := ki.row (c := 10) (by decide) (by decide) (by decide) (by decide)
    have r13 := ki.row (c := 13) (by decide) (by decide) (by decide) (by decide)
    have r14 := ki.row (c := 14) (by decide) (by decide) (by decide) (by decide)
    have g34 : mz_gI t 0 34 = mz_gI t0 0 34 := ki 0 34 (by simp)
    have g8 : mz_gI t 0 8 = mz_gI t0 0 8 := ki 0 8 (by simp)
    have dm := ds_mo (mz_gI t0 13) (mz_gI t0 14) (6 * m) (mz_gI t0 10 m).toNatClampNeg x5.toNatClampNeg (by omega)
    have f51 := FX_0_51 (HI_FX ci)
    have e247 : ∀ u, HI L u → KI t0 u → (mz_gI u 0 51).toInt ≤ g + ds (mz_gI t0 13) (mz_gI t0 14) (6 * m) x5.toNatClampNeg → Tp (f_MO_call_247 n x1 x2 x3 u) (PPx L t0) := by
      intro u cu ku hu
      have u34 : mz_gI u 0 34 = mz_gI t0 0 34 := ku 0 34 (by simp)
      have u8 : mz_gI u 0 8 = mz_gI t0 0 8 := ku 0 8 (by simp)
      refine Tp_mo (s_MO_call_247 hn cu (by rw [u34]; exact p1) (by omega) (by omega) p4 p6 (by rw [u34]; exact p7) (by rw [u34]; exact p8) (by rw [u34]; omega)) (fun r hr => ?_)
      unfold PPx
      rw [← u8]
      exact hr
    unfold f_MO_call_64
    refine Tp_gd (ti_ix (by omega) (by omega)) ?_
    rw [m1, r10]
    refine Tp_if (fun _ => e247 t ci ki hb) (fun h => ?_)
    have h' := ti_ne h
    refine Tp_if (fun _ => e247 t ci ki hb) (fun _ => ?_)
    have e1 : ((6 : Int32) * x1).toInt = 6 * x1.toInt := ti_mull rfl (by omega) (by omega)
    have e2 : ((6 : Int32) * x1 + x5).toInt = ((6 : Int32) * x1).toInt + x5.toInt := ti_add (by omega) (by omega)
    have cl6 := ti_cl ((6 : Int32) * x1 + x5)
    have ix : ((6 : Int32) * x1 + x5).toNatClampNeg = 6 * m + x5.toNatClampNeg := by omega
    have e3 : (x2 + x5).toInt = x2.toInt + x5.toInt := ti_add (by omega) (by omega)
    have e5 : (x5 + (1 : Int32)).toInt = x5.toInt + (1 : Int32).toInt := ti_add (by omega) (by omega)
    have c51 := ti_cl (x5 + 1)
    have ix5 : (x5 + 1).toNatClampNeg = x5.toNatClampNeg + 1 := by omega
    have dnx := ds_mo (mz_gI t0 13) (mz_gI t0 14) (6 * m) (x5.toNatClampNeg + 1) x5.toNatClampNeg (by omega)
    have dmx := ds_mo (mz_gI t0 13) (mz_gI t0 14) (6 * m) (mz_gI t0 10 m).toNatClampNeg (x5.toNatClampNeg + 1) (by omega)
    have hK : ∀ u, HI L u → KI t0 u → (mz_gI u 0 51).toInt ≤ g + ds (mz_gI t0 13) (mz_gI t0 14) (6 * m) (x5.toNatClampNeg + 1) → Tp (f_MO_call_64 n k x1 x2 x3 x4 (x5 + (1 : Int32)) u) (PPx L t0) := by
      intro u cu ku hu
      exact ih (x5 + 1) u cu ku (by omega) (by omega) (by rw [ix5]; exact hu) (by omega)
    have f13 := FX_13 (HI_FX ci) (6 * m + x5.toNatClampNeg)
    rw [r13] at f13
    have b147 : ∀ (x6 s1 : Int32), (s1 = 0 ∨ s1 = 1 ∧ (x6 = 0 ∨ 0 ≤ (mz_gI t0 13 (6 * m + x5.toNatClampNeg)).toInt)) → Tp (f_MO_call_147 n (f_MO_call_64 n k) x1 x2 x3 x4 x5 x6 (mz_gI t0 13 (6 * m + x5.toNatClampNeg)) s1 t) (PPx L t0) := by
      intro x6 s1 hs
      have hs01 : s1 = 0 ∨ s1 = 1 := by rcases hs with h | h; exact Or.inl h; exact Or.inr h.1
      unfold f_MO_call_147
      refine Tp_gd hs01 ?_
      refine Tp_le (fun t3 e3' => ?_)
      have c3 := HI_p2 ci e3' (c := 0) (p := 62) rfl (by rcases hs01 with h | h <;> rw [h] <;> decide) (by rcases hs01 with h | h <;> rw [h] <;> decide)
      have k3 := ki.p e3' (by omega)
      have g51 : mz_gI t3 0 51 = mz_gI t 0 51 := by rw [e3', gI_oth _ _ (by simp)]
      have g62 : mz_gI t3 0 62 = s1 := by rw [e3', gI_same]
      refine Tp_if (fun _ => ?_) (fun hx6 => ?_)
      · unfold f_MO_call_241
        exact hK t3 c3 k3 (by rw [g51]; omega)
      · refine Tp_if (fun _ => ?_) (fun h62 => ?_)
        · unfold f_MO_call_241
          exact hK t3 c3 k3 (by rw [g51]; omega)
        · rw [g62] at h62
          have h0 : 0 ≤ (mz_gI t0 13 (6 * m + x5.toNatClampNeg)).toInt := by
            rcases hs with h | ⟨-, h | h⟩
            · exact absurd h h62
            · exact absurd h hx6
            · exact h
          refine Tp_gd (ti_ix (by omega) (by omega)) ?_
          refine Tp_le (fun t8 e8 => ?_)
          have c8 := HI_f35 c3 e8 (by rw [g51]; omega) (by rw [g51]; omega)
          have k8 := k3.p e8 (by omega)
          have g8' : mz_gI t8 0 51 = mz_gI t 0 51 := by rw [e8, gI_oth _ _ (by simp)]; exact g51
          refine l_call_179 cp' hm h5 (by omega) (by omega) hK n _ t8 c8 k8 h0 (by rw [g8']; omega) ?_ (by omega)
          rw [g8']
          have : ds (mz_gI t0 13) (mz_gI t0 14) (6 * m) (x5.toNatClampNeg + 1) = ds (mz_gI t0 13) (mz_gI t0 14) (6 * m) x5.toNatClampNeg + (if (mz_gI t0 13 (6 * m + x5.toNatClampNeg)).toInt ≤ (mz_gI t0 14 (6 * m + x5.toNatClampNeg)).toInt then (mz_gI t0 14 (6 * m + x5.toNatClampNeg)).toInt - (mz_gI t0 13 (6 * m + x5.toNatClampNeg)).toInt else 0) := rfl
          rw [this]
          split <;> omega
    have b115 : ∀ s0 : Int32, Tp (f_MO_call_115 n (f_MO_call_64 n k) x1 x2 x3 x4 x5 s0 t) (PPx L t0) := by
      intro s0
      unfold f_MO_call_115 f_MO_call_142
      refine Tp_gd (ti_ix (by omega) (by omega)) ?_
      rw [ix, r13]
      refine Tp_if (fun h => ?_) (fun h => ?_)
      · exact b147 s0 1 (Or.inr ⟨rfl, Or.inl h⟩)
      · refine Tp_if (fun h2 => ?_) (fun h2 => ?_)
        · exact b147 s0 0 (Or.inl rfl)
        · exact b147 s0 1 (Or.inr ⟨rfl, Or.inr (by have := ti_nl h2; omega)⟩)
    unfold f_MO_call_110
    refine Tp_if (fun _ => b115 1) (fun _ => ?_)
    refine Tp_gd (ti_ix (by omega) (by omega)) ?_
    refine Tp_gd (ti_ix (by omega) (by omega)) ?_
    exact Tp_if (fun _ => b115 1) (fun _ => b115 0)
set_option maxRecDepth 4000 in
set_option maxHeartbeats 8000000 in
theorem s_MO_call {n : Nat} {L : Int32} (hn : 8589934592 ≤ n) {x1 : Int32} {t : mz_St} (ci : HI L t) (i0 : (((mz_gI t 0 34).toInt ≤ 1 ∧ (mz_gI t 0 48).toInt ≤ 0) ∨ (2 ≤ (mz_gI t 0 34).toInt ∧ (mz_gI t 0 48).toInt ≤ 2390 + 310 * (mz_gI t 0 34).toInt))) (i1 : (((mz_gI t 0 34).toInt ≤ 1 ∧ (mz_gI t 0 51).toInt ≤ 0) ∨ (2 ≤ (mz_gI t 0 34).toInt ∧ (mz_gI t 0 51).toInt ≤ 3310 * (mz_gI t 0 34).toInt - 610))) (i2 : 1 ≤ (mz_gI t 0 34).toInt)
    (i3 : (¬ (mz_gI t 0 34).toInt = 1 ∨ (mz_gI t 0 60).toInt ≤ 3000)) (i4 : ((mz_gI t 0 34).toInt ≤ 1 ∨ (mz_gI t 0 60).toInt ≤ 300)) (i5 : 0 ≤ x1.toInt) (i6 : x1.toInt ≤ 15) : Tp (f_MO_call n x1 t) (PPx L t) := by
  have f34 := FX_0_34 (HI_FX ci)
  have f48 := FX_0_48 (HI_FX ci)
  have f51 := FX_0_51 (HI_FX ci)
  have f10 := FX_10 (HI_FX ci) x1.toNatClampNeg
  have c1 := ti_cl x1
  have l0 : (0 : Int32).toInt = 0 := rfl
  have r5 := ci.1.2.2.2.2.2.2 x1.toNatClampNeg (by omega)
  have b58 : ∀ (u : mz_St) (x4 s1 : Int32) (g : Int), HI L u → (s1 = 0 ∨ s1 = 1) → (mz_gI u 0 34).toInt = (mz_gI t 0 34).toInt → (mz_gI u 0 8).toInt = (mz_gI t 0 8).toInt → (mz_gI u 0 51).toInt ≤ g → ((mz_gI t 0 34).toInt = 1 ∧ g ≤ 3010 ∨ 2 ≤ (mz_gI t 0 34).toInt ∧ g ≤ 3310 * (mz_gI t 0 34).toInt - 300) → mz_gI u 10 = mz_gI t 10 → mz_gI u 13 = mz_gI t 13 → mz_gI u 14 = mz_gI t 14 →
      Tp (f_MO_call_58 n x1 (mz_gI t 0 48) (mz_gI t 0 51) x4 s1 u) (PPx L t) := by
    intro u x4 s1 g cu hs u34 u8 ug hg u10 u13 u14
    unfold f_MO_call_58
    refine Tp_gd hs ?_
    refine Tp_le (fun t6 e6 => ?_)
    have c6 := HI_p2 cu e6 (c := 0) (p := 62) rfl (by rcases hs with h | h <;> rw [h] <;> decide) (by rcases hs with h | h <;> rw [h] <;> decide)
    have z : ∀ p, p ≠ 62 → mz_gI t6 0 p = mz_gI u 0 p := fun p hp => by rw [e6, gI_oth _ _ (by omega)]
    have w : ∀ c, c ≠ 0 → mz_gI t6 c = mz_gI u c := fun c hc => by rw [e6, gI_row _ _ hc]
    have cpp : CP t6 x1.toNatClampNeg (mz_gI t 0 48) (mz_gI t 0 51) g := by
      unfold CP
      rw [z 34 (by decide), u34, w 13 (by decide), w 14 (by decide), w 10 (by decide), u10, u13, u14]
      exact ⟨i2, by omega, by omega, by omega, by omega, by omega, i0, i1, hg, r5⟩
    refine Tp_mo (l_call_64 hn (t0 := t6) cpp (by omega) (by rw [w 10 (by decide), u10]; omega) n 0 t6 c6 (fun _ _ _ => rfl) (by decide) (by rw [w 10 (by decide), u10, l0]; omega) (by rw [z 51 (by decide)]; show _ ≤ g + 0; omega) (by rw [l0]; omega)) (fun r hr => ?_)
    unfold PPx at hr ⊢
    rw [z 8 (by decide), u8] at hr
    exact hr
  have b34 : ∀ (u : mz_St) (x4 : Int32) (g : Int), HI L u → (mz_gI u 0 34).toInt = (mz_gI t 0 34).toInt → (mz_gI u 0 8).toInt = (mz_gI t 0 8).toInt → (mz_gI u 0 51).toInt ≤ g → ((mz_gI t 0 34).toInt = 1 ∧ g ≤ 3010 ∨ 2 ≤ (mz_gI t 0 34).toInt ∧ g ≤ 3310 * (mz_gI t 0 34).toInt - 300) → mz_gI u 10 = mz_gI t 10 → mz_gI u 13 = mz_gI t 13 → mz_gI u 14 = mz_gI t 14 →
      Tp (f_MO_call_34 n x1 (mz_gI t 0 48) (mz_gI t 0 51) x4 u) (PPx L t) := by
    intro u x4 g cu u34 u8 ug hg u10 u13 u14
    unfold f_MO_call_34 f_MO_call_57
    refine Tp_if (fun _ => b58 u x4 0 g cu (Or.inl rfl) u34 u8 ug hg u10 u13 u14) (fun _ => ?_)
    refine Tp_gd (ti_ix (by omega) (by omega)) ?_
    exact Tp_if (fun _ => b58 u x4 0 g cu (Or.inl rfl) u34 u8 ug hg u10 u13 u14) (fun _ => b58 u x4 1 g cu (Or.inr rfl) u34 u8 ug hg u10 u13 u14)
  unfold f_MO_call
  refine Tp_bi (s_MO_blanks hn (HI_MI ci)) (fun q hq => ?_)
  obtain ⟨mq, q60, -, -, -⟩ := hq
  have cq := HI_tr ci mq
  have q34 := MI_13 mq (c := 0) (p := 34) rfl
  have q8 := MI_13 mq (c := 0) (p := 8) rfl
  have q51 := MI_13 mq (c := 0) (p := 51) rfl
  have q48 := MI_13 mq (c := 0) (p := 48) rfl
  have q10 := MI_row mq (c := 10) (fun _ => rfl)
  have q13 := MI_row mq (c := 13) (fun _ => rfl)
  have q14 := MI_row mq (c := 14) (fun _ => rfl)
  refine Tp_if (fun _ => b34 q 0 (mz_gI t 0 51).toInt cq q34 q8 (by omega) (by omega) q10 q13 q14) (fun _ => ?_)
  have f60 := HI_g23 cq (c := 0) (p := 60) rfl
  refine Tp_bi (s_MO_readTexts hn (HI_NI cq) (by omega) (by omega)) (fun d hd => ?_)
  obtain ⟨nd, d48, d0, d60, d51, d51'⟩ := hd
  have cd := HI_trN cq nd
  refine b34 d.2 d.1 ((mz_gI t 0 51).toInt + (mz_gI t 0 60).toInt + 1) cd ((NI_13 nd rfl).trans q34) ((NI_13 nd rfl).trans q8) (by omega) (by omega) ((NI_row nd (fun _ => rfl)).trans q10) ((NI_row nd (fun _ => rfl)).trans q13) ((NI_row nd (fun _ => rfl)).trans q14)
