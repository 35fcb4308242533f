def RQ (L : Int32) (t0 : mz_St) (x1 : Int) (r : mz_St) : Prop := HI L r ∧ QQ t0 r ∧ GP x1 r
set_option maxRecDepth 4000 in
set_option maxHeartbeats 8000000 in
theorem GP_0 {x1 : Int} {t t' : mz_St} (e : t' = mz_pI t 0 62 0) : GP x1 t' := Or.inl (by rw [e, gI_same]; rfl)
set_option maxRecDepth 4000 in
set_option maxHeartbeats 8000000 in
theorem GP_1 {x1 : Int} {t t' : mz_St} (h : GP x1 t) (hok : (mz_gI t 0 62).toInt ≠ 0) (e : t' = mz_pI t 0 62 1) : GP x1 t' := by
  rcases h with h | ⟨h1, h2, h3⟩
  · exact absurd h hok
  · refine Or.inr ?_
    rw [e, gI_oth _ _ (by simp), gI_oth _ _ (by simp), gI_oth _ _ (by simp), gI_row _ _ (by decide), gI_row _ _ (by decide)]
    exact ⟨h1, h2, h3⟩
set_option maxRecDepth 4000 in
set_option maxHeartbeats 8000000 in
theorem rP_211 {n : Nat} {L : Int32} (hn : 8589934592 ≤ n) {t0 : mz_St} {x1 : Int32} {Q : mz_St → Prop} {K : Int32 → mz_St → Option mz_St} {q0 : Int} (hK : ∀ u, RQ L t0 x1.toInt u → ((mz_gI u 0 62).toInt = 0 ∨ q0 < (mz_gI u 0 61).toInt) → Tp (K x1 u) Q)
    {t : mz_St} (ci : HI L t) (qq : QQ t0 t) (h5 : (mz_gI t 0 75).toInt ≤ 5) (hq : q0 < (mz_gI t 0 61).toInt) (hqe : (mz_gI t 0 61).toInt ≤ (mz_gI t 0 60).toInt)
    (hd : ds (mz_gI t 53) (mz_gI t 54) 0 ((mz_gI t 0 75).toNatClampNeg + 1) ≤ (mz_gI t 0 61).toInt) (hb : ∀ k, k < (mz_gI t 0 75).toNatClampNeg + 1 → (mz_gI t 53 k).toInt ≤ (mz_gI t 54 k).toInt ∧ (mz_gI t 54 k).toInt ≤ (mz_gI t 0 60).toInt + x1.toInt) :
    Tp (f_MO_readParameters_211 n K x1 t) Q := by
  have f75 := FX_0_75 (HI_FX ci)
  have l1 : (1 : Int32).toInt = 1 := rfl
  have e75 : (mz_gI t 0 75 + (1 : Int32)).toInt = (mz_gI t 0 75).toInt + (1 : Int32).toInt := ti_add (by omega) (by omega)
  have c75 := ti_cl (mz_gI t 0 75)
  have c76 := ti_cl (mz_gI t 0 75 + 1)
  have ix : (mz_gI t 0 75 + 1).toNatClampNeg = (mz_gI t 0 75).toNatClampNeg + 1 := by omega
  unfold f_MO_readParameters_211
  refine Tp_le (fun t7 e7 => ?_)
  have c7 := HI_f75 ci e7 (by omega) (by omega)
  refine Tp_bi (s_MO_blanks hn (HI_MI c7)) (fun u hu => ?_)
  obtain ⟨mu, u60, u61, u61', u62⟩ := hu
  have g60 : mz_gI t7 0 60 = mz_gI t 0 60 := by rw [e7, gI_oth _ _ (by simp)]
  have g61 : mz_gI t7 0 61 = mz_gI t 0 61 := by rw [e7, gI_oth _ _ (by simp)]
  have g75 : mz_gI t7 0 75 = mz_gI t 0 75 + 1 := by rw [e7, gI_same]
  have v53 : mz_gI u 53 = mz_gI t 53 := by rw [MI_row mu (fun _ => rfl), e7, gI_row _ _ (by decide)]
  have v54 : mz_gI u 54 = mz_gI t 54 := by rw [MI_row mu (fun _ => rfl), e7, gI_row _ _ (by decide)]
  have v75 : mz_gI u 0 75 = mz_gI t 0 75 + 1 := by rw [mu.2.1 0 75 rfl, g75]
  rw [g60] at u60
  rw [g61] at u61 u61'
  refine hK u ⟨HI_tr c7 mu, (qq.p e7 (by omega)).m mu (by rw [g60]; exact u60), Or.inr ⟨by omega, ?_, ?_⟩⟩ (Or.inr (by omega))
  · rw [v53, v54, v75, ix]; omega
  · rw [v53, v54, v75, ix, u60]; exact hb
set_option maxRecDepth 4000 in
set_option maxHeartbeats 8000000 in
theorem rP_126 {n : Nat} {L : Int32} (hn : 8589934592 ≤ n) {t0 : mz_St} {x1 : Int32} (hx1 : 0 ≤ x1.toInt) (hx2 : x1.toInt ≤ 3000) {K : Int32 → mz_St → Option mz_St} {q0 : Int} (hK : ∀ u, RQ L t0 x1.toInt u → ((mz_gI u 0 62).toInt = 0 ∨ q0 < (mz_gI u 0 61).toInt) → Tp (K x1 u) (RQ L t0 x1.toInt))
    {t : mz_St} {s1 : Int32} (ci : HI L t) (qq : QQ t0 t) (gp : GP x1.toInt t) (hs : s1 = 0 ∨ s1 = 1 ∧ (mz_gI t 0 62).toInt ≠ 0 ∧ (mz_gI t 0 75).toInt ≤ 5 ∧ q0 < (mz_gI t 0 61).toInt) :
    Tp (f_MO_readParameters_126 n K x1 s1 t) (RQ L t0 x1.toInt) := by
  have hs01 : s1 = 0 ∨ s1 = 1 := by rcases hs with h | h; exact Or.inl h; exact Or.inr h.1
  have f75 := FX_0_75 (HI_FX ci)
  unfold f_MO_readParameters_126
  refine Tp_gd hs01 ?_
  refine Tp_le (fun t2 e2 => ?_)
  have c2 := HI_p2 ci e2 (c := 0) (p := 62) rfl (by rcases hs01 with h | h <;> rw [h] <;> decide) (by rcases hs01 with h | h <;> rw [h] <;> decide)
  have q2 := qq.p e2 (by omega)
  rcases hs with h | ⟨h, hok, h75, hq⟩
  · rw [h] at e2
    refine Tp_if (fun _ => Tp_so ⟨c2, q2, GP_0 e2⟩) (fun hne => ?_)
    exact absurd (by rw [e2, gI_same]) hne
  · rw [h] at e2
    have g62 : mz_gI t2 0 62 = 1 := by rw [e2, gI_same]
    refine Tp_if (fun hz => ?_) (fun _ => ?_)
    · rw [g62] at hz; exact absurd hz (by decide)
    have gz : ∀ p, p ≠ 62 → mz_gI t2 0 p = mz_gI t 0 p := fun p hp => by rw [e2, gI_oth _ _ (by omega)]
    have gr : ∀ c, c ≠ 0 → mz_gI t2 c = mz_gI t c := fun c hc => by rw [e2, gI_row _ _ hc]
    rcases gp with hz | ⟨p1, p2, p3⟩
    · exact absurd hz hok
    obtain ⟨j, hj⟩ : ∃ j, j = (mz_gI t 0 75).toNatClampNeg := ⟨_, rfl⟩
    have cj := ti_cl (mz_gI t 0 75)
    have gx : ¬ ((mz_gI t 0 75) < 0 ∨ 8 ≤ (mz_gI t 0 75).toNatClampNeg) := ti_ix (by omega) (by omega)
    have f60 := HI_g23 ci (c := 0) (p := 60) rfl
    simp only [mz_let]
    have s75 : ∀ (a b : Int64) (c d : Nat) (y : mz_St), mz_gI (mz_pL (mz_pL y c d a) c d b) 0 75 = mz_gI y 0 75 := fun _ _ _ _ _ => rfl
    have eT : mz_gI t2 0 75 = mz_gI t 0 75 := gz 75 (by decide)
    have eL1 : mz_gI (mz_pL t2 51 (mz_gI t 0 75).toNatClampNeg (mz_gL t2 0 65)) 0 75 = mz_gI t 0 75 := eT
    rw [eT, if_pos gx, eL1, if_pos gx]
    obtain ⟨w, ew⟩ : ∃ w, w = mz_pL (mz_pL t2 51 (mz_gI t 0 75).toNatClampNeg (mz_gL t2 0 65)) 52 (mz_gI t 0 75).toNatClampNeg (mz_gL (mz_pL t2 51 (mz_gI t 0 75).toNatClampNeg (mz_gL t2 0 65)) 0 66) := ⟨_, rfl⟩
    rw [← ew]
    have gw : ∀ c p, mz_gI w c p = mz_gI t2 c p := fun c p => by rw [ew]; rfl
    have cw : HI L w := HI_pL (HI_pL c2 rfl) ew
    have qw : QQ t0 w := ⟨fun c p h1 h2 => (gw c p).trans (q2.1 c p h1 h2), (gw 0 60).trans q2.2⟩
    rw [gw 0 75, eT, if_pos gx, gI_z _ _ (by decide), gw 0 75, eT, if_pos gx, ← hj]
    obtain ⟨v, ev⟩ : ∃ v, v = mz_pI w 53 j (-1) := ⟨_, rfl⟩
    have cv := HI_fr53 cw ev (by decide) (by decide)
    have qv := qw.p ev (by omega)
    rw [← ev]
    obtain ⟨u, eu⟩ : ∃ u, u = mz_pI v 54 j (-1) := ⟨_, rfl⟩
    have cu := HI_fr54 cv eu (by decide) (by decide)
    have qu := qv.p eu (by omega)
    rw [← eu]
    have u0 : ∀ p, mz_gI u 0 p = mz_gI t2 0 p := fun p => by rw [eu, gI_z _ _ (by decide), ev, gI_z _ _ (by decide), gw]
    have u53 : ∀ p, mz_gI u 53 p = if p = j then -1 else mz_gI t 53 p := fun p => by
      rw [eu, gI_row _ _ (by decide), ev]
      by_cases h : p = j
      · rw [h, gI_same, if_pos rfl]
      · rw [gI_oth _ _ (fun q => h q.2), if_neg h, gw, gr 53 (by decide)]
    have u54 : ∀ p, mz_gI u 54 p = if p = j then -1 else mz_gI t 54 p := fun p => by
      rw [eu]
      by_cases h : p = j
      · rw [h, gI_same, if_pos rfl]
      · rw [gI_oth _ _ (fun q => h q.2), if_neg h, ev, gI_row _ _ (by decide), gw, gr 54 (by decide)]
    refine Tp_bi (s_MO_blanks hn (HI_MI cu)) (fun a ha => ?_)
    obtain ⟨ma, a60, a61, a61', -⟩ := ha
    have ca := HI_tr cu ma
    have qa := qu.m ma a60
    rw [u0 60, gz 60 (by decide)] at a60
    rw [u0 61, gz 61 (by decide)] at a61 a61'
    have a75 : mz_gI a 0 75 = mz_gI t 0 75 := by rw [ma.2.1 0 75 rfl, u0 75, eT]
    have a53 : mz_gI a 53 = mz_gI u 53 := MI_row ma (fun _ => rfl)
    have a54 : mz_gI a 54 = mz_gI u 54 := MI_row ma (fun _ => rfl)
    have dsj : ∀ (g h : Nat → Int32), (∀ i, i < j → g i = mz_gI t 53 i ∧ h i = mz_gI t 54 i) → ds g h 0 j = ds (mz_gI t 53) (mz_gI t 54) 0 j := fun g h e => ds_cg j (fun i hi => by rw [Nat.zero_add]; exact e i hi)
    have dsn : ∀ (g h : Nat → Int32), ds g h 0 (j + 1) = ds g h 0 j + (if (g j).toInt ≤ (h j).toInt then (h j).toInt - (g j).toInt else 0) := fun g h => by
      show ds g h 0 j + (if (g (0 + j)).toInt ≤ (h (0 + j)).toInt then (h (0 + j)).toInt - (g (0 + j)).toInt else 0) = _
      rw [Nat.zero_add]
    rw [← hj] at p2 p3
    refine Tp_bi (s_MO_here hn (HI_MI ca)) (fun b hb => ?_)
    obtain ⟨-, eb, hb⟩ := hb
    rw [eb]
    have lm : (-1 : Int32).toInt = -1 := rfl
    refine Tp_if (fun h61 => ?_) (fun _ => ?_)
    · have h61' := ti_q h61
      rw [show (61 : Int32).toInt = 61 from rfl] at h61'
      have hlt : (mz_gI a 0 61).toInt < (mz_gI a 0 60).toInt := by omega
      have l1 : (1 : Int32).toInt = 1 := rfl
      have fa61 := HI_g24 ca (c := 0) (p := 61) rfl
      have e61 : (mz_gI a 0 61 + (1 : Int32)).toInt = (mz_gI a 0 61).toInt + (1 : Int32).toInt := ti_add (by omega) (by omega)
      obtain ⟨d, ed⟩ : ∃ d, d = mz_pI a 0 61 (mz_gI a 0 61 + 1) := ⟨_, rfl⟩
      rw [← ed]
      have cd := HI_p24 ca ed (c := 0) (p := 61) rfl (by omega) (by omega)
      have qd := qa.p ed (by omega)
      have d61 : mz_gI d 0 61 = mz_gI a 0 61 + 1 := by rw [ed, gI_same]
      have d60 : mz_gI d 0 60 = mz_gI a 0 60 := by rw [ed, gI_oth _ _ (by simp)]
      have d75 : mz_gI d 0 75 = mz_gI t 0 75 := by rw [ed, gI_oth _ _ (by simp)]; exact a75
      have d53 : mz_gI d 53 = mz_gI u 53 := by rw [ed, gI_row _ _ (by decide)]; exact a53
      have d54 : mz_gI d 54 = mz_gI u 54 := by rw [ed, gI_row _ _ (by decide)]; exact a54
      unfold f_MO_readDefault
      refine Tp_bi (rD_5 hn (x1 := x1) (x2 := mz_gI d 0 61) (by rw [d61]; omega) n d (by rw [d75]; omega) (by rw [d75]; omega) (by rw [d60]; omega) (Int.le_refl _) (by rw [d61, d60]; omega) (by rw [d61]; omega)) (fun r hr => ?_)
      obtain ⟨q, aa, bb, er, r1, r2, r3, r4, r5⟩ := hr
      rw [d75, ← hj] at er
      rw [d61] at r1 r4
      rw [d60] at r5
      have ea : (aa + x1).toInt = aa.toInt + x1.toInt := ti_add (by omega) (by omega)
      have ebb : (bb + x1).toInt = bb.toInt + x1.toInt := ti_add (by omega) (by omega)
      have ca1 := HI_p24 cd (t' := mz_pI d 0 61 q) rfl (c := 0) (p := 61) rfl (by omega) (by omega)
      have ca2 := HI_fr53 ca1 (t' := mz_pI (mz_pI d 0 61 q) 53 j (aa + x1)) rfl (by omega) (by omega)
      have cr : HI L r := HI_fr54 ca2 er (by omega) (by omega)
      have qr : QQ t0 r := ((qd.p (t' := mz_pI d 0 61 q) rfl (by omega)).p (t' := mz_pI (mz_pI d 0 61 q) 53 j (aa + x1)) rfl (by omega)).p er (by omega)
      have rz : ∀ p, p ≠ 61 → mz_gI r 0 p = mz_gI d 0 p := fun p hp => by rw [er]; unfold rD; rw [gI_z _ _ (by decide), gI_z _ _ (by decide), gI_oth _ _ (by omega)]
      have r61 : mz_gI r 0 61 = q := by rw [er]; unfold rD; rw [gI_z _ _ (by decide), gI_z _ _ (by decide), gI_same]
      have r53 : ∀ p, mz_gI r 53 p = if p = j then aa + x1 else mz_gI t 53 p := fun p => by
        rw [er]; unfold rD
        rw [gI_row _ _ (by decide)]
        by_cases h : p = j
        · rw [h, gI_same, if_pos rfl]
        · rw [gI_oth _ _ (fun q => h q.2), if_neg h, gI_row _ _ (by decide), d53, u53, if_neg h]
      have r54 : ∀ p, mz_gI r 54 p = if p = j then bb + x1 else mz_gI t 54 p := fun p => by
        rw [er]; unfold rD
        by_cases h : p = j
        · rw [h, gI_same, if_pos rfl]
        · rw [gI_oth _ _ (fun q => h q.2), if_neg h, gI_row _ _ (by decide), gI_row _ _ (by decide), d54, u54, if_neg h]
      have r75 : mz_gI r 0 75 = mz_gI t 0 75 := by rw [rz 75 (by decide)]; exact d75
      have r60 : mz_gI r 0 60 = mz_gI a 0 60 := by rw [rz 60 (by decide)]; exact d60
      refine rP_211 hn hK cr qr (by rw [r75]; exact h75) (by rw [r61]; omega) (by rw [r61, r60]; exact r5) ?_ ?_
      · rw [r75, ← hj, r61, dsn, dsj _ _ (fun i hi => ⟨by rw [r53, if_neg (by omega)], by rw [r54, if_neg (by omega)]⟩), r53 j, r54 j, if_pos rfl, if_pos rfl]
        split <;> omega
      · intro k hk
        rw [r75, ← hj] at hk
        rw [r53, r54, r60]
        by_cases h : k = j
        · rw [if_pos h, if_pos h]; omega
        · rw [if_neg h, if_neg h]
          have := p3 k (by omega)
          omega
    · refine rP_211 hn hK ca qa (by rw [a75]; exact h75) (by omega) (by omega) ?_ ?_
      · rw [a75, ← hj, a53, a54, dsn, dsj _ _ (fun i hi => ⟨by rw [u53, if_neg (by omega)], by rw [u54, if_neg (by omega)]⟩), u53 j, u54 j, if_pos rfl, if_pos rfl, lm]
        split <;> omega
      · intro k hk
        rw [a75, ← hj] at hk
        rw [a53, a54, u53, u54]
        by_cases h : k = j
        · rw [if_pos h, if_pos h, lm]; omega
        · rw [if_neg h, if_neg h]
          have := p3 k (by omega)
          omega
