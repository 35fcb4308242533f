set_option maxRecDepth 4000 in
set_option maxHeartbeats 8000000 in
theorem rP_46 {n : Nat} {L : Int32} (hn : 8589934592 ≤ n) {t0 : mz_St} {x1 : Int32} (hx1 : 0 ≤ x1.toInt) (hx2 : x1.toInt ≤ 3000) {K : Int32 → mz_St → Option mz_St} {q0 : Int} (hK : ∀ u, RQ L t0 x1.toInt u → ((mz_gI u 0 62).toInt = 0 ∨ q0 < (mz_gI u 0 61).toInt) → Tp (K x1 u) (RQ L t0 x1.toInt)) :
    ∀ (k : Nat) (x2 : Int32) (t : mz_St), HI L t → QQ t0 t → GP x1.toInt t → ((mz_gI t 0 62).toInt = 0 ∨ q0 < (mz_gI t 0 61).toInt) → 0 ≤ x2.toInt → x2.toInt ≤ 7 → (2147483648 - x2.toInt).toNat < k → Tp (f_MO_readParameters_46 n K k x1 x2 t) (RQ L t0 x1.toInt) := by
  intro k
  induction k with
  | zero => intros; omega
  | succ k ih =>
    intro x2 t ci qq gp hq h0 h7 hk
    have f75 := FX_0_75 (HI_FX ci)
    have f62 := HI_g2 ci (c := 0) (p := 62) rfl
    have l0 : (0 : Int32).toInt = 0 := rfl
    have l1 : (1 : Int32).toInt = 1 := rfl
    have e2 : (x2 + (1 : Int32)).toInt = x2.toInt + (1 : Int32).toInt := ti_add (by omega) (by omega)
    unfold f_MO_readParameters_46
    refine Tp_if (fun h => ?_) (fun h => ?_)
    · unfold f_MO_readParameters_125
      refine Tp_if (fun _ => rP_126 hn hx1 hx2 hK ci qq gp (Or.inl rfl)) (fun h2 => ?_)
      have h2' := ti_nq h2
      refine Tp_if (fun _ => rP_126 hn hx1 hx2 hK ci qq gp (Or.inl rfl)) (fun h3 => ?_)
      have h3' := ti_ne h3
      rw [show (6 : Int32).toInt = 6 from rfl] at h3'
      exact rP_126 hn hx1 hx2 hK ci qq gp (Or.inr ⟨rfl, by omega, by omega, by omega⟩)
    · have h' := ti_ne h
      have z0 : Tp (f_MO_readParameters_94 n (f_MO_readParameters_46 n K k) x1 x2 t) (RQ L t0 x1.toInt) := by
        unfold f_MO_readParameters_94 f_MO_readParameters_95
        refine Tp_gd (Or.inl rfl) ?_
        refine Tp_le (fun t3 e3 => ?_)
        have c3 := HI_p2 ci e3 (c := 0) (p := 62) rfl (by decide) (by decide)
        exact ih (x2 + 1) t3 c3 (qq.p e3 (by omega)) (GP_0 e3) (Or.inl (by rw [e3, gI_same]; rfl)) (by omega) (by omega) (by omega)
      refine Tp_if (fun _ => z0) (fun h2 => ?_)
      have h2' := ti_nq h2
      have z1 : Tp (f_MO_readParameters_90 n (f_MO_readParameters_46 n K k) x1 x2 t) (RQ L t0 x1.toInt) := by
        unfold f_MO_readParameters_90 f_MO_readParameters_95
        refine Tp_gd (Or.inr rfl) ?_
        refine Tp_le (fun t3 e3 => ?_)
        have c3 := HI_p2 ci e3 (c := 0) (p := 62) rfl (by decide) (by decide)
        refine ih (x2 + 1) t3 c3 (qq.p e3 (by omega)) (GP_1 gp (by omega) e3) (Or.inr ?_) (by omega) (by omega) (by omega)
        rw [e3, gI_oth _ _ (by simp)]
        omega
      refine Tp_gd (ti_ix (by omega) (by omega)) ?_
      refine Tp_if (fun _ => ?_) (fun _ => z1)
      refine Tp_gd (ti_ix (by omega) (by omega)) ?_
      exact Tp_if (fun _ => z0) (fun _ => z1)
set_option maxRecDepth 4000 in
set_option maxHeartbeats 8000000 in
theorem rP_9 {n : Nat} {L : Int32} (hn : 8589934592 ≤ n) {t0 : mz_St} {x1 : Int32} (hx1 : 0 ≤ x1.toInt) (hx2 : x1.toInt ≤ 3000) : ∀ (k : Nat) (t : mz_St), RQ L t0 x1.toInt t → (if (mz_gI t 0 62).toInt = 0 then 0 else (7001 - (mz_gI t 0 61).toInt).toNat) < k → Tp (f_MO_readParameters_9 n k x1 t) (RQ L t0 x1.toInt) := by
  intro k
  induction k with
  | zero => intro t _ h; omega
  | succ k ih =>
    intro t hr hk
    obtain ⟨ci, qq, gp⟩ := hr
    have l0 : (0 : Int32).toInt = 0 := rfl
    have f61 := HI_g24 ci (c := 0) (p := 61) rfl
    have f60 := HI_g23 ci (c := 0) (p := 60) rfl
    unfold f_MO_readParameters_9
    refine Tp_if (fun _ => Tp_so ⟨ci, qq, gp⟩) (fun h62 => ?_)
    have h62' := ti_nq h62
    refine Tp_if (fun _ => Tp_so ⟨ci, qq, gp⟩) (fun hq => ?_)
    have hq' := ti_ne hq
    rw [if_neg (by omega)] at hk
    have hK : ∀ u, RQ L t0 x1.toInt u → ((mz_gI u 0 62).toInt = 0 ∨ (mz_gI t 0 61).toInt < (mz_gI u 0 61).toInt) → Tp (f_MO_readParameters_9 n k x1 u) (RQ L t0 x1.toInt) := by
      intro u hu hm
      have fu := HI_g24 hu.1 (c := 0) (p := 61) rfl
      refine ih u hu ?_
      split
      · omega
      · omega
    -- a word, and what follows it
    have gow : ∀ s, HI L s → QQ t0 s → (mz_gI t 0 61).toInt ≤ (mz_gI s 0 61).toInt → mz_gI s 53 = mz_gI t 53 → mz_gI s 54 = mz_gI t 54 → mz_gI s 0 75 = mz_gI t 0 75 → (mz_gI s 0 60).toInt = (mz_gI t 0 60).toInt → Tp (f_MO_readParameters_40 n (f_MO_readParameters_9 n k) x1 s) (RQ L t0 x1.toInt) := by
      intro s cs qs hs s53 s54 s75 s60
      unfold f_MO_readParameters_40
      refine Tp_bi (s_MO_word hn (HI_MI cs)) (fun w hw => ?_)
      obtain ⟨mw, w60, w61, -, w4, w5⟩ := hw
      refine rP_46 hn hx1 hx2 hK n 0 w (HI_tr cs mw) (qs.m mw w60) ?_ ?_ (by decide) (by decide) (by rw [l0]; omega)
      · rcases gp with hz | ⟨p1, p2, p3⟩
        · exact absurd hz (by omega)
        · rcases w4 with hz | w4
          · exact Or.inl hz
          · refine Or.inr ⟨w4, ?_, ?_⟩
            · rw [MI_row mw (c := 53) (fun _ => rfl), MI_row mw (c := 54) (fun _ => rfl), mw.2.1 0 75 rfl, s53, s54, s75]; omega
            · rw [MI_row mw (c := 53) (fun _ => rfl), MI_row mw (c := 54) (fun _ => rfl), mw.2.1 0 75 rfl, s53, s54, s75, w60, s60]; exact p3
      · rcases w5 with hz | w5
        · exact Or.inl hz
        · exact Or.inr (by omega)
    refine Tp_if (fun _ => gow t ci qq (Int.le_refl _) rfl rfl rfl rfl) (fun _ => ?_)
    refine Tp_bi (s_MO_sign hn (HI_MI ci) (by omega) (by decide)) (fun s hs => ?_)
    obtain ⟨ms, s60, s2, s3, s4, s5q⟩ := hs
    have cs := HI_tr ci ms
    have s61 : (mz_gI t 0 61).toInt ≤ (mz_gI s 0 61).toInt := s5q
    exact gow s cs (qq.m ms s60) s61 (MI_row ms (fun _ => rfl)) (MI_row ms (fun _ => rfl)) (ms.2.1 0 75 rfl) s60
set_option maxRecDepth 4000 in
set_option maxHeartbeats 8000000 in
theorem s_MO_readParameters {n : Nat} {L : Int32} (hn : 8589934592 ≤ n) {x1 : Int32} (hx1 : 0 ≤ x1.toInt) (hx2 : x1.toInt ≤ 3000) {t : mz_St} (ci : HI L t) (hq : (mz_gI t 0 62).toInt = 0 ∨ (mz_gI t 0 61).toInt ≤ (mz_gI t 0 60).toInt) : Tp (f_MO_readParameters n x1 t) (RQ L t x1.toInt) := by
  unfold f_MO_readParameters
  refine Tp_le (fun t1 e1 => ?_)
  have c1 := HI_f75 ci e1 (by decide) (by decide)
  have q1 : QQ t t1 := QQ.p ⟨fun _ _ _ _ => rfl, rfl⟩ e1 (by omega)
  refine Tp_bi (s_MO_blanks hn (HI_MI c1)) (fun u hu => ?_)
  obtain ⟨mu, u60, u61, u61', u62⟩ := hu
  have g60 : mz_gI t1 0 60 = mz_gI t 0 60 := by rw [e1, gI_oth _ _ (by simp)]
  have g61 : mz_gI t1 0 61 = mz_gI t 0 61 := by rw [e1, gI_oth _ _ (by simp)]
  have g62 : mz_gI t1 0 62 = mz_gI t 0 62 := by rw [e1, gI_oth _ _ (by simp)]
  have g75 : mz_gI u 0 75 = 0 := by rw [mu.2.1 0 75 rfl, e1, gI_same]
  have cu := HI_tr c1 mu
  have fu := HI_g24 cu (c := 0) (p := 61) rfl
  have z : (0 : Int32).toNatClampNeg = 0 := rfl
  rw [g60] at u60
  rw [g61] at u61 u61'
  rw [g62] at u62
  refine rP_9 hn hx1 hx2 n u ⟨cu, q1.m mu (by rw [g60]; exact u60), ?_⟩ (by split <;> omega)
  rcases hq with h | h
  · exact Or.inl (by omega)
  · refine Or.inr ⟨by omega, ?_, ?_⟩
    · rw [g75, z]; exact fu.1
    · rw [g75, z]; intro k hk; omega
