def GD (t : mz_St) : Prop := ds (mz_gI t 53) (mz_gI t 54) 0 (mz_gI t 0 75).toNatClampNeg ≤ 3000 ∧ ∀ k, k < (mz_gI t 0 75).toNatClampNeg → (mz_gI t 53 k).toInt ≤ 3000 ∧ (mz_gI t 54 k).toInt ≤ 3000
set_option maxRecDepth 4000 in
set_option maxHeartbeats 8000000 in
theorem define_220 {n : Nat} {L : Int32} (hn : 8589934592 ≤ n) {x1 x6 x7 : Int32} {x2 x4 : Int64} {t : mz_St} (ci : HI L t) (gd : GD t) (h16 : 0 < (mz_gI t 0 6).toInt ∨ (mz_gI t 0 12).toInt ≤ 15) (h60 : 0 ≤ x6.toInt) (h67 : x6.toInt < x7.toInt) (hat : (mz_gI t 23 0).toInt ≤ x7.toInt) (hto : x7.toInt ≤ (mz_gI t 24 0).toInt) :
    Tp (f_MO_define_220 n x1 x2 x4 x6 x7 t) (fun r => HI L r ∧ ∀ p, p ≠ 12 → mz_gI r 0 p = mz_gI t 0 p) := by
  have f12 := FX_0_12 (HI_FX ci)
  have f75 := FX_0_75 (HI_FX ci)
  have f24 := FX_24 (HI_FX ci) 0
  have g6 := HI_g29 ci (c := 0) (p := 6) rfl
  have l0 : (0 : Int32).toInt = 0 := rfl
  have l1 : (1 : Int32).toInt = 1 := rfl
  unfold f_MO_define_220
  refine Tp_if (fun h => ?_) (fun _ => Tp_so ⟨ci, fun _ _ => rfl⟩)
  have h' := ti_e h
  have hM : (mz_gI t 0 12).toInt ≤ 15 := by omega
  refine Tp_gd (ti_ix (by decide) (by decide)) ?_
  obtain ⟨M, eM⟩ : ∃ M, M = (mz_gI t 0 12).toNatClampNeg := ⟨_, rfl⟩
  obtain ⟨N, eN⟩ : ∃ N, N = (mz_gI t 0 75).toNatClampNeg := ⟨_, rfl⟩
  have cM := ti_cl (mz_gI t 0 12)
  have cN := ti_cl (mz_gI t 0 75)
  have g16 : ¬ ((mz_gI t 0 12) < 0 ∨ 16 ≤ (mz_gI t 0 12).toNatClampNeg) := ti_ix (by omega) (by omega)
  have e71 : (x7 - (1 : Int32)).toInt = x7.toInt - (1 : Int32).toInt := ti_sub (by omega) (by omega)
  refine Tp_le (fun a ea => ?_)
  rw [show (0 : Int32).toNatClampNeg = 0 from rfl] at ea
  have ca := HI_f25 ci ea hat hto
  have a12 : mz_gI a 0 12 = mz_gI t 0 12 := by rw [ea, gI_z _ _ (by decide)]
  rw [a12, if_pos g16]
  refine Tp_le (fun b eb => ?_)
  have gb : ∀ c p, mz_gI b c p = mz_gI a c p := fun c p => by rw [eb]; rfl
  rw [gb 0 12, a12, if_pos g16]
  refine Tp_le (fun d ed => ?_)
  have gd' : ∀ c p, mz_gI d c p = mz_gI a c p := fun c p => by rw [ed]; exact gb c p
  have cd : HI L d := HI_pL (HI_pL ca eb) ed
  rw [gd' 0 12, a12, if_pos g16, ← eM]
  refine Tp_le (fun e1 ee1 => ?_)
  have m1 : MI e1 e1 := by rw [ee1]; exact MI_fix (c := 6) cd.1.1 (FXp_6 cd.1.1.1 h60 (by omega)) rfl
  have e1z : mz_gI e1 0 12 = mz_gI t 0 12 := by rw [ee1, gI_z _ _ (by decide), gd', a12]
  rw [e1z, if_pos g16, ← eM]
  refine Tp_le (fun e2 ee2 => ?_)
  have m2 : MI e2 e2 := by rw [ee2]; exact MI_fix (c := 7) m1 (FXp_7 m1.1 (by omega) (by omega)) rfl
  have e2z : mz_gI e2 0 12 = mz_gI t 0 12 := by rw [ee2, gI_z _ _ (by decide), e1z]
  rw [e2z, if_pos g16, ← eM]
  refine Tp_le (fun e3 ee3 => ?_)
  have m3 : MI e3 e3 := by rw [ee3]; exact MI_fix (c := 8) m2 (FXp_8 m2.1) rfl
  have e3z : mz_gI e3 0 12 = mz_gI t 0 12 := by rw [ee3, gI_z _ _ (by decide), e2z]
  rw [e3z, if_pos g16, ← eM]
  refine Tp_le (fun e4 ee4 => ?_)
  have m4 : MI e4 e4 := by rw [ee4]; exact MI_fix (c := 9) m3 (FXp_9 m3.1) rfl
  have e4z : mz_gI e4 0 12 = mz_gI t 0 12 := by rw [ee4, gI_z _ _ (by decide), e3z]
  have z0 : ∀ p, mz_gI e4 0 p = mz_gI t 0 p := fun p => by rw [ee4, gI_z _ _ (by decide), ee3, gI_z _ _ (by decide), ee2, gI_z _ _ (by decide), ee1, gI_z _ _ (by decide), gd', ea, gI_z _ _ (by decide)]
  rw [e4z, if_pos g16, z0 75, ← eM]
  refine Tp_le (fun u eu => ?_)
  have mu : MI u u := by rw [eu]; exact MI_fix (c := 10) m4 (FXp_10 m4.1 (by omega) (by omega)) rfl
  have u0 : ∀ p, mz_gI u 0 p = mz_gI t 0 p := fun p => by rw [eu, gI_z _ _ (by decide), z0]
  have ur : ∀ c, c ≠ 0 → c ≠ 25 → c ≠ 6 → c ≠ 7 → c ≠ 8 → c ≠ 9 → c ≠ 10 → ∀ p, mz_gI u c p = mz_gI t c p := fun c h0 h1 h2 h3 h4 h5 h6 p => by
    rw [eu, gI_oth _ _ (by omega), ee4, gI_oth _ _ (by omega), ee3, gI_oth _ _ (by omega), ee2, gI_oth _ _ (by omega), ee1, gI_oth _ _ (by omega), gd', ea, gI_oth _ _ (by omega)]
  have u25 : ∀ p, mz_gI u 25 p = if p = 0 then x7 else mz_gI t 25 p := fun p => by
    rw [eu, gI_oth _ _ (by omega), ee4, gI_oth _ _ (by omega), ee3, gI_oth _ _ (by omega), ee2, gI_oth _ _ (by omega), ee1, gI_oth _ _ (by omega), gd', ea]
    by_cases hp : p = 0
    · rw [hp, gI_same, if_pos rfl]
    · rw [gI_oth _ _ (fun q => hp q.2), if_neg hp]
  have u6 : ∀ p, mz_gI u 6 p = if p = M then x6 else mz_gI t 6 p := fun p => by
    rw [eu, gI_oth _ _ (by omega), ee4, gI_oth _ _ (by omega), ee3, gI_oth _ _ (by omega), ee2, gI_oth _ _ (by omega), ee1]
    by_cases hp : p = M
    · rw [hp, gI_same, if_pos rfl]
    · rw [gI_oth _ _ (fun q => hp q.2), if_neg hp, gd', ea, gI_oth _ _ (by omega)]
  have u7 : ∀ p, mz_gI u 7 p = if p = M then x7 - 1 else mz_gI t 7 p := fun p => by
    rw [eu, gI_oth _ _ (by omega), ee4, gI_oth _ _ (by omega), ee3, gI_oth _ _ (by omega), ee2]
    by_cases hp : p = M
    · rw [hp, gI_same, if_pos rfl]
    · rw [gI_oth _ _ (fun q => hp q.2), if_neg hp, ee1, gI_oth _ _ (by omega), gd', ea, gI_oth _ _ (by omega)]
  have u10 : ∀ p, mz_gI u 10 p = if p = M then mz_gI t 0 75 else mz_gI t 10 p := fun p => by
    rw [eu]
    by_cases hp : p = M
    · rw [hp, gI_same, if_pos rfl]
    · rw [gI_oth _ _ (fun q => hp q.2), if_neg hp, ee4, gI_oth _ _ (by omega), ee3, gI_oth _ _ (by omega), ee2, gI_oth _ _ (by omega), ee1, gI_oth _ _ (by omega), gd', ea, gI_oth _ _ (by omega)]
  have f53 := fun i => FX_53 (HI_FX ci) i
  have f54 := fun i => FX_54 (HI_FX ci) i
  have hloop := l_define_317 (n := n) (u := u) (M := M) (N := N) (by omega) (by omega) (by rw [u0]; omega) (by rw [u0]; omega) (fun i hi => by
    rw [ur 53 (by decide) (by decide) (by decide) (by decide) (by decide) (by decide) (by decide), ur 54 (by decide) (by decide) (by decide) (by decide) (by decide) (by decide) (by decide)]
    have a := gd.2 i (by omega)
    have b := f53 i
    have c := f54 i
    omega) n 0 u mu ⟨fun _ _ _ _ => rfl, fun p => by rw [if_neg (by rw [show (0 : Int32).toNatClampNeg = 0 from rfl]; omega)], fun p => by rw [if_neg (by rw [show (0 : Int32).toNatClampNeg = 0 from rfl]; omega)]⟩ (by decide) (by rw [l0]; omega) (by rw [l0]; omega)
  refine Tp_mo hloop (fun r hr => ?_)
  obtain ⟨w, ⟨w1, w2, w3⟩, mw, er⟩ := hr
  have w12 : mz_gI w 0 12 = mz_gI t 0 12 := by rw [w1 0 12 (by decide) (by decide), u0]
  have e12 : (mz_gI t 0 12 + (1 : Int32)).toInt = (mz_gI t 0 12).toInt + (1 : Int32).toInt := ti_add (by omega) (by omega)
  rw [w12] at er
  have mr : MI r r := by rw [er]; exact MI_fix (c := 0) (p := 12) mw (FXp_0_12 mw.1 (by omega) (by omega)) rfl
  have r0 : ∀ p, p ≠ 12 → mz_gI r 0 p = mz_gI t 0 p := fun p hp => by rw [er, gI_oth _ _ (by omega), w1 0 p (by decide) (by decide), u0]
  have rc : ∀ c p, c ≠ 0 → mz_gI r c p = mz_gI w c p := fun c p hc => by rw [er, gI_oth _ _ (by omega)]
  have rr : ∀ c, c ≠ 0 → c ≠ 25 → c ≠ 6 → c ≠ 7 → c ≠ 8 → c ≠ 9 → c ≠ 10 → c ≠ 13 → c ≠ 14 → mz_gI r c = mz_gI t c := fun c h0 h1 h2 h3 h4 h5 h6 h7 h8 => funext fun p => by
    rw [rc c p h0, w1 c p h7 h8, ur c h0 h1 h2 h3 h4 h5 h6 p]
  refine ⟨⟨⟨mr, by rw [r0 2 (by decide)]; exact ci.1.2.1, ?_⟩, ?_⟩, r0⟩
  · obtain ⟨r1, r2, r3, r4, r5⟩ := ci.1.2.2
    refine ⟨fun p => ?_, fun p => ?_, ?_, ?_, fun m hm => ?_⟩
    · rw [rr 23 (by decide) (by decide) (by decide) (by decide) (by decide) (by decide) (by decide) (by decide) (by decide), rr 24 (by decide) (by decide) (by decide) (by decide) (by decide) (by decide) (by decide) (by decide) (by decide), rc 25 p (by decide), w1 25 p (by decide) (by decide), u25]
      by_cases hp : p = 0
      · rw [if_pos hp, hp]; exact ⟨hat, hto⟩
      · rw [if_neg hp]; exact r1 p
    · rw [rc 6 p (by decide), w1 6 p (by decide) (by decide), u6, rc 7 p (by decide), w1 7 p (by decide) (by decide), u7]
      by_cases hp : p = M
      · rw [if_pos hp, if_pos hp]; omega
      · rw [if_neg hp, if_neg hp]; exact r2 p
    · rw [rr 31 (by decide) (by decide) (by decide) (by decide) (by decide) (by decide) (by decide) (by decide) (by decide), rr 32 (by decide) (by decide) (by decide) (by decide) (by decide) (by decide) (by decide) (by decide) (by decide)]; exact r3
    · rw [rr 26 (by decide) (by decide) (by decide) (by decide) (by decide) (by decide) (by decide) (by decide) (by decide), rr 27 (by decide) (by decide) (by decide) (by decide) (by decide) (by decide) (by decide) (by decide) (by decide)]; exact r4
    · have f10 := FX_10 (HI_FX ci) m
      have c10 := ti_cl (mz_gI t 10 m)
      rw [rc 10 m (by decide), w1 10 m (by decide) (by decide), u10]
      by_cases hp : m = M
      · rw [if_pos hp, ← eN]
        have : ds (mz_gI r 13) (mz_gI r 14) (6 * m) N = ds (mz_gI t 53) (mz_gI t 54) 0 N := ds_sh N (fun j hj => by
          rw [rc 13 _ (by decide), w2, if_pos (by omega), ur 53 (by decide) (by decide) (by decide) (by decide) (by decide) (by decide) (by decide), rc 14 _ (by decide), w3, if_pos (by omega), ur 54 (by decide) (by decide) (by decide) (by decide) (by decide) (by decide) (by decide), show 6 * m + j - 6 * M = 0 + j by omega]
          exact ⟨rfl, rfl⟩)
        rw [this, eN]
        exact gd.1
      · rw [if_neg hp]
        have : ds (mz_gI r 13) (mz_gI r 14) (6 * m) (mz_gI t 10 m).toNatClampNeg = ds (mz_gI t 13) (mz_gI t 14) (6 * m) (mz_gI t 10 m).toNatClampNeg := ds_sh _ (fun j hj => by
          rw [rc 13 _ (by decide), w2, if_neg (by omega), ur 13 (by decide) (by decide) (by decide) (by decide) (by decide) (by decide) (by decide), rc 14 _ (by decide), w3, if_neg (by omega), ur 14 (by decide) (by decide) (by decide) (by decide) (by decide) (by decide) (by decide)]
          exact ⟨rfl, rfl⟩)
        rw [this]
        exact r5 m hm
  · exact RC_cg ci.2 (by rw [rr 24 (by decide) (by decide) (by decide) (by decide) (by decide) (by decide) (by decide) (by decide) (by decide)]) (r0 3 (by decide)) (r0 34 (by decide)) (rr 30 (by decide) (by decide) (by decide) (by decide) (by decide) (by decide) (by decide) (by decide) (by decide)) (r0 53 (by decide)) (rr 26 (by decide) (by decide) (by decide) (by decide) (by decide) (by decide) (by decide) (by decide) (by decide))
set_option maxRecDepth 4000 in
set_option maxHeartbeats 8000000 in
theorem define_194 {n : Nat} {L : Int32} (hn : 8589934592 ≤ n) {x1 x6 x7 : Int32} {x2 x4 : Int64} {t0 t : mz_St} (ci : HI L t) (li : LI t0 t) (gd : GD t0) (h6 : 0 < (mz_gI t 0 6).toInt ∨ ((mz_gI t0 0 8).toInt ≤ (mz_gI t 0 8).toInt ∧ 0 ≤ x6.toInt ∧ x6.toInt < x7.toInt ∧ (mz_gI t0 23 0).toInt ≤ x7.toInt ∧ x7.toInt ≤ (mz_gI t0 24 0).toInt))
    (rb : (((mz_gI t0 0 34).toInt ≤ 1 ∧ (mz_gI t0 0 48).toInt ≤ 0) ∨ (2 ≤ (mz_gI t0 0 34).toInt ∧ (mz_gI t0 0 48).toInt ≤ 2390 + 310 * (mz_gI t0 0 34).toInt)) ∧ (((mz_gI t0 0 34).toInt ≤ 1 ∧ (mz_gI t0 0 51).toInt ≤ 0) ∨ (2 ≤ (mz_gI t0 0 34).toInt ∧ (mz_gI t0 0 51).toInt ≤ 3310 * (mz_gI t0 0 34).toInt - 610))) :
    Tp (f_MO_define_194 n x1 x2 x4 x6 x7 t) (PPx L t0) := by
  have g6 := HI_g29 ci (c := 0) (p := 6) rfl
  have f12 := FX_0_12 (HI_FX ci)
  have l0 : (0 : Int32).toInt = 0 := rfl
  have out : ∀ u, HI L u → 0 < (mz_gI u 0 6).toInt → Tp (f_MO_define_220 n x1 x2 x4 x6 x7 u) (PPx L t0) := by
    intro u cu hu
    unfold f_MO_define_220
    refine Tp_if (fun h => ?_) (fun _ => Tp_so ⟨cu, Or.inl hu, Or.inl hu, Or.inl hu⟩)
    have := ti_e h
    omega
  unfold f_MO_define_194
  refine Tp_if (fun h => ?_) (fun h => ?_)
  · have h' := ti_q h
    refine Tp_if (fun _ => ?_) (fun h16 => ?_)
    · refine Tp_bi (s_MO_failL hn ci (by decide)) (fun q hq => ?_)
      exact out q hq.1 hq.2.2.1
    · have h16' := ti_nq h16
      rw [show (16 : Int32).toInt = 16 from rfl] at h16'
      rcases h6 with h6 | ⟨a1, a2, a3, a4, a5⟩
      · omega
      have gdt : GD t := by
        unfold GD
        rw [li.row (by decide), li.row (by decide), li 0 75 (by simp)]
        exact gd
      refine Tp_mo (define_220 hn ci gdt (Or.inr (by omega)) a2 a3 (by rw [li.row (by decide)]; exact a4) (by rw [li.row (by decide)]; exact a5)) (fun r hr => ?_)
      obtain ⟨cr, r0⟩ := hr
      unfold PPx
      rw [r0 34 (by decide), r0 48 (by decide), r0 51 (by decide), r0 8 (by decide), li 0 34 (by simp), li 0 48 (by simp), li 0 51 (by simp)]
      exact ⟨cr, Or.inr rb.1, Or.inr rb.2, Or.inr a1⟩
  · have h' := ti_nq h
    exact out t ci (by omega)
set_option maxRecDepth 4000 in
set_option maxHeartbeats 8000000 in
theorem l_define_111 {n : Nat} {L : Int32} (hn : 8589934592 ≤ n) {x1 x6 : Int32} {x2 x4 : Int64} {t0 : mz_St} (gd : GD t0) (h60 : 0 ≤ x6.toInt) (h23 : (mz_gI t0 23 0).toInt ≤ x6.toInt)
    (rb : (((mz_gI t0 0 34).toInt ≤ 1 ∧ (mz_gI t0 0 48).toInt ≤ 0) ∨ (2 ≤ (mz_gI t0 0 34).toInt ∧ (mz_gI t0 0 48).toInt ≤ 2390 + 310 * (mz_gI t0 0 34).toInt)) ∧ (((mz_gI t0 0 34).toInt ≤ 1 ∧ (mz_gI t0 0 51).toInt ≤ 0) ∨ (2 ≤ (mz_gI t0 0 34).toInt ∧ (mz_gI t0 0 51).toInt ≤ 3310 * (mz_gI t0 0 34).toInt - 610)))
    (h24 : (mz_gI t0 24 0).toInt = (mz_gI t0 0 3).toInt) (h3 : (mz_gI t0 0 3).toInt ≤ 3001) :
    ∀ (k : Nat) (x7 x8 : Int32) (t : mz_St), HI L t → LI t0 t → (0 < (mz_gI t 0 6).toInt ∨ (mz_gI t0 0 8).toInt ≤ (mz_gI t 0 8).toInt) → x6.toInt ≤ x7.toInt → (x8 = 0 ∨ x6.toInt < x7.toInt) → x7.toInt ≤ (mz_gI t0 0 3).toInt → (2147483648 - x7.toInt).toNat < k →
    Tp (f_MO_define_111 n k x1 x2 x4 x6 x7 x8 t) (PPx L t0) := by
  intro k
  induction k with
  | zero => intros; omega
  | succ k ih =>
    intro x7 x8 t ci li hl h67 h8 h7 hk
    have l0 : (0 : Int32).toInt = 0 := rfl
    have l1 : (1 : Int32).toInt = 1 := rfl
    have b180 : Tp (f_MO_define_180 n x1 x2 x4 x6 x7 x8 t) (PPx L t0) := by
      unfold f_MO_define_180
      refine Tp_if (fun _ => ?_) (fun hx8 => ?_)
      · refine Tp_bi (s_MO_failL hn ci (by decide)) (fun q hq => ?_)
        exact define_194 hn hq.1 (li.tr hq.2.1) gd (Or.inl hq.2.2.1) rb
      · refine define_194 hn ci li gd ?_ rb
        rcases hl with hl | hl
        · exact Or.inl hl
        · refine Or.inr ⟨hl, h60, ?_, by omega, by omega⟩
          rcases h8 with h | h
          · exact absurd h hx8
          · exact h
    unfold f_MO_define_111
    refine Tp_if (fun _ => ?_) (fun _ => b180)
    refine Tp_if (fun _ => b180) (fun hlt => ?_)
    have hlt' := ti_ne hlt
    rw [li 0 3 (by simp)] at hlt'
    refine Tp_if (fun h6 => ?_) (fun _ => b180)
    have h6' := ti_q h6
    refine Tp_bi (s_MO_look hn ci) (fun q hq => ?_)
    obtain ⟨cq, lq, hq⟩ := hq
    have hlq : (0 < (mz_gI q 0 6).toInt) ∨ (mz_gI t0 0 8).toInt ≤ (mz_gI q 0 8).toInt := by
      rcases hq with hq | hq
      · exact Or.inl hq
      · refine Or.inr ?_
        omega
    refine Tp_bi (s_MO_firstOf hn (x1 := x7) (HI_MI cq) (by omega) (by omega)) (fun d hd => ?_)
    obtain ⟨-, ed, -, -⟩ := hd
    rw [ed]
    have e7 : (x7 + (1 : Int32)).toInt = x7.toInt + (1 : Int32).toInt := ti_add (by omega) (by omega)
    have go : ∀ u y, HI L u → LI t0 u → ((0 < (mz_gI u 0 6).toInt) ∨ (mz_gI t0 0 8).toInt ≤ (mz_gI u 0 8).toInt) → Tp (f_MO_define_111 n k x1 x2 x4 x6 (x7 + (1 : Int32)) y u) (PPx L t0) :=
      fun u y cu lu hu => ih _ y u cu lu hu (by omega) (Or.inr (by omega)) (by omega) (by omega)
    unfold f_MO_define_160 f_MO_define_172
    refine Tp_if (fun _ => ?_) (fun _ => ?_)
    · refine Tp_bi (s_MO_failL hn cq (by decide)) (fun f hf => ?_)
      exact Tp_if (fun _ => go f _ hf.1 ((li.tr lq).tr hf.2.1) (Or.inl hf.2.2.1)) (fun _ => go f _ hf.1 ((li.tr lq).tr hf.2.1) (Or.inl hf.2.2.1))
    · exact Tp_if (fun _ => go q _ cq (li.tr lq) hlq) (fun _ => go q _ cq (li.tr lq) hlq)
