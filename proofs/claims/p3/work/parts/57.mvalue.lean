/-! PURE: the reference's value -/
theorem mv_value {n : Nat} {L : Nat → Int32} {e q cnt : Nat} {ga gb : Nat → Int64} {nu : Nat → Int32} {t : mz_St} (hn : 10000 ≤ n) (hR : mr_R t e q) (hq : q ≤ e) (h43 : mz_gI t 43 = L) (h62 : mz_gI t 0 62 = 1) (hC : mv_CM cnt ga gb nu t) (he : 2 * e + 2 ≤ n) :
    match sp_va L e (sp_fa L e (mv_lv cnt ga gb nu L) 10) 0 q with
    | none => mv_bad e t (f_MO_value n t)
    | some z => ∃ t', f_MO_value n t = some (z.1, t') ∧ mz_gI t' 0 62 = 1 ∧ mz_gI t' 0 64 = z.2.1 ∧ (∃ p, mr_R t' e p ∧ z.2.2 ≤ p ∧ p ≤ sp_nb L z.2.2 e) ∧ z.2.2 ≤ e ∧ mv_F t t' := by
  obtain ⟨t4, h4⟩ : ∃ t4, t4 = mz_pI (mv_op (mz_pI t 0 67 0) 0 0) 0 64 0 := ⟨_, rfl⟩
  have F : mv_F t t4 := by
    rw [h4]
    exact (mv_op_F ((mv_F.rf t).put 0 (by omega)) 0 0).put 0 (by omega)
  have e0 : f_MO_value n t = f_MO_value_19 n n 0 0 t4 := by
    unfold f_MO_value
    simp only [mz_let]
    rw [mv_opens (o := 0) (by omega) rfl]
    simp only [Option.bind_some]
    rw [h4]
  have g61 : mz_gI t4 0 61 = nI q := by rw [h4]; exact hR.2.1
  have hR4 : mr_R t4 e q := ⟨(F.1 0 _ (by simp) (by omega)).trans hR.1, g61, hR.2.2.1, hR.2.2.2⟩
  have at0 : mv_at L e (mv_CM cnt ga gb nu) t4 0 q 0 := by
    refine ⟨⟨q, hR4, Nat.le_refl _, (sp_nb_le L hq).1⟩, hq, (F.row (by omega) (by omega)).trans h43, ?_, ?_, ?_, by omega, mv_CMK t t4 F hC⟩
    · rw [h4]; exact h62
    · rw [h4]; rfl
    · rw [h4]; rfl
  have c44 : mz_gI t4 44 0 = 0 := by rw [h4]; rfl
  have c45 : mz_gI t4 45 0 = 0 := by rw [h4]; rfl
  have c46 : mz_gI t4 46 0 = 0 := by rw [h4]; rfl
  have c47 : mz_gI t4 47 0 = 0 := by rw [h4]; rfl
  rw [e0, sp_va_rest L e _ (mz_gI t4 48 0) (mz_gI t4 49 0) (mz_gI t4 50 0) 0 q]
  have fa := mv_fac (n := n) (L := L) (e := e) (cnt := cnt) (ga := ga) (gb := gb) (nu := nu) hn 10 0 rfl n 0 t4 q 0 at0 (by omega)
  cases hz : sp_fa L e (mv_lv cnt ga gb nu L) 10 0 q with
  | none =>
    rw [hz] at fa
    exact mv_bad.mono F fa
  | some z =>
    rw [hz] at fa
    obtain ⟨k', t', ex, at', hk', F', S'⟩ := fa
    have sc : ∀ k, 44 ≤ k → k ≤ 50 → mz_gI t' k 0 = mz_gI t4 k 0 := fun k h1 h2 => S' k 0 h1 h2 (by omega)
    have hz2 := at'.2.1
    have fr := mv_frame hn mv_CMK (mv_fac (n := n) (L := L) (e := e) (cnt := cnt) (ga := ga) (gb := gb) (nu := nu) hn 10 0 rfl) (sp_fa_go 10) (e - z.2.2) (e + 1) (e + 1) k' t' z.2.2 0 z.2.1 z.1 0 (mz_gI t4 50 0) 0 (mz_gI t4 49 0) (mz_gI t4 48 0) rfl at' (by rw [sc 44 (by omega) (by omega), c44]; decide) (by rw [sc 45 (by omega) (by omega)]; exact c45) (by omega) (by rw [sc 46 (by omega) (by omega)]; exact c46) (by rw [sc 47 (by omega) (by omega)]; exact c47) (sc 48 (by omega) (by omega)) (sc 49 (by omega) (by omega)) (sc 50 (by omega) (by omega)) (by omega) (by omega) (by omega)
    rw [ex]
    simp only [Option.bind_some]
    cases hy : mv_rest L e (sp_fa L e (mv_lv cnt ga gb nu L) 10) (e + 1) (e + 1) 0 (mz_gI t4 48 0) 0 (mz_gI t4 49 0) 0 (mz_gI t4 50 0) z.1 z.2.1 z.2.2 with
    | none =>
      rw [hy] at fr
      exact mv_bad.mono (F.tr F') fr
    | some y =>
      rw [hy] at fr
      obtain ⟨k2, t2, ex2, at2, hk2, F2, S2⟩ := fr
      obtain ⟨⟨p, hp1, hp2, hp3⟩, b2, b3, b4, b5, b6, b7, b8⟩ := at2
      refine ⟨mz_pI t2 0 67 0, ?_, b4, b5, ⟨p, ⟨hp1.1, hp1.2.1, hp1.2.2.1, hp1.2.2.2⟩, hp2, hp3⟩, b2, ((F.tr F').tr F2).put 0 (by omega)⟩
      rw [ex2]
      unfold f_MO_value_496
      simp only [mz_let]
      rw [b6, show nI (0 + 1) - (1 : Int32) = 0 from rfl]
      rfl
/-- where the line's reading was wrong already -/
theorem mv_value0 {n : Nat} {t : mz_St} (hn : 10000 ≤ n) (h62 : mz_gI t 0 62 = 0) : ∃ t', f_MO_value n t = some (0, t') ∧ mz_gI t' 0 62 = 0 ∧ mz_gI t' 0 61 = mz_gI t 0 61 ∧ mv_F t t' := by
  obtain ⟨n, rfl⟩ : ∃ j, n = j + 1 := ⟨n - 1, by omega⟩
  refine ⟨mz_pI (mv_op (mz_pI t 0 67 0) 0 0) 0 64 0, ?_, h62, rfl, (mv_op_F ((mv_F.rf t).put 0 (by omega)) 0 0).put 0 (by omega)⟩
  unfold f_MO_value
  simp only [mz_let]
  rw [mv_opens (o := 0) (by omega) rfl]
  simp only [Option.bind_some]
  unfold f_MO_value_19
  rw [if_pos (show mz_gI (mz_pI (mv_op (mz_pI t 0 67 0) 0 0) 0 64 0) 0 62 = 0 from h62)]
