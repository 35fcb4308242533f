/-! PURE: the reference's value of a whole line -/
def sp_wk (L : Nat → Int32) (e : Nat) (A : sp_A) : Int32 := match A with
  | none => 1
  | some z => if e ≤ sp_nb L z.2.2 e then z.2.1 else 1
def sp_wn (A : sp_A) : Int32 := match A with
  | none => 0
  | some z => z.1
/-- a fault of kind k, if there is none yet and k is one -/
def mv_fl (t : mz_St) (k : Int32) : mz_St := if k ≤ 0 then t else if mz_gI t 0 6 = 0 then mz_pI (mz_pI t 0 6 k) 0 7 (mz_gI t 0 63) else t
theorem mv_fail {n : Nat} {t : mz_St} {k : Int32} (hk : ¬ k ≤ 0) : f_MO_fail n k (mz_gI t 0 63) t = some (mv_fl t k) := by
  unfold f_MO_fail mv_fl
  rw [if_neg hk]
  by_cases h : mz_gI t 0 6 = 0
  · rw [if_pos h, if_pos h]
    rfl
  · rw [if_neg h, if_neg h]
theorem mv_ends1 {n e p : Nat} {L : Nat → Int32} {t : mz_St} {o : Bool} (hn : 10000 ≤ n) (h : mr_R t e p) (ho : mr_O t o) (hp : p < 2 ^ 29) (h43 : mz_gI t 43 = L) : ∃ t', f_MO_lineEnds n t = some t' ∧ mz_gI t' 0 62 = sp_bi (o && decide (e ≤ sp_bl L (e - p) p)) ∧ mz_gI t' 0 64 = mz_gI t 0 64 ∧ mv_F t t' := by
  subst h43
  exact ⟨_, mr_ends hn h ho hp, rfl, rfl, ((mv_F.rf t).put _ (by omega)).put _ (by omega)⟩
theorem mv_whole {n : Nat} {L : Nat → Int32} {e q cnt : Nat} {ga gb : Nat → Int64} {nu : Nat → Int32} {t : mz_St} (hn : 10000 ≤ n) (hR : mr_R t e q) (hq : q ≤ e) (h43 : mz_gI t 43 = L) (h62 : mz_gI t 0 62 = 1) (hC : mv_CM cnt ga gb nu t) (he : 2 * e + 2 ≤ n) :
    ∃ t0, f_MO_wholeValue n t = some (sp_wn (sp_va L e (sp_fa L e (mv_lv cnt ga gb nu L) 10) 0 q), mv_fl t0 (sp_wk L e (sp_va L e (sp_fa L e (mv_lv cnt ga gb nu L) 10) 0 q))) ∧ mv_F t t0 := by
  have hv := mv_value hn hR hq h43 h62 hC he
  have he6 := hR.2.2.1
  cases hA : sp_va L e (sp_fa L e (mv_lv cnt ga gb nu L) 10) 0 q with
  | none =>
    rw [hA] at hv
    obtain ⟨t1, p, e1, g62, R1, hp, F1⟩ := hv
    obtain ⟨t2, e2, w62, -, F2⟩ := mv_ends1 (o := false) (L := mz_gI t1 43) hn R1 g62 (by omega) rfl
    refine ⟨t2, ?_, F1.tr F2⟩
    unfold f_MO_wholeValue
    rw [e1]
    simp only [Option.bind_some]
    rw [e2]
    simp only [Option.bind_some]
    rw [if_pos (show mz_gI t2 0 62 = 0 from w62), mv_fail (by decide)]
    rfl
  | some z =>
    rw [hA] at hv
    obtain ⟨t1, e1, g62, g64, ⟨p, R1, hp2, hp3⟩, hz, F1⟩ := hv
    have hle := sp_nb_le L hz
    have L1 : mz_gI t1 43 = L := (F1.row (by omega) (by omega)).trans h43
    obtain ⟨t2, e2, w62, w64, F2⟩ := mv_ends1 (o := true) (L := L) hn R1 g62 (by omega) L1
    have hmid : sp_bl L (e - p) p = sp_nb L z.2.2 e := sp_nb_mid hz hp2 hp3
    rw [hmid, Bool.true_and] at w62
    refine ⟨t2, ?_, F1.tr F2⟩
    unfold f_MO_wholeValue
    rw [e1]
    simp only [Option.bind_some]
    rw [e2]
    simp only [Option.bind_some]
    by_cases hend : e ≤ sp_nb L z.2.2 e
    · rw [decide_eq_true hend] at w62
      rw [if_neg (by rw [w62]; decide), w64, g64]
      simp only [sp_wk, sp_wn, if_pos hend]
      by_cases hk : z.2.1 ≤ 0
      · rw [if_pos hk]
        unfold mv_fl
        rw [if_pos hk]
      · rw [if_neg hk, mv_fail hk]
        rfl
    · rw [decide_eq_false hend] at w62
      rw [if_pos (show mz_gI t2 0 62 = 0 from w62), mv_fail (by decide)]
      simp only [sp_wk, sp_wn, if_neg hend]
      rfl
