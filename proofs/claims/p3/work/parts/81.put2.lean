/-! PURE: put's writing; put as a whole -/
set_option maxRecDepth 100000 in
theorem fx_nar {c : Int32} (h : fx_ok c = true) : vp_nar .byte c.toInt8.toInt32 = c := by
  have hc : 0 ≤ c ∧ c ≤ 126 := by
    unfold fx_ok at h
    simp only [Bool.or_eq_true, decide_eq_true_eq, Bool.and_eq_true] at h
    rcases h with h | h
    · subst h
      decide
    · exact ⟨Int32.le_trans (by decide) h.1, h.2⟩
  obtain ⟨j, hj, rfl⟩ := nI_of2 (x := c) (M := 126) (n := 126) (by decide) (pz_nlt.mpr hc.1) hc.2
  have key : ∀ j, j ≤ 126 → vp_nar .byte (nI j).toInt8.toInt32 = nI j := by decide +kernel
  exact key j hj
def fx_wC (x : Int32) : Nat → Nat → mz_St → mz_St
  | 0, _, t => t
  | r + 1, len, t => if fx_c x (r + 1) = 0 then fx_wC x r len t else fx_wC x r (len + 1) (mz_pI (mz_pI t 2 len (fx_c x (r + 1))) 1 3 (nI (len + 1)))
def fx_wM (x : Int32) : Nat → Nat → mz_St → mz_St
  | 0, _, t => t
  | r + 1, len, t => if fx_c x (r + 1) = 0 then fx_wM x r len t else fx_wM x r (len + 1) (mz_pI (mz_pI t 1 len (fx_c x (r + 1))) 0 2 (nI (len + 1)))
theorem fx_88 {n : Nat} {x : Int32} : ∀ r k len t, r ≤ 4 → r < k → mz_gI t 1 3 = nI len → len + fx_n x r ≤ 3000 → fx_good x r = true →
    f_MH_put_88 n k x (nI (32 - 8 * r)) t = some (nI (len + fx_n x r), fx_wC x r len t) := by
  intro r
  induction r with
  | zero =>
    intro k len t _ hk hlen _ _
    obtain ⟨k, rfl⟩ : ∃ j, k = j + 1 := ⟨k - 1, by omega⟩
    unfold f_MH_put_88
    rw [if_pos (show (32 : Int32) ≤ nI (32 - 8 * 0) from nI_le (Nat.le_refl _) (by decide)), hlen]
    rfl
  | succ r ih =>
    intro k len t h4 hk hlen hle hg
    obtain ⟨k, rfl⟩ : ∃ j, k = j + 1 := ⟨k - 1, by omega⟩
    have hg2 : (fx_c x (r + 1) = 0 ∨ fx_ok (fx_c x (r + 1)) = true) ∧ fx_good x r = true := by
      simpa [fx_good] using hg
    unfold f_MH_put_88
    rw [if_neg (fx_nl (by omega) h4), fx_cc x (show 1 ≤ r + 1 by omega) h4]
    unfold f_MH_put_137
    rw [fx_step h4]
    by_cases hc : fx_c x (r + 1) = 0
    · have hle' : len + fx_n x r ≤ 3000 := by
        simpa [fx_n, hc] using hle
      rw [if_pos hc, ih k len t (by omega) (by omega) hlen hle' hg2.2]
      simp [fx_n, fx_wC, hc]
    · have ho := hg2.1.resolve_left hc
      have hle' : len + 1 + fx_n x r ≤ 3000 := by
        have h := hle
        simp only [fx_n, hc, if_false] at h
        omega
      rw [if_neg hc, hlen]
      unfold f_SI_write
      rw [if_neg (nI_pos (by omega)), if_neg (show ¬ (6600 : Int32) ≤ nI len from nI_ge (b := 6600) (by omega) (by decide)), if_pos (pz_in (by omega) (by decide)), nI_clamp (by omega), fx_nar ho]
      simp only [mz_let, Option.bind_some]
      rw [show mz_gI (mz_pI t 2 len (fx_c x (r + 1))) 1 3 = nI len from hlen, nI_1, ih k (len + 1) _ (by omega) (by omega) rfl hle' hg2.2]
      simp only [fx_wC, hc, if_false, fx_n]
      rw [show len + 1 + fx_n x r = len + (1 + fx_n x r) by omega]
theorem fx_119 {n : Nat} {x : Int32} : ∀ r k len t, r ≤ 4 → r < k → mz_gI t 0 2 = nI len → len + fx_n x r ≤ 3000 →
    f_MO_put_119 n k x (nI (32 - 8 * r)) t = some (nI (len + fx_n x r), fx_wM x r len t) := by
  intro r
  induction r with
  | zero =>
    intro k len t _ hk hlen _
    obtain ⟨k, rfl⟩ : ∃ j, k = j + 1 := ⟨k - 1, by omega⟩
    unfold f_MO_put_119
    rw [if_pos (show (32 : Int32) ≤ nI (32 - 8 * 0) from nI_le (Nat.le_refl _) (by decide)), hlen]
    rfl
  | succ r ih =>
    intro k len t h4 hk hlen hle
    obtain ⟨k, rfl⟩ : ∃ j, k = j + 1 := ⟨k - 1, by omega⟩
    unfold f_MO_put_119
    rw [if_neg (fx_nl (by omega) h4), show (x >>> (nI (32 - 8 * (r + 1)) &&& 31) &&& (255 : Int32)) = fx_c x (r + 1) from rfl]
    unfold f_MO_put_162
    rw [fx_step h4]
    by_cases hc : fx_c x (r + 1) = 0
    · have hle' : len + fx_n x r ≤ 3000 := by
        simpa [fx_n, hc] using hle
      rw [if_pos (fx_le0.mpr hc), ih k len t (by omega) (by omega) hlen hle']
      simp [fx_n, fx_wM, hc]
    · have hle' : len + 1 + fx_n x r ≤ 3000 := by
        have h := hle
        simp only [fx_n, hc, if_false] at h
        omega
      rw [if_neg (fun q => hc (fx_le0.mp q)), hlen, if_pos (pz_in (by omega) (by decide)), nI_clamp (by omega)]
      simp only [mz_let]
      rw [show mz_gI (mz_pI t 1 len (fx_c x (r + 1))) 0 2 = nI len from hlen, nI_1, ih k (len + 1) _ (by omega) (by omega) rfl hle']
      simp only [fx_wM, hc, if_false, fx_n]
      rw [show len + 1 + fx_n x r = len + (1 + fx_n x r) by omega]
/-- put on the class's side: answer (code, out) and state -/
theorem fx_h_put {n len : Nat} {x : Int32} {t : mz_St} (hn : 5 ≤ n) (hlen : mz_gI t 1 3 = nI len) (hl : len ≤ 3000) :
    h_put n x t = (if fx_good x 4 = false then some (1, none, t) else if len + fx_n x 4 ≤ 3000 then some (0, some (nI (len + fx_n x 4)).toInt64, fx_wC x 4 len t) else some (2, none, t)) := by
  have eN := fx_put_N (n := n) (x := x) hlen hl 4 n 0 (by omega) (by omega) (by omega)
  have eT := fx_put_T (n := n) (x := x) hlen hl 4 n 0 (by omega) (by omega) (by omega)
  have eN' : f_MH_put n x t = _ := eN
  have eT' : f_MH_put_T n x t = _ := eT
  unfold h_put
  rw [eN', eT']
  by_cases hg : fx_good x 4 = false
  · rw [if_pos hg, if_pos hg, if_pos hg]
    rfl
  · rw [if_neg hg, if_neg hg, if_neg hg]
    by_cases hc : len + fx_n x 4 ≤ 3000
    · rw [if_pos (show len + 0 + fx_n x 4 ≤ 3000 from hc), if_pos hc, show (0 : Int32) = nI (32 - 8 * 4) from rfl, fx_88 4 n len t (by omega) (by omega) hlen hc (by simpa using hg)]
    · rw [if_neg (show ¬ len + 0 + fx_n x 4 ≤ 3000 from hc), if_neg hc, if_neg (show ¬ len + 0 + fx_n x 4 ≤ 3000 from hc)]
      rfl
theorem fx_m_put {n len : Nat} {x : Int32} {t : mz_St} (hn : 5 ≤ n) (hlen : mz_gI t 0 2 = nI len) (hl : len ≤ 3000) :
    f_MO_put n x t = (if fx_good x 4 = false then some (0, mz_pI t 0 0 1) else if len + fx_n x 4 ≤ 3000 then some (nI (len + fx_n x 4), fx_wM x 4 len (mz_pI t 0 0 0)) else some (0, mz_pI t 0 0 2)) := by
  have e := fx_mo (n := n) (x := x) hlen hl 4 n 0 (by omega) (by omega) (by omega)
  have e' : f_MO_put n x t = _ := e
  rw [e']
  by_cases hg : fx_good x 4 = false
  · rw [if_pos hg, if_pos hg]
  · rw [if_neg hg, if_neg hg]
    by_cases hc : len + fx_n x 4 ≤ 3000
    · rw [if_pos (show len + 0 + fx_n x 4 ≤ 3000 from hc), if_pos hc]
      exact fx_119 4 n len (mz_pI t 0 0 0) (by omega) (by omega) hlen hc
    · rw [if_neg (show ¬ len + 0 + fx_n x 4 ≤ 3000 from hc), if_neg hc]
