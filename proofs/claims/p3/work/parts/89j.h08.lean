/-! a new one is made -/
set_option maxRecDepth 4000 in
set_option maxHeartbeats 8000000 in
theorem MI_cgFX {s t : mz_St} (h : MI s s) (e : ∀ c p, mz_gI t c p = mz_gI s c p) : FX t := ⟨(by rw [e]; exact FX_0_2 h.1), (by rw [e]; exact FX_0_3 h.1), (by rw [e]; exact FX_0_8 h.1), (by rw [e]; exact FX_0_12 h.1), (by rw [e]; exact FX_0_34 h.1), (by rw [e]; exact FX_0_48 h.1), (by rw [e]; exact FX_0_51 h.1), (by rw [e]; exact FX_0_53 h.1), (by rw [e]; exact FX_0_75 h.1), (fun p => by rw [e]; exact FX_2 h.1 p), (fun p => by rw [e]; exact FX_3 h.1 p), (fun p => by rw [e]; exact FX_6 h.1 p), (fun p => by rw [e]; exact FX_7 h.1 p), (fun p => by rw [e]; exact FX_10 h.1 p), (fun p => by rw [e]; exact FX_13 h.1 p), (fun p => by rw [e]; exact FX_14 h.1 p), (fun p => by rw [e]; exact FX_23 h.1 p), (fun p => by rw [e]; exact FX_24 h.1 p), (fun p => by rw [e]; exact FX_25 h.1 p), (fun p => by rw [e]; exact FX_26 h.1 p), (fun p => by rw [e]; exact FX_27 h.1 p), (fun p => by rw [e]; exact FX_28 h.1 p), (fun p => by rw [e]; exact FX_30 h.1 p), (fun p => by rw [e]; exact FX_31 h.1 p), (fun p => by rw [e]; exact FX_32 h.1 p), (fun p => by rw [e]; exact FX_35 h.1 p), (fun p => by rw [e]; exact FX_36 h.1 p), (fun p => by rw [e]; exact FX_38 h.1 p), (fun p => by rw [e]; exact FX_39 h.1 p), (fun p => by rw [e]; exact FX_40 h.1 p), (fun p => by rw [e]; exact FX_41 h.1 p), (fun p => by rw [e]; exact FX_53 h.1 p), (fun p => by rw [e]; exact FX_54 h.1 p), (fun p => by rw [e, e]; exact FX_l h.1 p)⟩
set_option maxRecDepth 4000 in
set_option maxHeartbeats 8000000 in
theorem ds_sh {g h g' h' : Nat → Int32} {b b' : Nat} : ∀ k, (∀ j, j < k → g (b + j) = g' (b' + j) ∧ h (b + j) = h' (b' + j)) → ds g h b k = ds g' h' b' k := by
  intro k
  induction k with
  | zero => intro _; rfl
  | succ k ih =>
    intro e
    have e1 : ds g h b (k + 1) = ds g h b k + (if (g (b + k)).toInt ≤ (h (b + k)).toInt then (h (b + k)).toInt - (g (b + k)).toInt else 0) := rfl
    have e2 : ds g' h' b' (k + 1) = ds g' h' b' k + (if (g' (b' + k)).toInt ≤ (h' (b' + k)).toInt then (h' (b' + k)).toInt - (g' (b' + k)).toInt else 0) := rfl
    rw [e1, e2, ih (fun j hj => e j (by omega)), (e k (by omega)).1, (e k (by omega)).2]
/-- k parameters are copied -/
def W3 (u v : mz_St) (M k : Nat) : Prop := (∀ c p, c ≠ 13 → c ≠ 14 → mz_gI v c p = mz_gI u c p) ∧ (∀ p, mz_gI v 13 p = if 6 * M ≤ p ∧ p < 6 * M + k then mz_gI u 53 (p - 6 * M) else mz_gI u 13 p) ∧ (∀ p, mz_gI v 14 p = if 6 * M ≤ p ∧ p < 6 * M + k then mz_gI u 54 (p - 6 * M) else mz_gI u 14 p)
set_option maxRecDepth 4000 in
set_option maxHeartbeats 8000000 in
theorem l_define_317 {n : Nat} {u : mz_St} {M N : Nat} (hM : M < 16) (hN : N ≤ 6) (h12 : (mz_gI u 0 12).toInt = M) (h75 : (mz_gI u 0 75).toInt = N) (hb : ∀ i, i < N → -1 ≤ (mz_gI u 53 i).toInt ∧ (mz_gI u 53 i).toInt ≤ 3000 ∧ -1 ≤ (mz_gI u 54 i).toInt ∧ (mz_gI u 54 i).toInt ≤ 3000) :
    ∀ (k : Nat) (x9 : Int32) (v : mz_St), MI v v → W3 u v M x9.toNatClampNeg → 0 ≤ x9.toInt → x9.toInt ≤ N → (2147483648 - x9.toInt).toNat < k →
    Tp (f_MO_define_317 n k x9 v) (fun r => ∃ w, W3 u w M N ∧ MI w w ∧ r = mz_pI w 0 12 (mz_gI w 0 12 + 1)) := by
  intro k
  induction k with
  | zero => intros; omega
  | succ k ih =>
    intro x9 v mv hw h0 hxN hk
    obtain ⟨w1, w2, w3⟩ := hw
    have c9 := ti_cl x9
    have l1 : (1 : Int32).toInt = 1 := rfl
    have v12 : mz_gI v 0 12 = mz_gI u 0 12 := w1 0 12 (by decide) (by decide)
    have v75 : mz_gI v 0 75 = mz_gI u 0 75 := w1 0 75 (by decide) (by decide)
    unfold f_MO_define_317
    rw [v75]
    refine Tp_if (fun h => ?_) (fun h => ?_)
    · have h' := ti_e h
      have e9 : x9.toNatClampNeg = N := by omega
      rw [e9] at w2 w3
      exact Tp_so ⟨v, ⟨w1, w2, w3⟩, mv, rfl⟩
    · have h' := ti_ne h
      have e1 : ((6 : Int32) * mz_gI u 0 12).toInt = 6 * (mz_gI u 0 12).toInt := ti_mull rfl (by omega) (by omega)
      have e2 : ((6 : Int32) * mz_gI u 0 12 + x9).toInt = ((6 : Int32) * mz_gI u 0 12).toInt + x9.toInt := ti_add (by omega) (by omega)
      have e3 : (x9 + (1 : Int32)).toInt = x9.toInt + (1 : Int32).toInt := ti_add (by omega) (by omega)
      have cl6 := ti_cl ((6 : Int32) * mz_gI u 0 12 + x9)
      have c91 := ti_cl (x9 + 1)
      have ix : ((6 : Int32) * mz_gI u 0 12 + x9).toNatClampNeg = 6 * M + x9.toNatClampNeg := by omega
      have g8 : ¬ (x9 < 0 ∨ 8 ≤ x9.toNatClampNeg) := ti_ix (by omega) (by omega)
      have g96 : ¬ (((6 : Int32) * mz_gI u 0 12 + x9) < 0 ∨ 96 ≤ ((6 : Int32) * mz_gI u 0 12 + x9).toNatClampNeg) := ti_ix (by omega) (by omega)
      rw [if_pos g8, v12, if_pos g96]
      refine Tp_le (fun a ea => ?_)
      have ga : ∀ c p, mz_gI a c p = mz_gI v c p := fun c p => by rw [ea]; rfl
      rw [if_pos g8, ga 0 12, v12, if_pos g96]
      refine Tp_le (fun b eb => ?_)
      have gb : ∀ c p, mz_gI b c p = mz_gI v c p := fun c p => by rw [eb]; exact ga c p
      have mb : MI b b := ⟨MI_cgFX mv gb, fun _ _ _ => rfl, fun c p => by rw [gb]; exact mv.2.2 c p⟩
      rw [if_pos g8, gb 0 12, v12, if_pos g96]
      have hb9 := hb x9.toNatClampNeg (by omega)
      refine Tp_le (fun d ed => ?_)
      rw [ix, gb 53, w1 53 _ (by decide) (by decide)] at ed
      have md : MI d d := by rw [ed]; exact MI_fix (c := 13) mb (FXp_13 mb.1 (by omega) (by omega)) rfl
      have gd : ∀ c p, c ≠ 13 → mz_gI d c p = mz_gI v c p := fun c p hc => by rw [ed, gI_oth _ _ (by omega)]; exact gb c p
      rw [if_pos g8, gd 0 12 (by decide), v12, if_pos g96]
      refine Tp_le (fun f ef => ?_)
      rw [ix, gd 54 _ (by decide), w1 54 _ (by decide) (by decide)] at ef
      have mf : MI f f := by rw [ef]; exact MI_fix (c := 14) md (FXp_14 md.1 (by omega) (by omega)) rfl
      have i9 : (x9 + 1).toNatClampNeg = x9.toNatClampNeg + 1 := by omega
      refine ih (x9 + 1) f mf ⟨fun c p hc1 hc2 => ?_, fun p => ?_, fun p => ?_⟩ (by omega) (by omega) (by omega)
      · rw [ef, gI_oth _ _ (by omega), gd c p hc1, w1 c p hc1 hc2]
      · rw [i9, ef, gI_oth _ _ (by omega), ed]
        by_cases hp : p = 6 * M + x9.toNatClampNeg
        · rw [hp, gI_same, if_pos (by omega), show 6 * M + x9.toNatClampNeg - 6 * M = x9.toNatClampNeg by omega]
        · rw [gI_oth _ _ (fun q => hp q.2), gb, w2]
          by_cases hr : 6 * M ≤ p ∧ p < 6 * M + x9.toNatClampNeg
          · rw [if_pos hr, if_pos (by omega)]
          · rw [if_neg hr, if_neg (by omega)]
      · rw [i9, ef]
        by_cases hp : p = 6 * M + x9.toNatClampNeg
        · rw [hp, gI_same, if_pos (by omega), show 6 * M + x9.toNatClampNeg - 6 * M = x9.toNatClampNeg by omega]
        · rw [gI_oth _ _ (fun q => hp q.2), gd 14 _ (by decide), w3]
          by_cases hr : 6 * M ≤ p ∧ p < 6 * M + x9.toNatClampNeg
          · rw [if_pos hr, if_pos (by omega)]
          · rw [if_neg hr, if_neg (by omega)]
