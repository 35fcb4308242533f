/-! TOTAL: written by vcg.py -/
set_option maxRecDepth 4000 in
set_option maxHeartbeats 8000000 in
theorem l_MO_hold_70 {n : Nat} {s : mz_St} (hn : 8589934592 ≤ n) (g0 : Int) (g1 : Int) (g2 : Int) (g3 : Int) (g4 : Int) : ∀ (k : Nat) (x4 : Int32) (x5 : Int32) (t : mz_St), NI s t → ((mz_gI t 0 48).toInt = g0) → (g0 < 24000) → (g1 ≤ (mz_gI t 0 51).toInt) → (g2 ≤ 48000) → ((mz_gI t 0 61).toInt = g3) → ((mz_gI t 0 62).toInt = g4) → (0 ≤ x5.toInt) → (x4.toInt ≤ 6000) → (x5.toInt ≤ x4.toInt) → ((mz_gI t 0 51).toInt + (x4.toInt - x5.toInt) ≤ g2) → (2147483648 - x5.toInt).toNat < k → Tp (f_MO_hold_70 n k x4 x5 t) (fun r => NI s r ∧ (mz_gI r 0 48).toInt = g0 + 1 ∧ g1 ≤ (mz_gI r 0 51).toInt ∧ (mz_gI r 0 51).toInt ≤ g2 ∧ (mz_gI r 0 61).toInt = g3 ∧ (mz_gI r 0 62).toInt = g4) := by
  intro k
  induction k with
  | zero => intros; omega
  | succ k ih =>
    intro x4 x5 t ci i0 i1 i2 i3 i4 i5 i6 i7 i8 i9 hm
    unfold f_MO_hold_70
    have b1 := NI_g21 ci (c := 0) (p := 48) rfl
    have b2 := NI_g22 ci (c := 0) (p := 51) rfl
    have b3 := NI_g24 ci (c := 0) (p := 61) rfl
    have b4 := NI_g2 ci (c := 0) (p := 62) rfl
    refine Tp_if (fun h5 => ?_) (fun h5 => ?_)
    · have g6 := ti_e h5
      have i7 := ti_rg x4
      have i8 := ti_rg x5
      refine Tp_gd (ti_ix (by omega) (by omega)) ?_
      refine Tp_le (fun t9 E10 => ?_)
      have k12 := ti_cl (mz_gI t 0 48)
      have ci11 := NI_p22 ci E10 rfl (by omega) (by omega)
      have b15 := NI_g21 ci11 (c := 0) (p := 48) rfl
      have e16 : (mz_gI t9 0 48).toInt = (mz_gI t 0 48).toInt := by rw [E10, gI_oth _ _ (by simp)]
      have l17 : ((1 : Int32)).toInt = 1 := rfl
      first | (have a18 : ((mz_gI t9 0 48) + (1 : Int32)).toInt = (mz_gI t9 0 48).toInt + ((1 : Int32)).toInt := ti_add (by omega) (by omega)) | (have a19 := ti_rg ((mz_gI t9 0 48) + (1 : Int32)))
      refine Tp_le (fun t13 E14 => ?_)
      have l21 : (48 : Int32).toInt = 48 := rfl
      have ci20 := NI_p21 ci11 E14 rfl (by omega) (by omega)
      refine Tp_so ?_
      have b22 := NI_g21 ci20 (c := 0) (p := 48) rfl
      have e23 : (mz_gI t13 0 48).toInt = ((mz_gI t9 0 48) + (1 : Int32)).toInt := by rw [E14, gI_same]
      have b24 := NI_g22 ci20 (c := 0) (p := 51) rfl
      have e25 : (mz_gI t13 0 51).toInt = (mz_gI t9 0 51).toInt := by rw [E14, gI_oth _ _ (by simp)]
      have b26 := NI_g22 ci11 (c := 0) (p := 51) rfl
      have e27 : (mz_gI t9 0 51).toInt = (mz_gI t 0 51).toInt := by rw [E10, gI_oth _ _ (by simp)]
      have b28 := NI_g24 ci20 (c := 0) (p := 61) rfl
      have e29 : (mz_gI t13 0 61).toInt = (mz_gI t9 0 61).toInt := by rw [E14, gI_oth _ _ (by simp)]
      have b30 := NI_g24 ci11 (c := 0) (p := 61) rfl
      have e31 : (mz_gI t9 0 61).toInt = (mz_gI t 0 61).toInt := by rw [E10, gI_oth _ _ (by simp)]
      have b32 := NI_g2 ci20 (c := 0) (p := 62) rfl
      have e33 : (mz_gI t13 0 62).toInt = (mz_gI t9 0 62).toInt := by rw [E14, gI_oth _ _ (by simp)]
      have b34 := NI_g2 ci11 (c := 0) (p := 62) rfl
      have e35 : (mz_gI t9 0 62).toInt = (mz_gI t 0 62).toInt := by rw [E10, gI_oth _ _ (by simp)]
      refine ⟨ci20, ?_, ?_, ?_, ?_, ?_⟩
      · (try dsimp only) <;> first | omega | assumption
      · (try dsimp only) <;> first | omega | assumption
      · (try dsimp only) <;> first | omega | assumption
      · (try dsimp only) <;> first | omega | assumption
      · (try dsimp only) <;> first | omega | assumption
    · have g36 := ti_ne h5
      have i37 := ti_rg x4
      have i38 := ti_rg x5
      refine Tp_gd (ti_ix (by omega) (by omega)) ?_
      refine Tp_gd (ti_ix (by omega) (by omega)) ?_
      have b41 := NI_13 ci (c := 43) (p := x5.toNatClampNeg) rfl
      have i42 := ti_rg (mz_gI s 43 x5.toNatClampNeg)
      refine Tp_le (fun t39 E40 => ?_)
      have ci43 := NI_p0 ci E40 rfl
      have b46 := NI_g22 ci43 (c := 0) (p := 51) rfl
      have e47 : (mz_gI t39 0 51).toInt = (mz_gI t 0 51).toInt := by rw [E40, gI_oth _ _ (by simp)]
      have l48 : ((1 : Int32)).toInt = 1 := rfl
      first | (have a49 : ((mz_gI t39 0 51) + (1 : Int32)).toInt = (mz_gI t39 0 51).toInt + ((1 : Int32)).toInt := ti_add (by omega) (by omega)) | (have a50 := ti_rg ((mz_gI t39 0 51) + (1 : Int32)))
      refine Tp_le (fun t44 E45 => ?_)
      have l52 : (51 : Int32).toInt = 51 := rfl
      have ci51 := NI_p22 ci43 E45 rfl (by omega) (by omega)
      first | (have a53 : (x5 + (1 : Int32)).toInt = (x5).toInt + ((1 : Int32)).toInt := ti_add (by omega) (by omega)) | (have a54 := ti_rg (x5 + (1 : Int32)))
      have b55 := NI_g21 ci51 (c := 0) (p := 48) rfl
      have e56 : (mz_gI t44 0 48).toInt = (mz_gI t39 0 48).toInt := by rw [E45, gI_oth _ _ (by simp)]
      have b57 := NI_g21 ci43 (c := 0) (p := 48) rfl
      have e58 : (mz_gI t39 0 48).toInt = (mz_gI t 0 48).toInt := by rw [E40, gI_oth _ _ (by simp)]
      have b59 := NI_g22 ci51 (c := 0) (p := 51) rfl
      have e60 : (mz_gI t44 0 51).toInt = ((mz_gI t39 0 51) + (1 : Int32)).toInt := by rw [E45, gI_same]
      have b61 := NI_g24 ci51 (c := 0) (p := 61) rfl
      have e62 : (mz_gI t44 0 61).toInt = (mz_gI t39 0 61).toInt := by rw [E45, gI_oth _ _ (by simp)]
      have b63 := NI_g24 ci43 (c := 0) (p := 61) rfl
      have e64 : (mz_gI t39 0 61).toInt = (mz_gI t 0 61).toInt := by rw [E40, gI_oth _ _ (by simp)]
      have b65 := NI_g2 ci51 (c := 0) (p := 62) rfl
      have e66 : (mz_gI t44 0 62).toInt = (mz_gI t39 0 62).toInt := by rw [E45, gI_oth _ _ (by simp)]
      have b67 := NI_g2 ci43 (c := 0) (p := 62) rfl
      have e68 : (mz_gI t39 0 62).toInt = (mz_gI t 0 62).toInt := by rw [E40, gI_oth _ _ (by simp)]
      exact ih x4 (x5 + (1 : Int32)) t44 ci51 (by omega) (by omega) (by omega) (by omega) (by omega) (by omega) (by omega) (by omega) (by omega) (by omega) (by omega)
set_option maxRecDepth 4000 in
set_option maxHeartbeats 8000000 in
theorem l_MO_hold_28 {n : Nat} {s : mz_St} (hn : 8589934592 ≤ n) (g0 : Int) (g1 : Int) (g2 : Int) (g3 : Int) (g4 : Int) : ∀ (k : Nat) (x3 : Int32) (x4 : Int32) (t : mz_St), NI s t → ((mz_gI t 0 48).toInt = g0) → (g0 < 24000) → (g1 ≤ (mz_gI t 0 51).toInt) → (g2 ≤ 48000) → ((mz_gI t 0 61).toInt = g3) → ((mz_gI t 0 62).toInt = g4) → (0 ≤ x3.toInt) → (x4.toInt ≤ 6000) → (x3.toInt ≤ x4.toInt) → ((mz_gI t 0 51).toInt + (x4.toInt - x3.toInt) ≤ g2) → (x4.toInt + 2147483648).toNat < k → Tp (f_MO_hold_28 n k x3 x4 t) (fun r => NI s r ∧ (mz_gI r 0 48).toInt = g0 + 1 ∧ g1 ≤ (mz_gI r 0 51).toInt ∧ (mz_gI r 0 51).toInt ≤ g2 ∧ (mz_gI r 0 61).toInt = g3 ∧ (mz_gI r 0 62).toInt = g4) := by
  intro k
  induction k with
  | zero => intros; omega
  | succ k ih =>
    intro x3 x4 t ci i0 i1 i2 i3 i4 i5 i6 i7 i8 i9 hm
    unfold f_MO_hold_28
    simp only [ti_m1]
    have b69 := NI_g21 ci (c := 0) (p := 48) rfl
    have b70 := NI_g22 ci (c := 0) (p := 51) rfl
    have b71 := NI_g24 ci (c := 0) (p := 61) rfl
    have b72 := NI_g2 ci (c := 0) (p := 62) rfl
    refine Tp_if (fun h73 => ?_) (fun h73 => ?_)
    · have g74 := ti_e h73
      have i75 := ti_rg x4
      have i76 := ti_rg x3
      unfold f_MO_hold_54
      refine Tp_gd (ti_ix (by omega) (by omega)) ?_
      refine Tp_le (fun t77 E78 => ?_)
      have k80 := ti_cl (mz_gI t 0 48)
      have ci79 := NI_p22 ci E78 rfl (by omega) (by omega)
      have b81 := NI_g21 ci79 (c := 0) (p := 48) rfl
      have e82 : (mz_gI t77 0 48).toInt = (mz_gI t 0 48).toInt := by rw [E78, gI_oth _ _ (by simp)]
      have b83 := NI_g22 ci79 (c := 0) (p := 51) rfl
      have e84 : (mz_gI t77 0 51).toInt = (mz_gI t 0 51).toInt := by rw [E78, gI_oth _ _ (by simp)]
      have b85 := NI_g24 ci79 (c := 0) (p := 61) rfl
      have e86 : (mz_gI t77 0 61).toInt = (mz_gI t 0 61).toInt := by rw [E78, gI_oth _ _ (by simp)]
      have b87 := NI_g2 ci79 (c := 0) (p := 62) rfl
      have e88 : (mz_gI t77 0 62).toInt = (mz_gI t 0 62).toInt := by rw [E78, gI_oth _ _ (by simp)]
      refine Tp_mo (l_MO_hold_70 hn (g0) (g1) (g2) (g3) (g4) n x4 x3 t77 ci79 (by omega) (by omega) (by omega) (by omega) (by omega) (by omega) (by omega) (by omega) (by omega) (by omega) (by omega)) (fun q89 h90 => ?_)
      obtain ⟨ci91, p92, p93, p94, p95, p96⟩ := h90
      have b97 := NI_g21 ci91 (c := 0) (p := 48) rfl
      have b98 := NI_g22 ci91 (c := 0) (p := 51) rfl
      have b99 := NI_g24 ci91 (c := 0) (p := 61) rfl
      have b100 := NI_g2 ci91 (c := 0) (p := 62) rfl
      refine ⟨ci91, ?_, ?_, ?_, ?_, ?_⟩
      · (try dsimp only) <;> first | omega | assumption
      · (try dsimp only) <;> first | omega | assumption
      · (try dsimp only) <;> first | omega | assumption
      · (try dsimp only) <;> first | omega | assumption
      · (try dsimp only) <;> first | omega | assumption
    · have g101 := ti_ne h73
      have i102 := ti_rg x4
      have i103 := ti_rg x3
      have l104 : ((1 : Int32)).toInt = 1 := rfl
      first | (have a105 : (x4 - (1 : Int32)).toInt = (x4).toInt - ((1 : Int32)).toInt := ti_sub (by omega) (by omega)) | (have a106 := ti_rg (x4 - (1 : Int32)))
      refine Tp_gd (ti_ix (by omega) (by omega)) ?_
      refine Tp_if (fun h107 => ?_) (fun h107 => ?_)
      · have g108 := ti_q h107
        have b109 := NI_13 ci (c := 43) (p := (x4 - (1 : Int32)).toNatClampNeg) rfl
        have i110 := ti_rg (mz_gI s 43 (x4 - (1 : Int32)).toNatClampNeg)
        have l111 : ((32 : Int32)).toInt = 32 := rfl
        exact ih x3 (x4 - (1 : Int32)) t ci (by omega) (by omega) (by omega) (by omega) (by omega) (by omega) (by omega) (by omega) (by omega) (by omega) (by omega)
      · have g112 := ti_nq h107
        have b113 := NI_13 ci (c := 43) (p := (x4 - (1 : Int32)).toNatClampNeg) rfl
        have i114 := ti_rg (mz_gI s 43 (x4 - (1 : Int32)).toNatClampNeg)
        have l115 : ((32 : Int32)).toInt = 32 := rfl
        unfold f_MO_hold_54
        refine Tp_gd (ti_ix (by omega) (by omega)) ?_
        refine Tp_le (fun t116 E117 => ?_)
        have k119 := ti_cl (mz_gI t 0 48)
        have ci118 := NI_p22 ci E117 rfl (by omega) (by omega)
        have b120 := NI_g21 ci118 (c := 0) (p := 48) rfl
        have e121 : (mz_gI t116 0 48).toInt = (mz_gI t 0 48).toInt := by rw [E117, gI_oth _ _ (by simp)]
        have b122 := NI_g22 ci118 (c := 0) (p := 51) rfl
        have e123 : (mz_gI t116 0 51).toInt = (mz_gI t 0 51).toInt := by rw [E117, gI_oth _ _ (by simp)]
        have b124 := NI_g24 ci118 (c := 0) (p := 61) rfl
        have e125 : (mz_gI t116 0 61).toInt = (mz_gI t 0 61).toInt := by rw [E117, gI_oth _ _ (by simp)]
        have b126 := NI_g2 ci118 (c := 0) (p := 62) rfl
        have e127 : (mz_gI t116 0 62).toInt = (mz_gI t 0 62).toInt := by rw [E117, gI_oth _ _ (by simp)]
        refine Tp_mo (l_MO_hold_70 hn (g0) (g1) (g2) (g3) (g4) n x4 x3 t116 ci118 (by omega) (by omega) (by omega) (by omega) (by omega) (by omega) (by omega) (by omega) (by omega) (by omega) (by omega)) (fun q128 h129 => ?_)
        obtain ⟨ci130, p131, p132, p133, p134, p135⟩ := h129
        have b136 := NI_g21 ci130 (c := 0) (p := 48) rfl
        have b137 := NI_g22 ci130 (c := 0) (p := 51) rfl
        have b138 := NI_g24 ci130 (c := 0) (p := 61) rfl
        have b139 := NI_g2 ci130 (c := 0) (p := 62) rfl
        refine ⟨ci130, ?_, ?_, ?_, ?_, ?_⟩
        · (try dsimp only) <;> first | omega | assumption
        · (try dsimp only) <;> first | omega | assumption
        · (try dsimp only) <;> first | omega | assumption
        · (try dsimp only) <;> first | omega | assumption
        · (try dsimp only) <;> first | omega | assumption
set_option maxRecDepth 4000 in
set_option maxHeartbeats 8000000 in
theorem l_MO_hold_5 {n : Nat} {s : mz_St} (hn : 8589934592 ≤ n) (g0 : Int) (g1 : Int) (g2 : Int) (g3 : Int) (g4 : Int) : ∀ (k : Nat) (x3 : Int32) (x4 : Int32) (t : mz_St), NI s t → ((mz_gI t 0 48).toInt = g0) → (g0 < 24000) → (g1 ≤ (mz_gI t 0 51).toInt) → (g2 ≤ 48000) → ((mz_gI t 0 61).toInt = g3) → ((mz_gI t 0 62).toInt = g4) → (0 ≤ x3.toInt) → (x4.toInt ≤ 6000) → (x3.toInt ≤ x4.toInt) → ((mz_gI t 0 51).toInt + (x4.toInt - x3.toInt) ≤ g2) → (2147483648 - x3.toInt).toNat < k → Tp (f_MO_hold_5 n k x3 x4 t) (fun r => NI s r ∧ (mz_gI r 0 48).toInt = g0 + 1 ∧ g1 ≤ (mz_gI r 0 51).toInt ∧ (mz_gI r 0 51).toInt ≤ g2 ∧ (mz_gI r 0 61).toInt = g3 ∧ (mz_gI r 0 62).toInt = g4) := by
  intro k
  induction k with
  | zero => intros; omega
  | succ k ih =>
    intro x3 x4 t ci i0 i1 i2 i3 i4 i5 i6 i7 i8 i9 hm
    unfold f_MO_hold_5
    have b140 := NI_g21 ci (c := 0) (p := 48) rfl
    have b141 := NI_g22 ci (c := 0) (p := 51) rfl
    have b142 := NI_g24 ci (c := 0) (p := 61) rfl
    have b143 := NI_g2 ci (c := 0) (p := 62) rfl
    refine Tp_if (fun h144 => ?_) (fun h144 => ?_)
    · have g145 := ti_e h144
      have i146 := ti_rg x4
      have i147 := ti_rg x3
      refine Tp_mo (l_MO_hold_28 hn (g0) (g1) (g2) (g3) (g4) n x3 x4 t ci (by omega) (by omega) (by omega) (by omega) (by omega) (by omega) (by omega) (by omega) (by omega) (by omega) (by omega)) (fun q148 h149 => ?_)
      obtain ⟨ci150, p151, p152, p153, p154, p155⟩ := h149
      have b156 := NI_g21 ci150 (c := 0) (p := 48) rfl
      have b157 := NI_g22 ci150 (c := 0) (p := 51) rfl
      have b158 := NI_g24 ci150 (c := 0) (p := 61) rfl
      have b159 := NI_g2 ci150 (c := 0) (p := 62) rfl
      refine ⟨ci150, ?_, ?_, ?_, ?_, ?_⟩
      · (try dsimp only) <;> first | omega | assumption
      · (try dsimp only) <;> first | omega | assumption
      · (try dsimp only) <;> first | omega | assumption
      · (try dsimp only) <;> first | omega | assumption
      · (try dsimp only) <;> first | omega | assumption
    · have g160 := ti_ne h144
      have i161 := ti_rg x4
      have i162 := ti_rg x3
      refine Tp_gd (ti_ix (by omega) (by omega)) ?_
      refine Tp_if (fun h163 => ?_) (fun h163 => ?_)
      · have g164 := ti_q h163
        have b165 := NI_13 ci (c := 43) (p := x3.toNatClampNeg) rfl
        have i166 := ti_rg (mz_gI s 43 x3.toNatClampNeg)
        have l167 : ((32 : Int32)).toInt = 32 := rfl
        have l168 : ((1 : Int32)).toInt = 1 := rfl
        first | (have a169 : (x3 + (1 : Int32)).toInt = (x3).toInt + ((1 : Int32)).toInt := ti_add (by omega) (by omega)) | (have a170 := ti_rg (x3 + (1 : Int32)))
        exact ih (x3 + (1 : Int32)) x4 t ci (by omega) (by omega) (by omega) (by omega) (by omega) (by omega) (by omega) (by omega) (by omega) (by omega) (by omega)
      · have g171 := ti_nq h163
        have b172 := NI_13 ci (c := 43) (p := x3.toNatClampNeg) rfl
        have i173 := ti_rg (mz_gI s 43 x3.toNatClampNeg)
        have l174 : ((32 : Int32)).toInt = 32 := rfl
        refine Tp_mo (l_MO_hold_28 hn (g0) (g1) (g2) (g3) (g4) n x3 x4 t ci (by omega) (by omega) (by omega) (by omega) (by omega) (by omega) (by omega) (by omega) (by omega) (by omega) (by omega)) (fun q175 h176 => ?_)
        obtain ⟨ci177, p178, p179, p180, p181, p182⟩ := h176
        have b183 := NI_g21 ci177 (c := 0) (p := 48) rfl
        have b184 := NI_g22 ci177 (c := 0) (p := 51) rfl
        have b185 := NI_g24 ci177 (c := 0) (p := 61) rfl
        have b186 := NI_g2 ci177 (c := 0) (p := 62) rfl
        refine ⟨ci177, ?_, ?_, ?_, ?_, ?_⟩
        · (try dsimp only) <;> first | omega | assumption
        · (try dsimp only) <;> first | omega | assumption
        · (try dsimp only) <;> first | omega | assumption
        · (try dsimp only) <;> first | omega | assumption
        · (try dsimp only) <;> first | omega | assumption
set_option maxRecDepth 4000 in
set_option maxHeartbeats 8000000 in
theorem s_MO_hold {n : Nat} {s : mz_St} (hn : 8589934592 ≤ n) {x1 : Int32} {x2 : Int32} {t : mz_St}  (ci : NI s t) (i0 : 0 ≤ x1.toInt) (i1 : x1.toInt ≤ x2.toInt) (i2 : x2.toInt ≤ 6000) (i3 : (mz_gI t 0 48).toInt < 24000) (i4 : (mz_gI t 0 51).toInt + (x2.toInt - x1.toInt) ≤ 48000) : Tp (f_MO_hold n x1 x2 t) (fun r => NI s r ∧ (mz_gI r 0 48).toInt = (mz_gI t 0 48).toInt + 1 ∧ (mz_gI t 0 51).toInt ≤ (mz_gI r 0 51).toInt ∧ (mz_gI r 0 51).toInt ≤ (mz_gI t 0 51).toInt + (x2.toInt - x1.toInt) ∧ (mz_gI r 0 61).toInt = (mz_gI t 0 61).toInt ∧ (mz_gI r 0 62).toInt = (mz_gI t 0 62).toInt) := by
  unfold f_MO_hold
  have b187 := NI_g21 ci (c := 0) (p := 48) rfl
  have b188 := NI_g22 ci (c := 0) (p := 51) rfl
  have b189 := NI_g24 ci (c := 0) (p := 61) rfl
  have b190 := NI_g2 ci (c := 0) (p := 62) rfl
  have i191 := ti_rg x1
  have i192 := ti_rg x2
  refine Tp_mo (l_MO_hold_5 hn ((mz_gI t 0 48).toInt) ((mz_gI t 0 51).toInt) ((mz_gI t 0 51).toInt + (x2.toInt - x1.toInt)) ((mz_gI t 0 61).toInt) ((mz_gI t 0 62).toInt) n x1 x2 t ci (by omega) (by omega) (by omega) (by omega) (by omega) (by omega) (by omega) (by omega) (by omega) (by omega) (by omega)) (fun q193 h194 => ?_)
  obtain ⟨ci195, p196, p197, p198, p199, p200⟩ := h194
  have b201 := NI_g21 ci195 (c := 0) (p := 48) rfl
  have b202 := NI_g22 ci195 (c := 0) (p := 51) rfl
  have b203 := NI_g24 ci195 (c := 0) (p := 61) rfl
  have b204 := NI_g2 ci195 (c := 0) (p := 62) rfl
  refine ⟨ci195, ?_, ?_, ?_, ?_, ?_⟩
  · (try dsimp only) <;> first | omega | assumption
  · (try dsimp only) <;> first | omega | assumption
  · (try dsimp only) <;> first | omega | assumption
  · (try dsimp only) <;> first | omega | assumption
  · (try dsimp only) <;> first | omega | assumption
set_option maxRecDepth 4000 in
set_option maxHeartbeats 8000000 in
theorem l_MO_readTexts_15 {n : Nat} {s : mz_St} (hn : 8589934592 ≤ n) (h0 : Int) (h1 : Int) (hq : Int) : ∀ (k : Nat) (x1 : Int32) (x2 : Int32) (x3 : Int32) (x4 : Int32) (t : mz_St), NI s t → ((mz_gI t 0 48).toInt = h0 + x1.toInt) → (0 ≤ x1.toInt) → (x1.toInt ≤ x4.toInt - hq) → (hq ≤ x3.toInt) → (x3.toInt ≤ x4.toInt) → ((mz_gI t 0 51).toInt ≤ h1 + (x3.toInt - hq)) → (h1 ≤ (mz_gI t 0 51).toInt) → ((x4.toInt ≤ (mz_gI t 0 60).toInt + 1 ∨ x4.toInt = hq)) → (0 ≤ hq) → (hq ≤ 7000) → (h0 + (mz_gI s 0 60).toInt + 1 ≤ 24000) → (h1 + (mz_gI s 0 60).toInt + 1 ≤ 48000) → (2147483648 - x4.toInt).toNat < k → Tp (f_MO_readTexts_15 n k x1 x2 x3 x4 t) (fun r => NI s r.2 ∧ (mz_gI r.2 0 48).toInt = h0 + (r.1).toInt ∧ 0 ≤ (r.1).toInt ∧ ((r.1).toInt ≤ (mz_gI s 0 60).toInt + 1) ∧ (mz_gI r.2 0 51).toInt ≤ h1 + (mz_gI s 0 60).toInt + 1 ∧ h1 ≤ (mz_gI r.2 0 51).toInt) := by
  intro k
  induction k with
  | zero => intros; omega
  | succ k ih =>
    intro x1 x2 x3 x4 t ci i0 i1 i2 i3 i4 i5 i6 i7 i8 i9 i10 i11 hm
    unfold f_MO_readTexts_15
    have b205 := NI_g21 ci (c := 0) (p := 48) rfl
    have b206 := NI_g22 ci (c := 0) (p := 51) rfl
    have b207 := NI_13 ci (c := 0) (p := 60) rfl
    have b208 := ci.1.2
    refine Tp_if (fun h209 => ?_) (fun h209 => ?_)
    · have g210 := ti_l h209
      have i211 := ti_rg x4
      refine Tp_le (fun t212 E213 => ?_)
      have l215 : (61 : Int32).toInt = 61 := rfl
      have ci214 := NI_p24 ci E213 rfl (by omega) (by omega)
      refine Tp_so ?_
      have i216 := ti_rg x1
      have b217 := NI_g21 ci214 (c := 0) (p := 48) rfl
      have e218 : (mz_gI t212 0 48).toInt = (mz_gI t 0 48).toInt := by rw [E213, gI_oth _ _ (by simp)]
      have b219 := NI_g22 ci214 (c := 0) (p := 51) rfl
      have e220 : (mz_gI t212 0 51).toInt = (mz_gI t 0 51).toInt := by rw [E213, gI_oth _ _ (by simp)]
      have b221 := NI_g24 ci214 (c := 0) (p := 61) rfl
      have e222 : (mz_gI t212 0 61).toInt = (mz_gI t 0 60).toInt := by rw [E213, gI_same]
      have b223 := NI_g2 ci214 (c := 0) (p := 62) rfl
      have e224 : (mz_gI t212 0 62).toInt = (mz_gI t 0 62).toInt := by rw [E213, gI_oth _ _ (by simp)]
      have b225 := NI_g2 ci (c := 0) (p := 62) rfl
      refine ⟨ci214, ?_, ?_, ?_, ?_, ?_⟩
      · (try dsimp only) <;> first | omega | assumption
      · (try dsimp only) <;> first | omega | assumption
      · (try dsimp only) <;> first | omega | assumption
      · (try dsimp only) <;> first | omega | assumption
      · (try dsimp only) <;> first | omega | assumption
    · have g226 := ti_nl h209
      have i227 := ti_rg x4
      refine Tp_if (fun h228 => ?_) (fun h228 => ?_)
      · have g229 := ti_e h228
        unfold f_MO_readTexts_45
        refine Tp_if (fun h230 => ?_) (fun h230 => ?_)
        · have g231 := ti_q h230
          have l232 : ((44 : Int32)).toInt = 44 := rfl
          refine Tp_if (fun h233 => ?_) (fun h233 => ?_)
          · have g234 := ti_q h233
            have i235 := ti_rg x2
            have l236 : (0 : Int32).toInt = 0 := rfl
            unfold f_MO_readTexts_67
            unfold f_MO_readTexts_72
            refine Tp_if (fun h237 => ?_) (fun h237 => ?_)
            · have g238 := ti_q h237
              have l239 : ((1 : Int32)).toInt = 1 := rfl
              unfold f_MO_readTexts_114
              refine Tp_if (fun h240 => ?_) (fun h240 => ?_)
              · have g241 := ti_q h240
                have l242 : ((40 : Int32)).toInt = 40 := rfl
                unfold f_MO_readTexts_141
                refine Tp_if (fun h243 => ?_) (fun h243 => ?_)
                · have g244 := ti_q h243
                  have b245 := NI_g2 ci (c := 0) (p := 62) rfl
                  unfold f_MO_readTexts_158
                  unfold f_MO_readTexts_159
                  have l246 : ((0 : Int32)).toInt = 0 := rfl
                  refine Tp_gd (ti_b (by omega) (by omega)) ?_
                  refine Tp_le (fun t247 E248 => ?_)
                  have l250 : (62 : Int32).toInt = 62 := rfl
                  have ci249 := NI_p2 ci E248 rfl (by omega) (by omega)
                  have i251 := ti_rg x1
                  first | (have a252 : (x2 + (1 : Int32)).toInt = (x2).toInt + ((1 : Int32)).toInt := ti_add (by omega) (by omega)) | (have a253 := ti_rg (x2 + (1 : Int32)))
                  have i254 := ti_rg x3
                  first | (have a255 : (x4 + (1 : Int32)).toInt = (x4).toInt + ((1 : Int32)).toInt := ti_add (by omega) (by omega)) | (have a256 := ti_rg (x4 + (1 : Int32)))
                  have b257 := NI_g21 ci249 (c := 0) (p := 48) rfl
                  have e258 : (mz_gI t247 0 48).toInt = (mz_gI t 0 48).toInt := by rw [E248, gI_oth _ _ (by simp)]
                  have b259 := NI_g22 ci249 (c := 0) (p := 51) rfl
                  have e260 : (mz_gI t247 0 51).toInt = (mz_gI t 0 51).toInt := by rw [E248, gI_oth _ _ (by simp)]
                  have b261 := NI_13 ci249 (c := 0) (p := 60) rfl
                  exact ih x1 (x2 + (1 : Int32)) x3 (x4 + (1 : Int32)) t247 ci249 (by omega) (by omega) (by omega) (by omega) (by omega) (by omega) (by omega) (by omega) (by omega) (by omega) (by omega) (by omega) (by omega)
                · have g262 := ti_nq h243
                  have b263 := NI_g2 ci (c := 0) (p := 62) rfl
                  refine Tp_if (fun h264 => ?_) (fun h264 => ?_)
                  · have g265 := ti_l h264
                    first | (have a266 : (x2 + (1 : Int32)).toInt = (x2).toInt + ((1 : Int32)).toInt := ti_add (by omega) (by omega)) | (have a267 := ti_rg (x2 + (1 : Int32)))
                    unfold f_MO_readTexts_158
                    unfold f_MO_readTexts_159
                    have l268 : ((0 : Int32)).toInt = 0 := rfl
                    refine Tp_gd (ti_b (by omega) (by omega)) ?_
                    refine Tp_le (fun t269 E270 => ?_)
                    have l272 : (62 : Int32).toInt = 62 := rfl
                    have ci271 := NI_p2 ci E270 rfl (by omega) (by omega)
                    have i273 := ti_rg x1
                    have i274 := ti_rg x3
                    first | (have a275 : (x4 + (1 : Int32)).toInt = (x4).toInt + ((1 : Int32)).toInt := ti_add (by omega) (by omega)) | (have a276 := ti_rg (x4 + (1 : Int32)))
                    have b277 := NI_g21 ci271 (c := 0) (p := 48) rfl
                    have e278 : (mz_gI t269 0 48).toInt = (mz_gI t 0 48).toInt := by rw [E270, gI_oth _ _ (by simp)]
                    have b279 := NI_g22 ci271 (c := 0) (p := 51) rfl
                    have e280 : (mz_gI t269 0 51).toInt = (mz_gI t 0 51).toInt := by rw [E270, gI_oth _ _ (by simp)]
                    have b281 := NI_13 ci271 (c := 0) (p := 60) rfl
                    exact ih x1 (x2 + (1 : Int32)) x3 (x4 + (1 : Int32)) t269 ci271 (by omega) (by omega) (by omega) (by omega) (by omega) (by omega) (by omega) (by omega) (by omega) (by omega) (by omega) (by omega) (by omega)
                  · have g282 := ti_nl h264
                    first | (have a283 : (x2 + (1 : Int32)).toInt = (x2).toInt + ((1 : Int32)).toInt := ti_add (by omega) (by omega)) | (have a284 := ti_rg (x2 + (1 : Int32)))
                    unfold f_MO_readTexts_159
                    refine Tp_gd (ti_b (by omega) (by omega)) ?_
                    refine Tp_le (fun t285 E286 => ?_)
                    have l288 : (62 : Int32).toInt = 62 := rfl
                    have ci287 := NI_p2 ci E286 rfl (by omega) (by omega)
                    have i289 := ti_rg x1
                    have i290 := ti_rg x3
                    first | (have a291 : (x4 + (1 : Int32)).toInt = (x4).toInt + ((1 : Int32)).toInt := ti_add (by omega) (by omega)) | (have a292 := ti_rg (x4 + (1 : Int32)))
                    have b293 := NI_g21 ci287 (c := 0) (p := 48) rfl
                    have e294 : (mz_gI t285 0 48).toInt = (mz_gI t 0 48).toInt := by rw [E286, gI_oth _ _ (by simp)]
                    have b295 := NI_g22 ci287 (c := 0) (p := 51) rfl
                    have e296 : (mz_gI t285 0 51).toInt = (mz_gI t 0 51).toInt := by rw [E286, gI_oth _ _ (by simp)]
                    have b297 := NI_13 ci287 (c := 0) (p := 60) rfl
                    exact ih x1 (x2 + (1 : Int32)) x3 (x4 + (1 : Int32)) t285 ci287 (by omega) (by omega) (by omega) (by omega) (by omega) (by omega) (by omega) (by omega) (by omega) (by omega) (by omega) (by omega) (by omega)
              · have g298 := ti_nq h240
                have l299 : ((40 : Int32)).toInt = 40 := rfl
                refine Tp_if (fun h300 => ?_) (fun h300 => ?_)
                · have g301 := ti_q h300
                  have l302 : ((41 : Int32)).toInt = 41 := rfl
                  unfold f_MO_readTexts_141
                  refine Tp_if (fun h303 => ?_) (fun h303 => ?_)
                  · have g304 := ti_q h303
                    have b305 := NI_g2 ci (c := 0) (p := 62) rfl
                    unfold f_MO_readTexts_158
                    unfold f_MO_readTexts_159
                    have l306 : ((0 : Int32)).toInt = 0 := rfl
                    refine Tp_gd (ti_b (by omega) (by omega)) ?_
                    refine Tp_le (fun t307 E308 => ?_)
                    have l310 : (62 : Int32).toInt = 62 := rfl
                    have ci309 := NI_p2 ci E308 rfl (by omega) (by omega)
                    have i311 := ti_rg x1
                    first | (have a312 : (x2 - (1 : Int32)).toInt = (x2).toInt - ((1 : Int32)).toInt := ti_sub (by omega) (by omega)) | (have a313 := ti_rg (x2 - (1 : Int32)))
                    have i314 := ti_rg x3
                    first | (have a315 : (x4 + (1 : Int32)).toInt = (x4).toInt + ((1 : Int32)).toInt := ti_add (by omega) (by omega)) | (have a316 := ti_rg (x4 + (1 : Int32)))
                    have b317 := NI_g21 ci309 (c := 0) (p := 48) rfl
                    have e318 : (mz_gI t307 0 48).toInt = (mz_gI t 0 48).toInt := by rw [E308, gI_oth _ _ (by simp)]
                    have b319 := NI_g22 ci309 (c := 0) (p := 51) rfl
                    have e320 : (mz_gI t307 0 51).toInt = (mz_gI t 0 51).toInt := by rw [E308, gI_oth _ _ (by simp)]
                    have b321 := NI_13 ci309 (c := 0) (p := 60) rfl
                    exact ih x1 (x2 - (1 : Int32)) x3 (x4 + (1 : Int32)) t307 ci309 (by omega) (by omega) (by omega) (by omega) (by omega) (by omega) (by omega) (by omega) (by omega) (by omega) (by omega) (by omega) (by omega)
                  · have g322 := ti_nq h303
                    have b323 := NI_g2 ci (c := 0) (p := 62) rfl
                    refine Tp_if (fun h324 => ?_) (fun h324 => ?_)
                    · have g325 := ti_l h324
                      first | (have a326 : (x2 - (1 : Int32)).toInt = (x2).toInt - ((1 : Int32)).toInt := ti_sub (by omega) (by omega)) | (have a327 := ti_rg (x2 - (1 : Int32)))
                      unfold f_MO_readTexts_158
                      unfold f_MO_readTexts_159
                      have l328 : ((0 : Int32)).toInt = 0 := rfl
                      refine Tp_gd (ti_b (by omega) (by omega)) ?_
                      refine Tp_le (fun t329 E330 => ?_)
                      have l332 : (62 : Int32).toInt = 62 := rfl
                      have ci331 := NI_p2 ci E330 rfl (by omega) (by omega)
                      have i333 := ti_rg x1
                      have i334 := ti_rg x3
                      first | (have a335 : (x4 + (1 : Int32)).toInt = (x4).toInt + ((1 : Int32)).toInt := ti_add (by omega) (by omega)) | (have a336 := ti_rg (x4 + (1 : Int32)))
                      have b337 := NI_g21 ci331 (c := 0) (p := 48) rfl
                      have e338 : (mz_gI t329 0 48).toInt = (mz_gI t 0 48).toInt := by rw [E330, gI_oth _ _ (by simp)]
                      have b339 := NI_g22 ci331 (c := 0) (p := 51) rfl
                      have e340 : (mz_gI t329 0 51).toInt = (mz_gI t 0 51).toInt := by rw [E330, gI_oth _ _ (by simp)]
                      have b341 := NI_13 ci331 (c := 0) (p := 60) rfl
                      exact ih x1 (x2 - (1 : Int32)) x3 (x4 + (1 : Int32)) t329 ci331 (by omega) (by omega) (by omega) (by omega) (by omega) (by omega) (by omega) (by omega) (by omega) (by omega) (by omega) (by omega) (by omega)
                    · have g342 := ti_nl h324
                      first | (have a343 : (x2 - (1 : Int32)).toInt = (x2).toInt - ((1 : Int32)).toInt := ti_sub (by omega) (by omega)) | (have a344 := ti_rg (x2 - (1 : Int32)))
                      unfold f_MO_readTexts_159
                      refine Tp_gd (ti_b (by omega) (by omega)) ?_
                      refine Tp_le (fun t345 E346 => ?_)
                      have l348 : (62 : Int32).toInt = 62 := rfl
                      have ci347 := NI_p2 ci E346 rfl (by omega) (by omega)
                      have i349 := ti_rg x1
                      have i350 := ti_rg x3
                      first | (have a351 : (x4 + (1 : Int32)).toInt = (x4).toInt + ((1 : Int32)).toInt := ti_add (by omega) (by omega)) | (have a352 := ti_rg (x4 + (1 : Int32)))
                      have b353 := NI_g21 ci347 (c := 0) (p := 48) rfl
                      have e354 : (mz_gI t345 0 48).toInt = (mz_gI t 0 48).toInt := by rw [E346, gI_oth _ _ (by simp)]
                      have b355 := NI_g22 ci347 (c := 0) (p := 51) rfl
                      have e356 : (mz_gI t345 0 51).toInt = (mz_gI t 0 51).toInt := by rw [E346, gI_oth _ _ (by simp)]
                      have b357 := NI_13 ci347 (c := 0) (p := 60) rfl
                      exact ih x1 (x2 - (1 : Int32)) x3 (x4 + (1 : Int32)) t345 ci347 (by omega) (by omega) (by omega) (by omega) (by omega) (by omega) (by omega) (by omega) (by omega) (by omega) (by omega) (by omega) (by omega)
                · have g358 := ti_nq h300
                  have l359 : ((41 : Int32)).toInt = 41 := rfl
                  unfold f_MO_readTexts_141
                  refine Tp_if (fun h360 => ?_) (fun h360 => ?_)
                  · have g361 := ti_q h360
                    have b362 := NI_g2 ci (c := 0) (p := 62) rfl
                    unfold f_MO_readTexts_158
                    unfold f_MO_readTexts_159
                    have l363 : ((0 : Int32)).toInt = 0 := rfl
                    refine Tp_gd (ti_b (by omega) (by omega)) ?_
                    refine Tp_le (fun t364 E365 => ?_)
                    have l367 : (62 : Int32).toInt = 62 := rfl
                    have ci366 := NI_p2 ci E365 rfl (by omega) (by omega)
                    have i368 := ti_rg x1
                    have i369 := ti_rg x3
                    first | (have a370 : (x4 + (1 : Int32)).toInt = (x4).toInt + ((1 : Int32)).toInt := ti_add (by omega) (by omega)) | (have a371 := ti_rg (x4 + (1 : Int32)))
                    have b372 := NI_g21 ci366 (c := 0) (p := 48) rfl
                    have e373 : (mz_gI t364 0 48).toInt = (mz_gI t 0 48).toInt := by rw [E365, gI_oth _ _ (by simp)]
                    have b374 := NI_g22 ci366 (c := 0) (p := 51) rfl
                    have e375 : (mz_gI t364 0 51).toInt = (mz_gI t 0 51).toInt := by rw [E365, gI_oth _ _ (by simp)]
                    have b376 := NI_13 ci366 (c := 0) (p := 60) rfl
                    exact ih x1 x2 x3 (x4 + (1 : Int32)) t364 ci366 (by omega) (by omega) (by omega) (by omega) (by omega) (by omega) (by omega) (by omega) (by omega) (by omega) (by omega) (by omega) (by omega)
                  · have g377 := ti_nq h360
                    have b378 := NI_g2 ci (c := 0) (p := 62) rfl
                    refine Tp_if (fun h379 => ?_) (fun h379 => ?_)
                    · have g380 := ti_l h379
                      unfold f_MO_readTexts_158
                      unfold f_MO_readTexts_159
                      have l381 : ((0 : Int32)).toInt = 0 := rfl
                      refine Tp_gd (ti_b (by omega) (by omega)) ?_
                      refine Tp_le (fun t382 E383 => ?_)
                      have l385 : (62 : Int32).toInt = 62 := rfl
                      have ci384 := NI_p2 ci E383 rfl (by omega) (by omega)
                      have i386 := ti_rg x1
                      have i387 := ti_rg x3
                      first | (have a388 : (x4 + (1 : Int32)).toInt = (x4).toInt + ((1 : Int32)).toInt := ti_add (by omega) (by omega)) | (have a389 := ti_rg (x4 + (1 : Int32)))
                      have b390 := NI_g21 ci384 (c := 0) (p := 48) rfl
                      have e391 : (mz_gI t382 0 48).toInt = (mz_gI t 0 48).toInt := by rw [E383, gI_oth _ _ (by simp)]
                      have b392 := NI_g22 ci384 (c := 0) (p := 51) rfl
                      have e393 : (mz_gI t382 0 51).toInt = (mz_gI t 0 51).toInt := by rw [E383, gI_oth _ _ (by simp)]
                      have b394 := NI_13 ci384 (c := 0) (p := 60) rfl
                      exact ih x1 x2 x3 (x4 + (1 : Int32)) t382 ci384 (by omega) (by omega) (by omega) (by omega) (by omega) (by omega) (by omega) (by omega) (by omega) (by omega) (by omega) (by omega) (by omega)
                    · have g395 := ti_nl h379
                      unfold f_MO_readTexts_159
                      refine Tp_gd (ti_b (by omega) (by omega)) ?_
                      refine Tp_le (fun t396 E397 => ?_)
                      have l399 : (62 : Int32).toInt = 62 := rfl
                      have ci398 := NI_p2 ci E397 rfl (by omega) (by omega)
                      have i400 := ti_rg x1
                      have i401 := ti_rg x3
                      first | (have a402 : (x4 + (1 : Int32)).toInt = (x4).toInt + ((1 : Int32)).toInt := ti_add (by omega) (by omega)) | (have a403 := ti_rg (x4 + (1 : Int32)))
                      have b404 := NI_g21 ci398 (c := 0) (p := 48) rfl
                      have e405 : (mz_gI t396 0 48).toInt = (mz_gI t 0 48).toInt := by rw [E397, gI_oth _ _ (by simp)]
                      have b406 := NI_g22 ci398 (c := 0) (p := 51) rfl
                      have e407 : (mz_gI t396 0 51).toInt = (mz_gI t 0 51).toInt := by rw [E397, gI_oth _ _ (by simp)]
                      have b408 := NI_13 ci398 (c := 0) (p := 60) rfl
                      exact ih x1 x2 x3 (x4 + (1 : Int32)) t396 ci398 (by omega) (by omega) (by omega) (by omega) (by omega) (by omega) (by omega) (by omega) (by omega) (by omega) (by omega) (by omega) (by omega)
            · have g409 := ti_nq h237
              have l410 : ((1 : Int32)).toInt = 1 := rfl
              refine Tp_if (fun h411 => ?_) (fun h411 => ?_)
              · have g412 := ti_q h411
                have b413 := NI_g2 ci (c := 0) (p := 62) rfl
                unfold f_MO_readTexts_95
                unfold f_MO_readTexts_96
                have l414 : ((0 : Int32)).toInt = 0 := rfl
                refine Tp_gd (ti_b (by omega) (by omega)) ?_
                refine Tp_le (fun t415 E416 => ?_)
                have l418 : (62 : Int32).toInt = 62 := rfl
                have ci417 := NI_p2 ci E416 rfl (by omega) (by omega)
                have i421 := ti_rg x3
                have b422 := NI_g21 ci417 (c := 0) (p := 48) rfl
                have e423 : (mz_gI t415 0 48).toInt = (mz_gI t 0 48).toInt := by rw [E416, gI_oth _ _ (by simp)]
                have b424 := NI_g22 ci417 (c := 0) (p := 51) rfl
                have e425 : (mz_gI t415 0 51).toInt = (mz_gI t 0 51).toInt := by rw [E416, gI_oth _ _ (by simp)]
                refine Tp_bi (s_MO_hold hn ci417 (by omega) (by omega) (by omega) (by omega) (by omega) (t := t415) (x1 := x3) (x2 := x4)) (fun q419 h420 => ?_)
                obtain ⟨ci426, p427, p428, p429, p430, p431⟩ := h420
                have b432 := NI_g24 ci417 (c := 0) (p := 61) rfl
                have e433 : (mz_gI t415 0 61).toInt = (mz_gI t 0 61).toInt := by rw [E416, gI_oth _ _ (by simp)]
                have b434 := NI_g24 ci (c := 0) (p := 61) rfl
                have b435 := NI_g2 ci417 (c := 0) (p := 62) rfl
                have e436 : (mz_gI t415 0 62).toInt = ((0 : Int32)).toInt := by rw [E416, gI_same]
                have b437 := NI_g21 ci426 (c := 0) (p := 48) rfl
                have b438 := NI_g22 ci426 (c := 0) (p := 51) rfl
                have b439 := NI_g24 ci426 (c := 0) (p := 61) rfl
                have b440 := NI_g2 ci426 (c := 0) (p := 62) rfl
                unfold f_MO_readTexts_114
                refine Tp_if (fun h441 => ?_) (fun h441 => ?_)
                · have g442 := ti_q h441
                  have l443 : ((40 : Int32)).toInt = 40 := rfl
                  unfold f_MO_readTexts_141
                  refine Tp_if (fun h444 => ?_) (fun h444 => ?_)
                  · have g445 := ti_q h444
                    unfold f_MO_readTexts_158
                    unfold f_MO_readTexts_159
                    refine Tp_gd (ti_b (by omega) (by omega)) ?_
                    refine Tp_le (fun t446 E447 => ?_)
                    have ci448 := NI_p2 ci426 E447 rfl (by omega) (by omega)
                    have i449 := ti_rg x1
                    first | (have a450 : (x1 + (1 : Int32)).toInt = (x1).toInt + ((1 : Int32)).toInt := ti_add (by omega) (by omega)) | (have a451 := ti_rg (x1 + (1 : Int32)))
                    first | (have a452 : (x2 + (1 : Int32)).toInt = (x2).toInt + ((1 : Int32)).toInt := ti_add (by omega) (by omega)) | (have a453 := ti_rg (x2 + (1 : Int32)))
                    first | (have a454 : (x4 + (1 : Int32)).toInt = (x4).toInt + ((1 : Int32)).toInt := ti_add (by omega) (by omega)) | (have a455 := ti_rg (x4 + (1 : Int32)))
                    have b456 := NI_g21 ci448 (c := 0) (p := 48) rfl
                    have e457 : (mz_gI t446 0 48).toInt = (mz_gI q419 0 48).toInt := by rw [E447, gI_oth _ _ (by simp)]
                    have b458 := NI_g22 ci448 (c := 0) (p := 51) rfl
                    have e459 : (mz_gI t446 0 51).toInt = (mz_gI q419 0 51).toInt := by rw [E447, gI_oth _ _ (by simp)]
                    have b460 := NI_13 ci448 (c := 0) (p := 60) rfl
                    exact ih (x1 + (1 : Int32)) (x2 + (1 : Int32)) (x4 + (1 : Int32)) (x4 + (1 : Int32)) t446 ci448 (by omega) (by omega) (by omega) (by omega) (by omega) (by omega) (by omega) (by omega) (by omega) (by omega) (by omega) (by omega) (by omega)
                  · have g461 := ti_nq h444
                    refine Tp_if (fun h462 => ?_) (fun h462 => ?_)
                    · have g463 := ti_l h462
                      first | (have a464 : (x2 + (1 : Int32)).toInt = (x2).toInt + ((1 : Int32)).toInt := ti_add (by omega) (by omega)) | (have a465 := ti_rg (x2 + (1 : Int32)))
                      unfold f_MO_readTexts_158
                      unfold f_MO_readTexts_159
                      refine Tp_gd (ti_b (by omega) (by omega)) ?_
                      refine Tp_le (fun t466 E467 => ?_)
                      have ci468 := NI_p2 ci426 E467 rfl (by omega) (by omega)
                      have i469 := ti_rg x1
                      first | (have a470 : (x1 + (1 : Int32)).toInt = (x1).toInt + ((1 : Int32)).toInt := ti_add (by omega) (by omega)) | (have a471 := ti_rg (x1 + (1 : Int32)))
                      first | (have a472 : (x4 + (1 : Int32)).toInt = (x4).toInt + ((1 : Int32)).toInt := ti_add (by omega) (by omega)) | (have a473 := ti_rg (x4 + (1 : Int32)))
                      have b474 := NI_g21 ci468 (c := 0) (p := 48) rfl
                      have e475 : (mz_gI t466 0 48).toInt = (mz_gI q419 0 48).toInt := by rw [E467, gI_oth _ _ (by simp)]
                      have b476 := NI_g22 ci468 (c := 0) (p := 51) rfl
                      have e477 : (mz_gI t466 0 51).toInt = (mz_gI q419 0 51).toInt := by rw [E467, gI_oth _ _ (by simp)]
                      have b478 := NI_13 ci468 (c := 0) (p := 60) rfl
                      exact ih (x1 + (1 : Int32)) (x2 + (1 : Int32)) (x4 + (1 : Int32)) (x4 + (1 : Int32)) t466 ci468 (by omega) (by omega) (by omega) (by omega) (by omega) (by omega) (by omega) (by omega) (by omega) (by omega) (by omega) (by omega) (by omega)
                    · have g479 := ti_nl h462
                      first | (have a480 : (x2 + (1 : Int32)).toInt = (x2).toInt + ((1 : Int32)).toInt := ti_add (by omega) (by omega)) | (have a481 := ti_rg (x2 + (1 : Int32)))
                      unfold f_MO_readTexts_159
                      refine Tp_gd (ti_b (by omega) (by omega)) ?_
                      refine Tp_le (fun t482 E483 => ?_)
                      have ci484 := NI_p2 ci426 E483 rfl (by omega) (by omega)
                      have i485 := ti_rg x1
                      first | (have a486 : (x1 + (1 : Int32)).toInt = (x1).toInt + ((1 : Int32)).toInt := ti_add (by omega) (by omega)) | (have a487 := ti_rg (x1 + (1 : Int32)))
                      first | (have a488 : (x4 + (1 : Int32)).toInt = (x4).toInt + ((1 : Int32)).toInt := ti_add (by omega) (by omega)) | (have a489 := ti_rg (x4 + (1 : Int32)))
                      have b490 := NI_g21 ci484 (c := 0) (p := 48) rfl
                      have e491 : (mz_gI t482 0 48).toInt = (mz_gI q419 0 48).toInt := by rw [E483, gI_oth _ _ (by simp)]
                      have b492 := NI_g22 ci484 (c := 0) (p := 51) rfl
                      have e493 : (mz_gI t482 0 51).toInt = (mz_gI q419 0 51).toInt := by rw [E483, gI_oth _ _ (by simp)]
                      have b494 := NI_13 ci484 (c := 0) (p := 60) rfl
                      exact ih (x1 + (1 : Int32)) (x2 + (1 : Int32)) (x4 + (1 : Int32)) (x4 + (1 : Int32)) t482 ci484 (by omega) (by omega) (by omega) (by omega) (by omega) (by omega) (by omega) (by omega) (by omega) (by omega) (by omega) (by omega) (by omega)
                · have g495 := ti_nq h441
                  have l496 : ((40 : Int32)).toInt = 40 := rfl
                  refine Tp_if (fun h497 => ?_) (fun h497 => ?_)
                  · have g498 := ti_q h497
                    have l499 : ((41 : Int32)).toInt = 41 := rfl
                    unfold f_MO_readTexts_141
                    refine Tp_if (fun h500 => ?_) (fun h500 => ?_)
                    · have g501 := ti_q h500
                      unfold f_MO_readTexts_158
                      unfold f_MO_readTexts_159
                      refine Tp_gd (ti_b (by omega) (by omega)) ?_
                      refine Tp_le (fun t502 E503 => ?_)
                      have ci504 := NI_p2 ci426 E503 rfl (by omega) (by omega)
                      have i505 := ti_rg x1
                      first | (have a506 : (x1 + (1 : Int32)).toInt = (x1).toInt + ((1 : Int32)).toInt := ti_add (by omega) (by omega)) | (have a507 := ti_rg (x1 + (1 : Int32)))
                      first | (have a508 : (x2 - (1 : Int32)).toInt = (x2).toInt - ((1 : Int32)).toInt := ti_sub (by omega) (by omega)) | (have a509 := ti_rg (x2 - (1 : Int32)))
                      first | (have a510 : (x4 + (1 : Int32)).toInt = (x4).toInt + ((1 : Int32)).toInt := ti_add (by omega) (by omega)) | (have a511 := ti_rg (x4 + (1 : Int32)))
                      have b512 := NI_g21 ci504 (c := 0) (p := 48) rfl
                      have e513 : (mz_gI t502 0 48).toInt = (mz_gI q419 0 48).toInt := by rw [E503, gI_oth _ _ (by simp)]
                      have b514 := NI_g22 ci504 (c := 0) (p := 51) rfl
                      have e515 : (mz_gI t502 0 51).toInt = (mz_gI q419 0 51).toInt := by rw [E503, gI_oth _ _ (by simp)]
                      have b516 := NI_13 ci504 (c := 0) (p := 60) rfl
                      exact ih (x1 + (1 : Int32)) (x2 - (1 : Int32)) (x4 + (1 : Int32)) (x4 + (1 : Int32)) t502 ci504 (by omega) (by omega) (by omega) (by omega) (by omega) (by omega) (by omega) (by omega) (by omega) (by omega) (by omega) (by omega) (by omega)
                    · have g517 := ti_nq h500
                      refine Tp_if (fun h518 => ?_) (fun h518 => ?_)
                      · have g519 := ti_l h518
                        first | (have a520 : (x2 - (1 : Int32)).toInt = (x2).toInt - ((1 : Int32)).toInt := ti_sub (by omega) (by omega)) | (have a521 := ti_rg (x2 - (1 : Int32)))
                        unfold f_MO_readTexts_158
                        unfold f_MO_readTexts_159
                        refine Tp_gd (ti_b (by omega) (by omega)) ?_
                        refine Tp_le (fun t522 E523 => ?_)
                        have ci524 := NI_p2 ci426 E523 rfl (by omega) (by omega)
                        have i525 := ti_rg x1
                        first | (have a526 : (x1 + (1 : Int32)).toInt = (x1).toInt + ((1 : Int32)).toInt := ti_add (by omega) (by omega)) | (have a527 := ti_rg (x1 + (1 : Int32)))
                        first | (have a528 : (x4 + (1 : Int32)).toInt = (x4).toInt + ((1 : Int32)).toInt := ti_add (by omega) (by omega)) | (have a529 := ti_rg (x4 + (1 : Int32)))
                        have b530 := NI_g21 ci524 (c := 0) (p := 48) rfl
                        have e531 : (mz_gI t522 0 48).toInt = (mz_gI q419 0 48).toInt := by rw [E523, gI_oth _ _ (by simp)]
                        have b532 := NI_g22 ci524 (c := 0) (p := 51) rfl
                        have e533 : (mz_gI t522 0 51).toInt = (mz_gI q419 0 51).toInt := by rw [E523, gI_oth _ _ (by simp)]
                        have b534 := NI_13 ci524 (c := 0) (p := 60) rfl
                        exact ih (x1 + (1 : Int32)) (x2 - (1 : Int32)) (x4 + (1 : Int32)) (x4 + (1 : Int32)) t522 ci524 (by omega) (by omega) (by omega) (by omega) (by omega) (by omega) (by omega) (by omega) (by omega) (by omega) (by omega) (by omega) (by omega)
                      · have g535 := ti_nl h518
                        first | (have a536 : (x2 - (1 : Int32)).toInt = (x2).toInt - ((1 : Int32)).toInt := ti_sub (by omega) (by omega)) | (have a537 := ti_rg (x2 - (1 : Int32)))
                        unfold f_MO_readTexts_159
                        refine Tp_gd (ti_b (by omega) (by omega)) ?_
                        refine Tp_le (fun t538 E539 => ?_)
                        have ci540 := NI_p2 ci426 E539 rfl (by omega) (by omega)
                        have i541 := ti_rg x1
                        first | (have a542 : (x1 + (1 : Int32)).toInt = (x1).toInt + ((1 : Int32)).toInt := ti_add (by omega) (by omega)) | (have a543 := ti_rg (x1 + (1 : Int32)))
                        first | (have a544 : (x4 + (1 : Int32)).toInt = (x4).toInt + ((1 : Int32)).toInt := ti_add (by omega) (by omega)) | (have a545 := ti_rg (x4 + (1 : Int32)))
                        have b546 := NI_g21 ci540 (c := 0) (p := 48) rfl
                        have e547 : (mz_gI t538 0 48).toInt = (mz_gI q419 0 48).toInt := by rw [E539, gI_oth _ _ (by simp)]
                        have b548 := NI_g22 ci540 (c := 0) (p := 51) rfl
                        have e549 : (mz_gI t538 0 51).toInt = (mz_gI q419 0 51).toInt := by rw [E539, gI_oth _ _ (by simp)]
                        have b550 := NI_13 ci540 (c := 0) (p := 60) rfl
                        exact ih (x1 + (1 : Int32)) (x2 - (1 : Int32)) (x4 + (1 : Int32)) (x4 + (1 : Int32)) t538 ci540 (by omega) (by omega) (by omega) (by omega) (by omega) (by omega) (by omega) (by omega) (by omega) (by omega) (by omega) (by omega) (by omega)
                  · have g551 := ti_nq h497
                    have l552 : ((41 : Int32)).toInt = 41 := rfl
                    unfold f_MO_readTexts_141
                    refine Tp_if (fun h553 => ?_) (fun h553 => ?_)
                    · have g554 := ti_q h553
                      unfold f_MO_readTexts_158
                      unfold f_MO_readTexts_159
                      refine Tp_gd (ti_b (by omega) (by omega)) ?_
                      refine Tp_le (fun t555 E556 => ?_)
                      have ci557 := NI_p2 ci426 E556 rfl (by omega) (by omega)
                      have i558 := ti_rg x1
                      first | (have a559 : (x1 + (1 : Int32)).toInt = (x1).toInt + ((1 : Int32)).toInt := ti_add (by omega) (by omega)) | (have a560 := ti_rg (x1 + (1 : Int32)))
                      first | (have a561 : (x4 + (1 : Int32)).toInt = (x4).toInt + ((1 : Int32)).toInt := ti_add (by omega) (by omega)) | (have a562 := ti_rg (x4 + (1 : Int32)))
                      have b563 := NI_g21 ci557 (c := 0) (p := 48) rfl
                      have e564 : (mz_gI t555 0 48).toInt = (mz_gI q419 0 48).toInt := by rw [E556, gI_oth _ _ (by simp)]
                      have b565 := NI_g22 ci557 (c := 0) (p := 51) rfl
                      have e566 : (mz_gI t555 0 51).toInt = (mz_gI q419 0 51).toInt := by rw [E556, gI_oth _ _ (by simp)]
                      have b567 := NI_13 ci557 (c := 0) (p := 60) rfl
                      exact ih (x1 + (1 : Int32)) x2 (x4 + (1 : Int32)) (x4 + (1 : Int32)) t555 ci557 (by omega) (by omega) (by omega) (by omega) (by omega) (by omega) (by omega) (by omega) (by omega) (by omega) (by omega) (by omega) (by omega)
                    · have g568 := ti_nq h553
                      refine Tp_if (fun h569 => ?_) (fun h569 => ?_)
                      · have g570 := ti_l h569
                        unfold f_MO_readTexts_158
                        unfold f_MO_readTexts_159
                        refine Tp_gd (ti_b (by omega) (by omega)) ?_
                        refine Tp_le (fun t571 E572 => ?_)
                        have ci573 := NI_p2 ci426 E572 rfl (by omega) (by omega)
                        have i574 := ti_rg x1
                        first | (have a575 : (x1 + (1 : Int32)).toInt = (x1).toInt + ((1 : Int32)).toInt := ti_add (by omega) (by omega)) | (have a576 := ti_rg (x1 + (1 : Int32)))
                        first | (have a577 : (x4 + (1 : Int32)).toInt = (x4).toInt + ((1 : Int32)).toInt := ti_add (by omega) (by omega)) | (have a578 := ti_rg (x4 + (1 : Int32)))
                        have b579 := NI_g21 ci573 (c := 0) (p := 48) rfl
                        have e580 : (mz_gI t571 0 48).toInt = (mz_gI q419 0 48).toInt := by rw [E572, gI_oth _ _ (by simp)]
                        have b581 := NI_g22 ci573 (c := 0) (p := 51) rfl
                        have e582 : (mz_gI t571 0 51).toInt = (mz_gI q419 0 51).toInt := by rw [E572, gI_oth _ _ (by simp)]
                        have b583 := NI_13 ci573 (c := 0) (p := 60) rfl
                        exact ih (x1 + (1 : Int32)) x2 (x4 + (1 : Int32)) (x4 + (1 : Int32)) t571 ci573 (by omega) (by omega) (by omega) (by omega) (by omega) (by omega) (by omega) (by omega) (by omega) (by omega) (by omega) (by omega) (by omega)
                      · have g584 := ti_nl h569
                        unfold f_MO_readTexts_159
                        refine Tp_gd (ti_b (by omega) (by omega)) ?_
                        refine Tp_le (fun t585 E586 => ?_)
                        have ci587 := NI_p2 ci426 E586 rfl (by omega) (by omega)
                        have i588 := ti_rg x1
                        first | (have a589 : (x1 + (1 : Int32)).toInt = (x1).toInt + ((1 : Int32)).toInt := ti_add (by omega) (by omega)) | (have a590 := ti_rg (x1 + (1 : Int32)))
                        first | (have a591 : (x4 + (1 : Int32)).toInt = (x4).toInt + ((1 : Int32)).toInt := ti_add (by omega) (by omega)) | (have a592 := ti_rg (x4 + (1 : Int32)))
                        have b593 := NI_g21 ci587 (c := 0) (p := 48) rfl
                        have e594 : (mz_gI t585 0 48).toInt = (mz_gI q419 0 48).toInt := by rw [E586, gI_oth _ _ (by simp)]
                        have b595 := NI_g22 ci587 (c := 0) (p := 51) rfl
                        have e596 : (mz_gI t585 0 51).toInt = (mz_gI q419 0 51).toInt := by rw [E586, gI_oth _ _ (by simp)]
                        have b597 := NI_13 ci587 (c := 0) (p := 60) rfl
                        exact ih (x1 + (1 : Int32)) x2 (x4 + (1 : Int32)) (x4 + (1 : Int32)) t585 ci587 (by omega) (by omega) (by omega) (by omega) (by omega) (by omega) (by omega) (by omega) (by omega) (by omega) (by omega) (by omega) (by omega)
              · have g598 := ti_nq h411
                have b599 := NI_g2 ci (c := 0) (p := 62) rfl
                refine Tp_if (fun h600 => ?_) (fun h600 => ?_)
                · have g601 := ti_q h600
                  unfold f_MO_readTexts_96
                  refine Tp_gd (ti_b (by omega) (by omega)) ?_
                  refine Tp_le (fun t602 E603 => ?_)
                  have l605 : (62 : Int32).toInt = 62 := rfl
                  have ci604 := NI_p2 ci E603 rfl (by omega) (by omega)
                  have i608 := ti_rg x3
                  have b609 := NI_g21 ci604 (c := 0) (p := 48) rfl
                  have e610 : (mz_gI t602 0 48).toInt = (mz_gI t 0 48).toInt := by rw [E603, gI_oth _ _ (by simp)]
                  have b611 := NI_g22 ci604 (c := 0) (p := 51) rfl
                  have e612 : (mz_gI t602 0 51).toInt = (mz_gI t 0 51).toInt := by rw [E603, gI_oth _ _ (by simp)]
                  refine Tp_bi (s_MO_hold hn ci604 (by omega) (by omega) (by omega) (by omega) (by omega) (t := t602) (x1 := x3) (x2 := x4)) (fun q606 h607 => ?_)
                  obtain ⟨ci613, p614, p615, p616, p617, p618⟩ := h607
                  have b619 := NI_g24 ci604 (c := 0) (p := 61) rfl
                  have e620 : (mz_gI t602 0 61).toInt = (mz_gI t 0 61).toInt := by rw [E603, gI_oth _ _ (by simp)]
                  have b621 := NI_g24 ci (c := 0) (p := 61) rfl
                  have b622 := NI_g2 ci604 (c := 0) (p := 62) rfl
                  have e623 : (mz_gI t602 0 62).toInt = ((1 : Int32)).toInt := by rw [E603, gI_same]
                  have b624 := NI_g21 ci613 (c := 0) (p := 48) rfl
                  have b625 := NI_g22 ci613 (c := 0) (p := 51) rfl
                  have b626 := NI_g24 ci613 (c := 0) (p := 61) rfl
                  have b627 := NI_g2 ci613 (c := 0) (p := 62) rfl
                  unfold f_MO_readTexts_114
                  refine Tp_if (fun h628 => ?_) (fun h628 => ?_)
                  · have g629 := ti_q h628
                    have l630 : ((40 : Int32)).toInt = 40 := rfl
                    unfold f_MO_readTexts_141
                    refine Tp_if (fun h631 => ?_) (fun h631 => ?_)
                    · have g632 := ti_q h631
                      unfold f_MO_readTexts_158
                      unfold f_MO_readTexts_159
                      have l633 : ((0 : Int32)).toInt = 0 := rfl
                      refine Tp_gd (ti_b (by omega) (by omega)) ?_
                      refine Tp_le (fun t634 E635 => ?_)
                      have ci636 := NI_p2 ci613 E635 rfl (by omega) (by omega)
                      have i637 := ti_rg x1
                      first | (have a638 : (x1 + (1 : Int32)).toInt = (x1).toInt + ((1 : Int32)).toInt := ti_add (by omega) (by omega)) | (have a639 := ti_rg (x1 + (1 : Int32)))
                      first | (have a640 : (x2 + (1 : Int32)).toInt = (x2).toInt + ((1 : Int32)).toInt := ti_add (by omega) (by omega)) | (have a641 := ti_rg (x2 + (1 : Int32)))
                      first | (have a642 : (x4 + (1 : Int32)).toInt = (x4).toInt + ((1 : Int32)).toInt := ti_add (by omega) (by omega)) | (have a643 := ti_rg (x4 + (1 : Int32)))
                      have b644 := NI_g21 ci636 (c := 0) (p := 48) rfl
                      have e645 : (mz_gI t634 0 48).toInt = (mz_gI q606 0 48).toInt := by rw [E635, gI_oth _ _ (by simp)]
                      have b646 := NI_g22 ci636 (c := 0) (p := 51) rfl
                      have e647 : (mz_gI t634 0 51).toInt = (mz_gI q606 0 51).toInt := by rw [E635, gI_oth _ _ (by simp)]
                      have b648 := NI_13 ci636 (c := 0) (p := 60) rfl
                      exact ih (x1 + (1 : Int32)) (x2 + (1 : Int32)) (x4 + (1 : Int32)) (x4 + (1 : Int32)) t634 ci636 (by omega) (by omega) (by omega) (by omega) (by omega) (by omega) (by omega) (by omega) (by omega) (by omega) (by omega) (by omega) (by omega)
                    · have g649 := ti_nq h631
                      refine Tp_if (fun h650 => ?_) (fun h650 => ?_)
                      · have g651 := ti_l h650
                        first | (have a652 : (x2 + (1 : Int32)).toInt = (x2).toInt + ((1 : Int32)).toInt := ti_add (by omega) (by omega)) | (have a653 := ti_rg (x2 + (1 : Int32)))
                        unfold f_MO_readTexts_158
                        unfold f_MO_readTexts_159
                        have l654 : ((0 : Int32)).toInt = 0 := rfl
                        refine Tp_gd (ti_b (by omega) (by omega)) ?_
                        refine Tp_le (fun t655 E656 => ?_)
                        have ci657 := NI_p2 ci613 E656 rfl (by omega) (by omega)
                        have i658 := ti_rg x1
                        first | (have a659 : (x1 + (1 : Int32)).toInt = (x1).toInt + ((1 : Int32)).toInt := ti_add (by omega) (by omega)) | (have a660 := ti_rg (x1 + (1 : Int32)))
                        first | (have a661 : (x4 + (1 : Int32)).toInt = (x4).toInt + ((1 : Int32)).toInt := ti_add (by omega) (by omega)) | (have a662 := ti_rg (x4 + (1 : Int32)))
                        have b663 := NI_g21 ci657 (c := 0) (p := 48) rfl
                        have e664 : (mz_gI t655 0 48).toInt = (mz_gI q606 0 48).toInt := by rw [E656, gI_oth _ _ (by simp)]
                        have b665 := NI_g22 ci657 (c := 0) (p := 51) rfl
                        have e666 : (mz_gI t655 0 51).toInt = (mz_gI q606 0 51).toInt := by rw [E656, gI_oth _ _ (by simp)]
                        have b667 := NI_13 ci657 (c := 0) (p := 60) rfl
                        exact ih (x1 + (1 : Int32)) (x2 + (1 : Int32)) (x4 + (1 : Int32)) (x4 + (1 : Int32)) t655 ci657 (by omega) (by omega) (by omega) (by omega) (by omega) (by omega) (by omega) (by omega) (by omega) (by omega) (by omega) (by omega) (by omega)
                      · have g668 := ti_nl h650
                        first | (have a669 : (x2 + (1 : Int32)).toInt = (x2).toInt + ((1 : Int32)).toInt := ti_add (by omega) (by omega)) | (have a670 := ti_rg (x2 + (1 : Int32)))
                        unfold f_MO_readTexts_159
                        refine Tp_gd (ti_b (by omega) (by omega)) ?_
                        refine Tp_le (fun t671 E672 => ?_)
                        have ci673 := NI_p2 ci613 E672 rfl (by omega) (by omega)
                        have i674 := ti_rg x1
                        first | (have a675 : (x1 + (1 : Int32)).toInt = (x1).toInt + ((1 : Int32)).toInt := ti_add (by omega) (by omega)) | (have a676 := ti_rg (x1 + (1 : Int32)))
                        first | (have a677 : (x4 + (1 : Int32)).toInt = (x4).toInt + ((1 : Int32)).toInt := ti_add (by omega) (by omega)) | (have a678 := ti_rg (x4 + (1 : Int32)))
                        have b679 := NI_g21 ci673 (c := 0) (p := 48) rfl
                        have e680 : (mz_gI t671 0 48).toInt = (mz_gI q606 0 48).toInt := by rw [E672, gI_oth _ _ (by simp)]
                        have b681 := NI_g22 ci673 (c := 0) (p := 51) rfl
                        have e682 : (mz_gI t671 0 51).toInt = (mz_gI q606 0 51).toInt := by rw [E672, gI_oth _ _ (by simp)]
                        have b683 := NI_13 ci673 (c := 0) (p := 60) rfl
                        exact ih (x1 + (1 : Int32)) (x2 + (1 : Int32)) (x4 + (1 : Int32)) (x4 + (1 : Int32)) t671 ci673 (by omega) (by omega) (by omega) (by omega) (by omega) (by omega) (by omega) (by omega) (by omega) (by omega) (by omega) (by omega) (by omega)
                  · have g684 := ti_nq h628
                    have l685 : ((40 : Int32)).toInt = 40 := rfl
                    refine Tp_if (fun h686 => ?_) (fun h686 => ?_)
                    · have g687 := ti_q h686
                      have l688 : ((41 : Int32)).toInt = 41 := rfl
                      unfold f_MO_readTexts_141
                      refine Tp_if (fun h689 => ?_) (fun h689 => ?_)
                      · have g690 := ti_q h689
                        unfold f_MO_readTexts_158
                        unfold f_MO_readTexts_159
                        have l691 : ((0 : Int32)).toInt = 0 := rfl
                        refine Tp_gd (ti_b (by omega) (by omega)) ?_
                        refine Tp_le (fun t692 E693 => ?_)
                        have ci694 := NI_p2 ci613 E693 rfl (by omega) (by omega)
                        have i695 := ti_rg x1
                        first | (have a696 : (x1 + (1 : Int32)).toInt = (x1).toInt + ((1 : Int32)).toInt := ti_add (by omega) (by omega)) | (have a697 := ti_rg (x1 + (1 : Int32)))
                        first | (have a698 : (x2 - (1 : Int32)).toInt = (x2).toInt - ((1 : Int32)).toInt := ti_sub (by omega) (by omega)) | (have a699 := ti_rg (x2 - (1 : Int32)))
                        first | (have a700 : (x4 + (1 : Int32)).toInt = (x4).toInt + ((1 : Int32)).toInt := ti_add (by omega) (by omega)) | (have a701 := ti_rg (x4 + (1 : Int32)))
                        have b702 := NI_g21 ci694 (c := 0) (p := 48) rfl
                        have e703 : (mz_gI t692 0 48).toInt = (mz_gI q606 0 48).toInt := by rw [E693, gI_oth _ _ (by simp)]
                        have b704 := NI_g22 ci694 (c := 0) (p := 51) rfl
                        have e705 : (mz_gI t692 0 51).toInt = (mz_gI q606 0 51).toInt := by rw [E693, gI_oth _ _ (by simp)]
                        have b706 := NI_13 ci694 (c := 0) (p := 60) rfl
                        exact ih (x1 + (1 : Int32)) (x2 - (1 : Int32)) (x4 + (1 : Int32)) (x4 + (1 : Int32)) t692 ci694 (by omega) (by omega) (by omega) (by omega) (by omega) (by omega) (by omega) (by omega) (by omega) (by omega) (by omega) (by omega) (by omega)
                      · have g707 := ti_nq h689
                        refine Tp_if (fun h708 => ?_) (fun h708 => ?_)
                        · have g709 := ti_l h708
                          first | (have a710 : (x2 - (1 : Int32)).toInt = (x2).toInt - ((1 : Int32)).toInt := ti_sub (by omega) (by omega)) | (have a711 := ti_rg (x2 - (1 : Int32)))
                          unfold f_MO_readTexts_158
                          unfold f_MO_readTexts_159
                          have l712 : ((0 : Int32)).toInt = 0 := rfl
                          refine Tp_gd (ti_b (by omega) (by omega)) ?_
                          refine Tp_le (fun t713 E714 => ?_)
                          have ci715 := NI_p2 ci613 E714 rfl (by omega) (by omega)
                          have i716 := ti_rg x1
                          first | (have a717 : (x1 + (1 : Int32)).toInt = (x1).toInt + ((1 : Int32)).toInt := ti_add (by omega) (by omega)) | (have a718 := ti_rg (x1 + (1 : Int32)))
                          first | (have a719 : (x4 + (1 : Int32)).toInt = (x4).toInt + ((1 : Int32)).toInt := ti_add (by omega) (by omega)) | (have a720 := ti_rg (x4 + (1 : Int32)))
                          have b721 := NI_g21 ci715 (c := 0) (p := 48) rfl
                          have e722 : (mz_gI t713 0 48).toInt = (mz_gI q606 0 48).toInt := by rw [E714, gI_oth _ _ (by simp)]
                          have b723 := NI_g22 ci715 (c := 0) (p := 51) rfl
                          have e724 : (mz_gI t713 0 51).toInt = (mz_gI q606 0 51).toInt := by rw [E714, gI_oth _ _ (by simp)]
                          have b725 := NI_13 ci715 (c := 0) (p := 60) rfl
                          exact ih (x1 + (1 : Int32)) (x2 - (1 : Int32)) (x4 + (1 : Int32)) (x4 + (1 : Int32)) t713 ci715 (by omega) (by omega) (by omega) (by omega) (by omega) (by omega) (by omega) (by omega) (by omega) (by omega) (by omega) (by omega) (by omega)
                        · have g726 := ti_nl h708
                          first | (have a727 : (x2 - (1 : Int32)).toInt = (x2).toInt - ((1 : Int32)).toInt := ti_sub (by omega) (by omega)) | (have a728 := ti_rg (x2 - (1 : Int32)))
                          unfold f_MO_readTexts_159
                          refine Tp_gd (ti_b (by omega) (by omega)) ?_
                          refine Tp_le (fun t729 E730 => ?_)
                          have ci731 := NI_p2 ci613 E730 rfl (by omega) (by omega)
                          have i732 := ti_rg x1
                          first | (have a733 : (x1 + (1 : Int32)).toInt = (x1).toInt + ((1 : Int32)).toInt := ti_add (by omega) (by omega)) | (have a734 := ti_rg (x1 + (1 : Int32)))
                          first | (have a735 : (x4 + (1 : Int32)).toInt = (x4).toInt + ((1 : Int32)).toInt := ti_add (by omega) (by omega)) | (have a736 := ti_rg (x4 + (1 : Int32)))
                          have b737 := NI_g21 ci731 (c := 0) (p := 48) rfl
                          have e738 : (mz_gI t729 0 48).toInt = (mz_gI q606 0 48).toInt := by rw [E730, gI_oth _ _ (by simp)]
                          have b739 := NI_g22 ci731 (c := 0) (p := 51) rfl
                          have e740 : (mz_gI t729 0 51).toInt = (mz_gI q606 0 51).toInt := by rw [E730, gI_oth _ _ (by simp)]
                          have b741 := NI_13 ci731 (c := 0) (p := 60) rfl
                          exact ih (x1 + (1 : Int32)) (x2 - (1 : Int32)) (x4 + (1 : Int32)) (x4 + (1 : Int32)) t729 ci731 (by omega) (by omega) (by omega) (by omega) (by omega) (by omega) (by omega) (by omega) (by omega) (by omega) (by omega) (by omega) (by omega)
                    · have g742 := ti_nq h686
                      have l743 : ((41 : Int32)).toInt = 41 := rfl
                      unfold f_MO_readTexts_141
                      refine Tp_if (fun h744 => ?_) (fun h744 => ?_)
                      · have g745 := ti_q h744
                        unfold f_MO_readTexts_158
                        unfold f_MO_readTexts_159
                        have l746 : ((0 : Int32)).toInt = 0 := rfl
                        refine Tp_gd (ti_b (by omega) (by omega)) ?_
                        refine Tp_le (fun t747 E748 => ?_)
                        have ci749 := NI_p2 ci613 E748 rfl (by omega) (by omega)
                        have i750 := ti_rg x1
                        first | (have a751 : (x1 + (1 : Int32)).toInt = (x1).toInt + ((1 : Int32)).toInt := ti_add (by omega) (by omega)) | (have a752 := ti_rg (x1 + (1 : Int32)))
                        first | (have a753 : (x4 + (1 : Int32)).toInt = (x4).toInt + ((1 : Int32)).toInt := ti_add (by omega) (by omega)) | (have a754 := ti_rg (x4 + (1 : Int32)))
                        have b755 := NI_g21 ci749 (c := 0) (p := 48) rfl
                        have e756 : (mz_gI t747 0 48).toInt = (mz_gI q606 0 48).toInt := by rw [E748, gI_oth _ _ (by simp)]
                        have b757 := NI_g22 ci749 (c := 0) (p := 51) rfl
                        have e758 : (mz_gI t747 0 51).toInt = (mz_gI q606 0 51).toInt := by rw [E748, gI_oth _ _ (by simp)]
                        have b759 := NI_13 ci749 (c := 0) (p := 60) rfl
                        exact ih (x1 + (1 : Int32)) x2 (x4 + (1 : Int32)) (x4 + (1 : Int32)) t747 ci749 (by omega) (by omega) (by omega) (by omega) (by omega) (by omega) (by omega) (by omega) (by omega) (by omega) (by omega) (by omega) (by omega)
                      · have g760 := ti_nq h744
                        refine Tp_if (fun h761 => ?_) (fun h761 => ?_)
                        · have g762 := ti_l h761
                          unfold f_MO_readTexts_158
                          unfold f_MO_readTexts_159
                          have l763 : ((0 : Int32)).toInt = 0 := rfl
                          refine Tp_gd (ti_b (by omega) (by omega)) ?_
                          refine Tp_le (fun t764 E765 => ?_)
                          have ci766 := NI_p2 ci613 E765 rfl (by omega) (by omega)
                          have i767 := ti_rg x1
                          first | (have a768 : (x1 + (1 : Int32)).toInt = (x1).toInt + ((1 : Int32)).toInt := ti_add (by omega) (by omega)) | (have a769 := ti_rg (x1 + (1 : Int32)))
                          first | (have a770 : (x4 + (1 : Int32)).toInt = (x4).toInt + ((1 : Int32)).toInt := ti_add (by omega) (by omega)) | (have a771 := ti_rg (x4 + (1 : Int32)))
                          have b772 := NI_g21 ci766 (c := 0) (p := 48) rfl
                          have e773 : (mz_gI t764 0 48).toInt = (mz_gI q606 0 48).toInt := by rw [E765, gI_oth _ _ (by simp)]
                          have b774 := NI_g22 ci766 (c := 0) (p := 51) rfl
                          have e775 : (mz_gI t764 0 51).toInt = (mz_gI q606 0 51).toInt := by rw [E765, gI_oth _ _ (by simp)]
                          have b776 := NI_13 ci766 (c := 0) (p := 60) rfl
                          exact ih (x1 + (1 : Int32)) x2 (x4 + (1 : Int32)) (x4 + (1 : Int32)) t764 ci766 (by omega) (by omega) (by omega) (by omega) (by omega) (by omega) (by omega) (by omega) (by omega) (by omega) (by omega) (by omega) (by omega)
                        · have g777 := ti_nl h761
                          unfold f_MO_readTexts_159
                          refine Tp_gd (ti_b (by omega) (by omega)) ?_
                          refine Tp_le (fun t778 E779 => ?_)
                          have ci780 := NI_p2 ci613 E779 rfl (by omega) (by omega)
                          have i781 := ti_rg x1
                          first | (have a782 : (x1 + (1 : Int32)).toInt = (x1).toInt + ((1 : Int32)).toInt := ti_add (by omega) (by omega)) | (have a783 := ti_rg (x1 + (1 : Int32)))
                          first | (have a784 : (x4 + (1 : Int32)).toInt = (x4).toInt + ((1 : Int32)).toInt := ti_add (by omega) (by omega)) | (have a785 := ti_rg (x4 + (1 : Int32)))
                          have b786 := NI_g21 ci780 (c := 0) (p := 48) rfl
                          have e787 : (mz_gI t778 0 48).toInt = (mz_gI q606 0 48).toInt := by rw [E779, gI_oth _ _ (by simp)]
                          have b788 := NI_g22 ci780 (c := 0) (p := 51) rfl
                          have e789 : (mz_gI t778 0 51).toInt = (mz_gI q606 0 51).toInt := by rw [E779, gI_oth _ _ (by simp)]
                          have b790 := NI_13 ci780 (c := 0) (p := 60) rfl
                          exact ih (x1 + (1 : Int32)) x2 (x4 + (1 : Int32)) (x4 + (1 : Int32)) t778 ci780 (by omega) (by omega) (by omega) (by omega) (by omega) (by omega) (by omega) (by omega) (by omega) (by omega) (by omega) (by omega) (by omega)
                · have g791 := ti_nq h600
                  unfold f_MO_readTexts_95
                  unfold f_MO_readTexts_96
                  have l792 : ((0 : Int32)).toInt = 0 := rfl
                  refine Tp_gd (ti_b (by omega) (by omega)) ?_
                  refine Tp_le (fun t793 E794 => ?_)
                  have l796 : (62 : Int32).toInt = 62 := rfl
                  have ci795 := NI_p2 ci E794 rfl (by omega) (by omega)
                  have i799 := ti_rg x3
                  have b800 := NI_g21 ci795 (c := 0) (p := 48) rfl
                  have e801 : (mz_gI t793 0 48).toInt = (mz_gI t 0 48).toInt := by rw [E794, gI_oth _ _ (by simp)]
                  have b802 := NI_g22 ci795 (c := 0) (p := 51) rfl
                  have e803 : (mz_gI t793 0 51).toInt = (mz_gI t 0 51).toInt := by rw [E794, gI_oth _ _ (by simp)]
                  refine Tp_bi (s_MO_hold hn ci795 (by omega) (by omega) (by omega) (by omega) (by omega) (t := t793) (x1 := x3) (x2 := x4)) (fun q797 h798 => ?_)
                  obtain ⟨ci804, p805, p806, p807, p808, p809⟩ := h798
                  have b810 := NI_g24 ci795 (c := 0) (p := 61) rfl
                  have e811 : (mz_gI t793 0 61).toInt = (mz_gI t 0 61).toInt := by rw [E794, gI_oth _ _ (by simp)]
                  have b812 := NI_g24 ci (c := 0) (p := 61) rfl
                  have b813 := NI_g2 ci795 (c := 0) (p := 62) rfl
                  have e814 : (mz_gI t793 0 62).toInt = ((0 : Int32)).toInt := by rw [E794, gI_same]
                  have b815 := NI_g21 ci804 (c := 0) (p := 48) rfl
                  have b816 := NI_g22 ci804 (c := 0) (p := 51) rfl
                  have b817 := NI_g24 ci804 (c := 0) (p := 61) rfl
                  have b818 := NI_g2 ci804 (c := 0) (p := 62) rfl
                  unfold f_MO_readTexts_114
                  refine Tp_if (fun h819 => ?_) (fun h819 => ?_)
                  · have g820 := ti_q h819
                    have l821 : ((40 : Int32)).toInt = 40 := rfl
                    unfold f_MO_readTexts_141
                    refine Tp_if (fun h822 => ?_) (fun h822 => ?_)
                    · have g823 := ti_q h822
                      unfold f_MO_readTexts_158
                      unfold f_MO_readTexts_159
                      refine Tp_gd (ti_b (by omega) (by omega)) ?_
                      refine Tp_le (fun t824 E825 => ?_)
                      have ci826 := NI_p2 ci804 E825 rfl (by omega) (by omega)
                      have i827 := ti_rg x1
                      first | (have a828 : (x1 + (1 : Int32)).toInt = (x1).toInt + ((1 : Int32)).toInt := ti_add (by omega) (by omega)) | (have a829 := ti_rg (x1 + (1 : Int32)))
                      first | (have a830 : (x2 + (1 : Int32)).toInt = (x2).toInt + ((1 : Int32)).toInt := ti_add (by omega) (by omega)) | (have a831 := ti_rg (x2 + (1 : Int32)))
                      first | (have a832 : (x4 + (1 : Int32)).toInt = (x4).toInt + ((1 : Int32)).toInt := ti_add (by omega) (by omega)) | (have a833 := ti_rg (x4 + (1 : Int32)))
                      have b834 := NI_g21 ci826 (c := 0) (p := 48) rfl
                      have e835 : (mz_gI t824 0 48).toInt = (mz_gI q797 0 48).toInt := by rw [E825, gI_oth _ _ (by simp)]
                      have b836 := NI_g22 ci826 (c := 0) (p := 51) rfl
                      have e837 : (mz_gI t824 0 51).toInt = (mz_gI q797 0 51).toInt := by rw [E825, gI_oth _ _ (by simp)]
                      have b838 := NI_13 ci826 (c := 0) (p := 60) rfl
                      exact ih (x1 + (1 : Int32)) (x2 + (1 : Int32)) (x4 + (1 : Int32)) (x4 + (1 : Int32)) t824 ci826 (by omega) (by omega) (by omega) (by omega) (by omega) (by omega) (by omega) (by omega) (by omega) (by omega) (by omega) (by omega) (by omega)
                    · have g839 := ti_nq h822
                      refine Tp_if (fun h840 => ?_) (fun h840 => ?_)
                      · have g841 := ti_l h840
                        first | (have a842 : (x2 + (1 : Int32)).toInt = (x2).toInt + ((1 : Int32)).toInt := ti_add (by omega) (by omega)) | (have a843 := ti_rg (x2 + (1 : Int32)))
                        unfold f_MO_readTexts_158
                        unfold f_MO_readTexts_159
                        refine Tp_gd (ti_b (by omega) (by omega)) ?_
                        refine Tp_le (fun t844 E845 => ?_)
                        have ci846 := NI_p2 ci804 E845 rfl (by omega) (by omega)
                        have i847 := ti_rg x1
                        first | (have a848 : (x1 + (1 : Int32)).toInt = (x1).toInt + ((1 : Int32)).toInt := ti_add (by omega) (by omega)) | (have a849 := ti_rg (x1 + (1 : Int32)))
                        first | (have a850 : (x4 + (1 : Int32)).toInt = (x4).toInt + ((1 : Int32)).toInt := ti_add (by omega) (by omega)) | (have a851 := ti_rg (x4 + (1 : Int32)))
                        have b852 := NI_g21 ci846 (c := 0) (p := 48) rfl
                        have e853 : (mz_gI t844 0 48).toInt = (mz_gI q797 0 48).toInt := by rw [E845, gI_oth _ _ (by simp)]
                        have b854 := NI_g22 ci846 (c := 0) (p := 51) rfl
                        have e855 : (mz_gI t844 0 51).toInt = (mz_gI q797 0 51).toInt := by rw [E845, gI_oth _ _ (by simp)]
                        have b856 := NI_13 ci846 (c := 0) (p := 60) rfl
                        exact ih (x1 + (1 : Int32)) (x2 + (1 : Int32)) (x4 + (1 : Int32)) (x4 + (1 : Int32)) t844 ci846 (by omega) (by omega) (by omega) (by omega) (by omega) (by omega) (by omega) (by omega) (by omega) (by omega) (by omega) (by omega) (by omega)
                      · have g857 := ti_nl h840
                        first | (have a858 : (x2 + (1 : Int32)).toInt = (x2).toInt + ((1 : Int32)).toInt := ti_add (by omega) (by omega)) | (have a859 := ti_rg (x2 + (1 : Int32)))
                        unfold f_MO_readTexts_159
                        refine Tp_gd (ti_b (by omega) (by omega)) ?_
                        refine Tp_le (fun t860 E861 => ?_)
                        have ci862 := NI_p2 ci804 E861 rfl (by omega) (by omega)
                        have i863 := ti_rg x1
                        first | (have a864 : (x1 + (1 : Int32)).toInt = (x1).toInt + ((1 : Int32)).toInt := ti_add (by omega) (by omega)) | (have a865 := ti_rg (x1 + (1 : Int32)))
                        first | (have a866 : (x4 + (1 : Int32)).toInt = (x4).toInt + ((1 : Int32)).toInt := ti_add (by omega) (by omega)) | (have a867 := ti_rg (x4 + (1 : Int32)))
                        have b868 := NI_g21 ci862 (c := 0) (p := 48) rfl
                        have e869 : (mz_gI t860 0 48).toInt = (mz_gI q797 0 48).toInt := by rw [E861, gI_oth _ _ (by simp)]
                        have b870 := NI_g22 ci862 (c := 0) (p := 51) rfl
                        have e871 : (mz_gI t860 0 51).toInt = (mz_gI q797 0 51).toInt := by rw [E861, gI_oth _ _ (by simp)]
                        have b872 := NI_13 ci862 (c := 0) (p := 60) rfl
                        exact ih (x1 + (1 : Int32)) (x2 + (1 : Int32)) (x4 + (1 : Int32)) (x4 + (1 : Int32)) t860 ci862 (by omega) (by omega) (by omega) (by omega) (by omega) (by omega) (by omega) (by omega) (by omega) (by omega) (by omega) (by omega) (by omega)
                  · have g873 := ti_nq h819
                    have l874 : ((40 : Int32)).toInt = 40 := rfl
                    refine Tp_if (fun h875 => ?_) (fun h875 => ?_)
                    · have g876 := ti_q h875
                      have l877 : ((41 : Int32)).toInt = 41 := rfl
                      unfold f_MO_readTexts_141
                      refine Tp_if (fun h878 => ?_) (fun h878 => ?_)
                      · have g879 := ti_q h878
                        unfold f_MO_readTexts_158
                        unfold f_MO_readTexts_159
                        refine Tp_gd (ti_b (by omega) (by omega)) ?_
                        refine Tp_le (fun t880 E881 => ?_)
                        have ci882 := NI_p2 ci804 E881 rfl (by omega) (by omega)
                        have i883 := ti_rg x1
                        first | (have a884 : (x1 + (1 : Int32)).toInt = (x1).toInt + ((1 : Int32)).toInt := ti_add (by omega) (by omega)) | (have a885 := ti_rg (x1 + (1 : Int32)))
                        first | (have a886 : (x2 - (1 : Int32)).toInt = (x2).toInt - ((1 : Int32)).toInt := ti_sub (by omega) (by omega)) | (have a887 := ti_rg (x2 - (1 : Int32)))
                        first | (have a888 : (x4 + (1 : Int32)).toInt = (x4).toInt + ((1 : Int32)).toInt := ti_add (by omega) (by omega)) | (have a889 := ti_rg (x4 + (1 : Int32)))
                        have b890 := NI_g21 ci882 (c := 0) (p := 48) rfl
                        have e891 : (mz_gI t880 0 48).toInt = (mz_gI q797 0 48).toInt := by rw [E881, gI_oth _ _ (by simp)]
                        have b892 := NI_g22 ci882 (c := 0) (p := 51) rfl
                        have e893 : (mz_gI t880 0 51).toInt = (mz_gI q797 0 51).toInt := by rw [E881, gI_oth _ _ (by simp)]
                        have b894 := NI_13 ci882 (c := 0) (p := 60) rfl
                        exact ih (x1 + (1 : Int32)) (x2 - (1 : Int32)) (x4 + (1 : Int32)) (x4 + (1 : Int32)) t880 ci882 (by omega) (by omega) (by omega) (by omega) (by omega) (by omega) (by omega) (by omega) (by omega) (by omega) (by omega) (by omega) (by omega)
                      · have g895 := ti_nq h878
                        refine Tp_if (fun h896 => ?_) (fun h896 => ?_)
                        · have g897 := ti_l h896
                          first | (have a898 : (x2 - (1 : Int32)).toInt = (x2).toInt - ((1 : Int32)).toInt := ti_sub (by omega) (by omega)) | (have a899 := ti_rg (x2 - (1 : Int32)))
                          unfold f_MO_readTexts_158
                          unfold f_MO_readTexts_159
                          refine Tp_gd (ti_b (by omega) (by omega)) ?_
                          refine Tp_le (fun t900 E901 => ?_)
                          have ci902 := NI_p2 ci804 E901 rfl (by omega) (by omega)
                          have i903 := ti_rg x1
                          first | (have a904 : (x1 + (1 : Int32)).toInt = (x1).toInt + ((1 : Int32)).toInt := ti_add (by omega) (by omega)) | (have a905 := ti_rg (x1 + (1 : Int32)))
                          first | (have a906 : (x4 + (1 : Int32)).toInt = (x4).toInt + ((1 : Int32)).toInt := ti_add (by omega) (by omega)) | (have a907 := ti_rg (x4 + (1 : Int32)))
                          have b908 := NI_g21 ci902 (c := 0) (p := 48) rfl
                          have e909 : (mz_gI t900 0 48).toInt = (mz_gI q797 0 48).toInt := by rw [E901, gI_oth _ _ (by simp)]
                          have b910 := NI_g22 ci902 (c := 0) (p := 51) rfl
                          have e911 : (mz_gI t900 0 51).toInt = (mz_gI q797 0 51).toInt := by rw [E901, gI_oth _ _ (by simp)]
                          have b912 := NI_13 ci902 (c := 0) (p := 60) rfl
                          exact ih (x1 + (1 : Int32)) (x2 - (1 : Int32)) (x4 + (1 : Int32)) (x4 + (1 : Int32)) t900 ci902 (by omega) (by omega) (by omega) (by omega) (by omega) (by omega) (by omega) (by omega) (by omega) (by omega) (by omega) (by omega) (by omega)
                        · have g913 := ti_nl h896
                          first | (have a914 : (x2 - (1 : Int32)).toInt = (x2).toInt - ((1 : Int32)).toInt := ti_sub (by omega) (by omega)) | (have a915 := ti_rg (x2 - (1 : Int32)))
                          unfold f_MO_readTexts_159
                          refine Tp_gd (ti_b (by omega) (by omega)) ?_
                          refine Tp_le (fun t916 E917 => ?_)
                          have ci918 := NI_p2 ci804 E917 rfl (by omega) (by omega)
                          have i919 := ti_rg x1
                          first | (have a920 : (x1 + (1 : Int32)).toInt = (x1).toInt + ((1 : Int32)).toInt := ti_add (by omega) (by omega)) | (have a921 := ti_rg (x1 + (1 : Int32)))
                          first | (have a922 : (x4 + (1 : Int32)).toInt = (x4).toInt + ((1 : Int32)).toInt := ti_add (by omega) (by omega)) | (have a923 := ti_rg (x4 + (1 : Int32)))
                          have b924 := NI_g21 ci918 (c := 0) (p := 48) rfl
                          have e925 : (mz_gI t916 0 48).toInt = (mz_gI q797 0 48).toInt := by rw [E917, gI_oth _ _ (by simp)]
                          have b926 := NI_g22 ci918 (c := 0) (p := 51) rfl
                          have e927 : (mz_gI t916 0 51).toInt = (mz_gI q797 0 51).toInt := by rw [E917, gI_oth _ _ (by simp)]
                          have b928 := NI_13 ci918 (c := 0) (p := 60) rfl
                          exact ih (x1 + (1 : Int32)) (x2 - (1 : Int32)) (x4 + (1 : Int32)) (x4 + (1 : Int32)) t916 ci918 (by omega) (by omega) (by omega) (by omega) (by omega) (by omega) (by omega) (by omega) (by omega) (by omega) (by omega) (by omega) (by omega)
                    · have g929 := ti_nq h875
                      have l930 : ((41 : Int32)).toInt = 41 := rfl
                      unfold f_MO_readTexts_141
                      refine Tp_if (fun h931 => ?_) (fun h931 => ?_)
                      · have g932 := ti_q h931
                        unfold f_MO_readTexts_158
                        unfold f_MO_readTexts_159
                        refine Tp_gd (ti_b (by omega) (by omega)) ?_
                        refine Tp_le (fun t933 E934 => ?_)
                        have ci935 := NI_p2 ci804 E934 rfl (by omega) (by omega)
                        have i936 := ti_rg x1
                        first | (have a937 : (x1 + (1 : Int32)).toInt = (x1).toInt + ((1 : Int32)).toInt := ti_add (by omega) (by omega)) | (have a938 := ti_rg (x1 + (1 : Int32)))
                        first | (have a939 : (x4 + (1 : Int32)).toInt = (x4).toInt + ((1 : Int32)).toInt := ti_add (by omega) (by omega)) | (have a940 := ti_rg (x4 + (1 : Int32)))
                        have b941 := NI_g21 ci935 (c := 0) (p := 48) rfl
                        have e942 : (mz_gI t933 0 48).toInt = (mz_gI q797 0 48).toInt := by rw [E934, gI_oth _ _ (by simp)]
                        have b943 := NI_g22 ci935 (c := 0) (p := 51) rfl
                        have e944 : (mz_gI t933 0 51).toInt = (mz_gI q797 0 51).toInt := by rw [E934, gI_oth _ _ (by simp)]
                        have b945 := NI_13 ci935 (c := 0) (p := 60) rfl
                        exact ih (x1 + (1 : Int32)) x2 (x4 + (1 : Int32)) (x4 + (1 : Int32)) t933 ci935 (by omega) (by omega) (by omega) (by omega) (by omega) (by omega) (by omega) (by omega) (by omega) (by omega) (by omega) (by omega) (by omega)
                      · have g946 := ti_nq h931
                        refine Tp_if (fun h947 => ?_) (fun h947 => ?_)
                        · have g948 := ti_l h947
                          unfold f_MO_readTexts_158
                          unfold f_MO_readTexts_159
                          refine Tp_gd (ti_b (by omega) (by omega)) ?_
                          refine Tp_le (fun t949 E950 => ?_)
                          have ci951 := NI_p2 ci804 E950 rfl (by omega) (by omega)
                          have i952 := ti_rg x1
                          first | (have a953 : (x1 + (1 : Int32)).toInt = (x1).toInt + ((1 : Int32)).toInt := ti_add (by omega) (by omega)) | (have a954 := ti_rg (x1 + (1 : Int32)))
                          first | (have a955 : (x4 + (1 : Int32)).toInt = (x4).toInt + ((1 : Int32)).toInt := ti_add (by omega) (by omega)) | (have a956 := ti_rg (x4 + (1 : Int32)))
                          have b957 := NI_g21 ci951 (c := 0) (p := 48) rfl
                          have e958 : (mz_gI t949 0 48).toInt = (mz_gI q797 0 48).toInt := by rw [E950, gI_oth _ _ (by simp)]
                          have b959 := NI_g22 ci951 (c := 0) (p := 51) rfl
                          have e960 : (mz_gI t949 0 51).toInt = (mz_gI q797 0 51).toInt := by rw [E950, gI_oth _ _ (by simp)]
                          have b961 := NI_13 ci951 (c := 0) (p := 60) rfl
                          exact ih (x1 + (1 : Int32)) x2 (x4 + (1 : Int32)) (x4 + (1 : Int32)) t949 ci951 (by omega) (by omega) (by omega) (by omega) (by omega) (by omega) (by omega) (by omega) (by omega) (by omega) (by omega) (by omega) (by omega)
                        · have g962 := ti_nl h947
                          unfold f_MO_readTexts_159
                          refine Tp_gd (ti_b (by omega) (by omega)) ?_
                          refine Tp_le (fun t963 E964 => ?_)
                          have ci965 := NI_p2 ci804 E964 rfl (by omega) (by omega)
                          have i966 := ti_rg x1
                          first | (have a967 : (x1 + (1 : Int32)).toInt = (x1).toInt + ((1 : Int32)).toInt := ti_add (by omega) (by omega)) | (have a968 := ti_rg (x1 + (1 : Int32)))
                          first | (have a969 : (x4 + (1 : Int32)).toInt = (x4).toInt + ((1 : Int32)).toInt := ti_add (by omega) (by omega)) | (have a970 := ti_rg (x4 + (1 : Int32)))
                          have b971 := NI_g21 ci965 (c := 0) (p := 48) rfl
                          have e972 : (mz_gI t963 0 48).toInt = (mz_gI q797 0 48).toInt := by rw [E964, gI_oth _ _ (by simp)]
                          have b973 := NI_g22 ci965 (c := 0) (p := 51) rfl
                          have e974 : (mz_gI t963 0 51).toInt = (mz_gI q797 0 51).toInt := by rw [E964, gI_oth _ _ (by simp)]
                          have b975 := NI_13 ci965 (c := 0) (p := 60) rfl
                          exact ih (x1 + (1 : Int32)) x2 (x4 + (1 : Int32)) (x4 + (1 : Int32)) t963 ci965 (by omega) (by omega) (by omega) (by omega) (by omega) (by omega) (by omega) (by omega) (by omega) (by omega) (by omega) (by omega) (by omega)
          · have g976 := ti_nq h233
            have i977 := ti_rg x2
            have l978 : (0 : Int32).toInt = 0 := rfl
            refine Tp_if (fun h979 => ?_) (fun h979 => ?_)
            · have g980 := ti_q h979
              unfold f_MO_readTexts_67
              unfold f_MO_readTexts_72
              refine Tp_if (fun h981 => ?_) (fun h981 => ?_)
              · have g982 := ti_q h981
                have l983 : ((1 : Int32)).toInt = 1 := rfl
                unfold f_MO_readTexts_114
                refine Tp_if (fun h984 => ?_) (fun h984 => ?_)
                · have g985 := ti_q h984
                  have l986 : ((40 : Int32)).toInt = 40 := rfl
                  unfold f_MO_readTexts_141
                  refine Tp_if (fun h987 => ?_) (fun h987 => ?_)
                  · have g988 := ti_q h987
                    have b989 := NI_g2 ci (c := 0) (p := 62) rfl
                    unfold f_MO_readTexts_158
                    unfold f_MO_readTexts_159
                    have l990 : ((0 : Int32)).toInt = 0 := rfl
                    refine Tp_gd (ti_b (by omega) (by omega)) ?_
                    refine Tp_le (fun t991 E992 => ?_)
                    have l994 : (62 : Int32).toInt = 62 := rfl
                    have ci993 := NI_p2 ci E992 rfl (by omega) (by omega)
                    have i995 := ti_rg x1
                    first | (have a996 : (x2 + (1 : Int32)).toInt = (x2).toInt + ((1 : Int32)).toInt := ti_add (by omega) (by omega)) | (have a997 := ti_rg (x2 + (1 : Int32)))
                    have i998 := ti_rg x3
                    first | (have a999 : (x4 + (1 : Int32)).toInt = (x4).toInt + ((1 : Int32)).toInt := ti_add (by omega) (by omega)) | (have a1000 := ti_rg (x4 + (1 : Int32)))
                    have b1001 := NI_g21 ci993 (c := 0) (p := 48) rfl
                    have e1002 : (mz_gI t991 0 48).toInt = (mz_gI t 0 48).toInt := by rw [E992, gI_oth _ _ (by simp)]
                    have b1003 := NI_g22 ci993 (c := 0) (p := 51) rfl
                    have e1004 : (mz_gI t991 0 51).toInt = (mz_gI t 0 51).toInt := by rw [E992, gI_oth _ _ (by simp)]
                    have b1005 := NI_13 ci993 (c := 0) (p := 60) rfl
                    exact ih x1 (x2 + (1 : Int32)) x3 (x4 + (1 : Int32)) t991 ci993 (by omega) (by omega) (by omega) (by omega) (by omega) (by omega) (by omega) (by omega) (by omega) (by omega) (by omega) (by omega) (by omega)
                  · have g1006 := ti_nq h987
                    have b1007 := NI_g2 ci (c := 0) (p := 62) rfl
                    refine Tp_if (fun h1008 => ?_) (fun h1008 => ?_)
                    · have g1009 := ti_l h1008
                      first | (have a1010 : (x2 + (1 : Int32)).toInt = (x2).toInt + ((1 : Int32)).toInt := ti_add (by omega) (by omega)) | (have a1011 := ti_rg (x2 + (1 : Int32)))
                      unfold f_MO_readTexts_158
                      unfold f_MO_readTexts_159
                      have l1012 : ((0 : Int32)).toInt = 0 := rfl
                      refine Tp_gd (ti_b (by omega) (by omega)) ?_
                      refine Tp_le (fun t1013 E1014 => ?_)
                      have l1016 : (62 : Int32).toInt = 62 := rfl
                      have ci1015 := NI_p2 ci E1014 rfl (by omega) (by omega)
                      have i1017 := ti_rg x1
                      have i1018 := ti_rg x3
                      first | (have a1019 : (x4 + (1 : Int32)).toInt = (x4).toInt + ((1 : Int32)).toInt := ti_add (by omega) (by omega)) | (have a1020 := ti_rg (x4 + (1 : Int32)))
                      have b1021 := NI_g21 ci1015 (c := 0) (p := 48) rfl
                      have e1022 : (mz_gI t1013 0 48).toInt = (mz_gI t 0 48).toInt := by rw [E1014, gI_oth _ _ (by simp)]
                      have b1023 := NI_g22 ci1015 (c := 0) (p := 51) rfl
                      have e1024 : (mz_gI t1013 0 51).toInt = (mz_gI t 0 51).toInt := by rw [E1014, gI_oth _ _ (by simp)]
                      have b1025 := NI_13 ci1015 (c := 0) (p := 60) rfl
                      exact ih x1 (x2 + (1 : Int32)) x3 (x4 + (1 : Int32)) t1013 ci1015 (by omega) (by omega) (by omega) (by omega) (by omega) (by omega) (by omega) (by omega) (by omega) (by omega) (by omega) (by omega) (by omega)
                    · have g1026 := ti_nl h1008
                      first | (have a1027 : (x2 + (1 : Int32)).toInt = (x2).toInt + ((1 : Int32)).toInt := ti_add (by omega) (by omega)) | (have a1028 := ti_rg (x2 + (1 : Int32)))
                      unfold f_MO_readTexts_159
                      refine Tp_gd (ti_b (by omega) (by omega)) ?_
                      refine Tp_le (fun t1029 E1030 => ?_)
                      have l1032 : (62 : Int32).toInt = 62 := rfl
                      have ci1031 := NI_p2 ci E1030 rfl (by omega) (by omega)
                      have i1033 := ti_rg x1
                      have i1034 := ti_rg x3
                      first | (have a1035 : (x4 + (1 : Int32)).toInt = (x4).toInt + ((1 : Int32)).toInt := ti_add (by omega) (by omega)) | (have a1036 := ti_rg (x4 + (1 : Int32)))
                      have b1037 := NI_g21 ci1031 (c := 0) (p := 48) rfl
                      have e1038 : (mz_gI t1029 0 48).toInt = (mz_gI t 0 48).toInt := by rw [E1030, gI_oth _ _ (by simp)]
                      have b1039 := NI_g22 ci1031 (c := 0) (p := 51) rfl
                      have e1040 : (mz_gI t1029 0 51).toInt = (mz_gI t 0 51).toInt := by rw [E1030, gI_oth _ _ (by simp)]
                      have b1041 := NI_13 ci1031 (c := 0) (p := 60) rfl
                      exact ih x1 (x2 + (1 : Int32)) x3 (x4 + (1 : Int32)) t1029 ci1031 (by omega) (by omega) (by omega) (by omega) (by omega) (by omega) (by omega) (by omega) (by omega) (by omega) (by omega) (by omega) (by omega)
                · have g1042 := ti_nq h984
                  have l1043 : ((40 : Int32)).toInt = 40 := rfl
                  refine Tp_if (fun h1044 => ?_) (fun h1044 => ?_)
                  · have g1045 := ti_q h1044
                    have l1046 : ((41 : Int32)).toInt = 41 := rfl
                    unfold f_MO_readTexts_141
                    refine Tp_if (fun h1047 => ?_) (fun h1047 => ?_)
                    · have g1048 := ti_q h1047
                      have b1049 := NI_g2 ci (c := 0) (p := 62) rfl
                      unfold f_MO_readTexts_158
                      unfold f_MO_readTexts_159
                      have l1050 : ((0 : Int32)).toInt = 0 := rfl
                      refine Tp_gd (ti_b (by omega) (by omega)) ?_
                      refine Tp_le (fun t1051 E1052 => ?_)
                      have l1054 : (62 : Int32).toInt = 62 := rfl
                      have ci1053 := NI_p2 ci E1052 rfl (by omega) (by omega)
                      have i1055 := ti_rg x1
                      first | (have a1056 : (x2 - (1 : Int32)).toInt = (x2).toInt - ((1 : Int32)).toInt := ti_sub (by omega) (by omega)) | (have a1057 := ti_rg (x2 - (1 : Int32)))
                      have i1058 := ti_rg x3
                      first | (have a1059 : (x4 + (1 : Int32)).toInt = (x4).toInt + ((1 : Int32)).toInt := ti_add (by omega) (by omega)) | (have a1060 := ti_rg (x4 + (1 : Int32)))
                      have b1061 := NI_g21 ci1053 (c := 0) (p := 48) rfl
                      have e1062 : (mz_gI t1051 0 48).toInt = (mz_gI t 0 48).toInt := by rw [E1052, gI_oth _ _ (by simp)]
                      have b1063 := NI_g22 ci1053 (c := 0) (p := 51) rfl
                      have e1064 : (mz_gI t1051 0 51).toInt = (mz_gI t 0 51).toInt := by rw [E1052, gI_oth _ _ (by simp)]
                      have b1065 := NI_13 ci1053 (c := 0) (p := 60) rfl
                      exact ih x1 (x2 - (1 : Int32)) x3 (x4 + (1 : Int32)) t1051 ci1053 (by omega) (by omega) (by omega) (by omega) (by omega) (by omega) (by omega) (by omega) (by omega) (by omega) (by omega) (by omega) (by omega)
                    · have g1066 := ti_nq h1047
                      have b1067 := NI_g2 ci (c := 0) (p := 62) rfl
                      refine Tp_if (fun h1068 => ?_) (fun h1068 => ?_)
                      · have g1069 := ti_l h1068
                        first | (have a1070 : (x2 - (1 : Int32)).toInt = (x2).toInt - ((1 : Int32)).toInt := ti_sub (by omega) (by omega)) | (have a1071 := ti_rg (x2 - (1 : Int32)))
                        unfold f_MO_readTexts_158
                        unfold f_MO_readTexts_159
                        have l1072 : ((0 : Int32)).toInt = 0 := rfl
                        refine Tp_gd (ti_b (by omega) (by omega)) ?_
                        refine Tp_le (fun t1073 E1074 => ?_)
                        have l1076 : (62 : Int32).toInt = 62 := rfl
                        have ci1075 := NI_p2 ci E1074 rfl (by omega) (by omega)
                        have i1077 := ti_rg x1
                        have i1078 := ti_rg x3
                        first | (have a1079 : (x4 + (1 : Int32)).toInt = (x4).toInt + ((1 : Int32)).toInt := ti_add (by omega) (by omega)) | (have a1080 := ti_rg (x4 + (1 : Int32)))
                        have b1081 := NI_g21 ci1075 (c := 0) (p := 48) rfl
                        have e1082 : (mz_gI t1073 0 48).toInt = (mz_gI t 0 48).toInt := by rw [E1074, gI_oth _ _ (by simp)]
                        have b1083 := NI_g22 ci1075 (c := 0) (p := 51) rfl
                        have e1084 : (mz_gI t1073 0 51).toInt = (mz_gI t 0 51).toInt := by rw [E1074, gI_oth _ _ (by simp)]
                        have b1085 := NI_13 ci1075 (c := 0) (p := 60) rfl
                        exact ih x1 (x2 - (1 : Int32)) x3 (x4 + (1 : Int32)) t1073 ci1075 (by omega) (by omega) (by omega) (by omega) (by omega) (by omega) (by omega) (by omega) (by omega) (by omega) (by omega) (by omega) (by omega)
                      · have g1086 := ti_nl h1068
                        first | (have a1087 : (x2 - (1 : Int32)).toInt = (x2).toInt - ((1 : Int32)).toInt := ti_sub (by omega) (by omega)) | (have a1088 := ti_rg (x2 - (1 : Int32)))
                        unfold f_MO_readTexts_159
                        refine Tp_gd (ti_b (by omega) (by omega)) ?_
                        refine Tp_le (fun t1089 E1090 => ?_)
                        have l1092 : (62 : Int32).toInt = 62 := rfl
                        have ci1091 := NI_p2 ci E1090 rfl (by omega) (by omega)
                        have i1093 := ti_rg x1
                        have i1094 := ti_rg x3
                        first | (have a1095 : (x4 + (1 : Int32)).toInt = (x4).toInt + ((1 : Int32)).toInt := ti_add (by omega) (by omega)) | (have a1096 := ti_rg (x4 + (1 : Int32)))
                        have b1097 := NI_g21 ci1091 (c := 0) (p := 48) rfl
                        have e1098 : (mz_gI t1089 0 48).toInt = (mz_gI t 0 48).toInt := by rw [E1090, gI_oth _ _ (by simp)]
                        have b1099 := NI_g22 ci1091 (c := 0) (p := 51) rfl
                        have e1100 : (mz_gI t1089 0 51).toInt = (mz_gI t 0 51).toInt := by rw [E1090, gI_oth _ _ (by simp)]
                        have b1101 := NI_13 ci1091 (c := 0) (p := 60) rfl
                        exact ih x1 (x2 - (1 : Int32)) x3 (x4 + (1 : Int32)) t1089 ci1091 (by omega) (by omega) (by omega) (by omega) (by omega) (by omega) (by omega) (by omega) (by omega) (by omega) (by omega) (by omega) (by omega)
                  · have g1102 := ti_nq h1044
                    have l1103 : ((41 : Int32)).toInt = 41 := rfl
                    unfold f_MO_readTexts_141
                    refine Tp_if (fun h1104 => ?_) (fun h1104 => ?_)
                    · have g1105 := ti_q h1104
                      have b1106 := NI_g2 ci (c := 0) (p := 62) rfl
                      unfold f_MO_readTexts_158
                      unfold f_MO_readTexts_159
                      have l1107 : ((0 : Int32)).toInt = 0 := rfl
                      refine Tp_gd (ti_b (by omega) (by omega)) ?_
                      refine Tp_le (fun t1108 E1109 => ?_)
                      have l1111 : (62 : Int32).toInt = 62 := rfl
                      have ci1110 := NI_p2 ci E1109 rfl (by omega) (by omega)
                      have i1112 := ti_rg x1
                      have i1113 := ti_rg x3
                      first | (have a1114 : (x4 + (1 : Int32)).toInt = (x4).toInt + ((1 : Int32)).toInt := ti_add (by omega) (by omega)) | (have a1115 := ti_rg (x4 + (1 : Int32)))
                      have b1116 := NI_g21 ci1110 (c := 0) (p := 48) rfl
                      have e1117 : (mz_gI t1108 0 48).toInt = (mz_gI t 0 48).toInt := by rw [E1109, gI_oth _ _ (by simp)]
                      have b1118 := NI_g22 ci1110 (c := 0) (p := 51) rfl
                      have e1119 : (mz_gI t1108 0 51).toInt = (mz_gI t 0 51).toInt := by rw [E1109, gI_oth _ _ (by simp)]
                      have b1120 := NI_13 ci1110 (c := 0) (p := 60) rfl
                      exact ih x1 x2 x3 (x4 + (1 : Int32)) t1108 ci1110 (by omega) (by omega) (by omega) (by omega) (by omega) (by omega) (by omega) (by omega) (by omega) (by omega) (by omega) (by omega) (by omega)
                    · have g1121 := ti_nq h1104
                      have b1122 := NI_g2 ci (c := 0) (p := 62) rfl
                      refine Tp_if (fun h1123 => ?_) (fun h1123 => ?_)
                      · have g1124 := ti_l h1123
                        unfold f_MO_readTexts_158
                        unfold f_MO_readTexts_159
                        have l1125 : ((0 : Int32)).toInt = 0 := rfl
                        refine Tp_gd (ti_b (by omega) (by omega)) ?_
                        refine Tp_le (fun t1126 E1127 => ?_)
                        have l1129 : (62 : Int32).toInt = 62 := rfl
                        have ci1128 := NI_p2 ci E1127 rfl (by omega) (by omega)
                        have i1130 := ti_rg x1
                        have i1131 := ti_rg x3
                        first | (have a1132 : (x4 + (1 : Int32)).toInt = (x4).toInt + ((1 : Int32)).toInt := ti_add (by omega) (by omega)) | (have a1133 := ti_rg (x4 + (1 : Int32)))
                        have b1134 := NI_g21 ci1128 (c := 0) (p := 48) rfl
                        have e1135 : (mz_gI t1126 0 48).toInt = (mz_gI t 0 48).toInt := by rw [E1127, gI_oth _ _ (by simp)]
                        have b1136 := NI_g22 ci1128 (c := 0) (p := 51) rfl
                        have e1137 : (mz_gI t1126 0 51).toInt = (mz_gI t 0 51).toInt := by rw [E1127, gI_oth _ _ (by simp)]
                        have b1138 := NI_13 ci1128 (c := 0) (p := 60) rfl
                        exact ih x1 x2 x3 (x4 + (1 : Int32)) t1126 ci1128 (by omega) (by omega) (by omega) (by omega) (by omega) (by omega) (by omega) (by omega) (by omega) (by omega) (by omega) (by omega) (by omega)
                      · have g1139 := ti_nl h1123
                        unfold f_MO_readTexts_159
                        refine Tp_gd (ti_b (by omega) (by omega)) ?_
                        refine Tp_le (fun t1140 E1141 => ?_)
                        have l1143 : (62 : Int32).toInt = 62 := rfl
                        have ci1142 := NI_p2 ci E1141 rfl (by omega) (by omega)
                        have i1144 := ti_rg x1
                        have i1145 := ti_rg x3
                        first | (have a1146 : (x4 + (1 : Int32)).toInt = (x4).toInt + ((1 : Int32)).toInt := ti_add (by omega) (by omega)) | (have a1147 := ti_rg (x4 + (1 : Int32)))
                        have b1148 := NI_g21 ci1142 (c := 0) (p := 48) rfl
                        have e1149 : (mz_gI t1140 0 48).toInt = (mz_gI t 0 48).toInt := by rw [E1141, gI_oth _ _ (by simp)]
                        have b1150 := NI_g22 ci1142 (c := 0) (p := 51) rfl
                        have e1151 : (mz_gI t1140 0 51).toInt = (mz_gI t 0 51).toInt := by rw [E1141, gI_oth _ _ (by simp)]
                        have b1152 := NI_13 ci1142 (c := 0) (p := 60) rfl
                        exact ih x1 x2 x3 (x4 + (1 : Int32)) t1140 ci1142 (by omega) (by omega) (by omega) (by omega) (by omega) (by omega) (by omega) (by omega) (by omega) (by omega) (by omega) (by omega) (by omega)
              · have g1153 := ti_nq h981
                have l1154 : ((1 : Int32)).toInt = 1 := rfl
                refine Tp_if (fun h1155 => ?_) (fun h1155 => ?_)
                · have g1156 := ti_q h1155
                  have b1157 := NI_g2 ci (c := 0) (p := 62) rfl
                  unfold f_MO_readTexts_95
                  unfold f_MO_readTexts_96
                  have l1158 : ((0 : Int32)).toInt = 0 := rfl
                  refine Tp_gd (ti_b (by omega) (by omega)) ?_
                  refine Tp_le (fun t1159 E1160 => ?_)
                  have l1162 : (62 : Int32).toInt = 62 := rfl
                  have ci1161 := NI_p2 ci E1160 rfl (by omega) (by omega)
                  have i1165 := ti_rg x3
                  have b1166 := NI_g21 ci1161 (c := 0) (p := 48) rfl
                  have e1167 : (mz_gI t1159 0 48).toInt = (mz_gI t 0 48).toInt := by rw [E1160, gI_oth _ _ (by simp)]
                  have b1168 := NI_g22 ci1161 (c := 0) (p := 51) rfl
                  have e1169 : (mz_gI t1159 0 51).toInt = (mz_gI t 0 51).toInt := by rw [E1160, gI_oth _ _ (by simp)]
                  refine Tp_bi (s_MO_hold hn ci1161 (by omega) (by omega) (by omega) (by omega) (by omega) (t := t1159) (x1 := x3) (x2 := x4)) (fun q1163 h1164 => ?_)
                  obtain ⟨ci1170, p1171, p1172, p1173, p1174, p1175⟩ := h1164
                  have b1176 := NI_g24 ci1161 (c := 0) (p := 61) rfl
                  have e1177 : (mz_gI t1159 0 61).toInt = (mz_gI t 0 61).toInt := by rw [E1160, gI_oth _ _ (by simp)]
                  have b1178 := NI_g24 ci (c := 0) (p := 61) rfl
                  have b1179 := NI_g2 ci1161 (c := 0) (p := 62) rfl
                  have e1180 : (mz_gI t1159 0 62).toInt = ((0 : Int32)).toInt := by rw [E1160, gI_same]
                  have b1181 := NI_g21 ci1170 (c := 0) (p := 48) rfl
                  have b1182 := NI_g22 ci1170 (c := 0) (p := 51) rfl
                  have b1183 := NI_g24 ci1170 (c := 0) (p := 61) rfl
                  have b1184 := NI_g2 ci1170 (c := 0) (p := 62) rfl
                  unfold f_MO_readTexts_114
                  refine Tp_if (fun h1185 => ?_) (fun h1185 => ?_)
                  · have g1186 := ti_q h1185
                    have l1187 : ((40 : Int32)).toInt = 40 := rfl
                    unfold f_MO_readTexts_141
                    refine Tp_if (fun h1188 => ?_) (fun h1188 => ?_)
                    · have g1189 := ti_q h1188
                      unfold f_MO_readTexts_158
                      unfold f_MO_readTexts_159
                      refine Tp_gd (ti_b (by omega) (by omega)) ?_
                      refine Tp_le (fun t1190 E1191 => ?_)
                      have ci1192 := NI_p2 ci1170 E1191 rfl (by omega) (by omega)
                      have i1193 := ti_rg x1
                      first | (have a1194 : (x1 + (1 : Int32)).toInt = (x1).toInt + ((1 : Int32)).toInt := ti_add (by omega) (by omega)) | (have a1195 := ti_rg (x1 + (1 : Int32)))
                      first | (have a1196 : (x2 + (1 : Int32)).toInt = (x2).toInt + ((1 : Int32)).toInt := ti_add (by omega) (by omega)) | (have a1197 := ti_rg (x2 + (1 : Int32)))
                      first | (have a1198 : (x4 + (1 : Int32)).toInt = (x4).toInt + ((1 : Int32)).toInt := ti_add (by omega) (by omega)) | (have a1199 := ti_rg (x4 + (1 : Int32)))
                      have b1200 := NI_g21 ci1192 (c := 0) (p := 48) rfl
                      have e1201 : (mz_gI t1190 0 48).toInt = (mz_gI q1163 0 48).toInt := by rw [E1191, gI_oth _ _ (by simp)]
                      have b1202 := NI_g22 ci1192 (c := 0) (p := 51) rfl
                      have e1203 : (mz_gI t1190 0 51).toInt = (mz_gI q1163 0 51).toInt := by rw [E1191, gI_oth _ _ (by simp)]
                      have b1204 := NI_13 ci1192 (c := 0) (p := 60) rfl
                      exact ih (x1 + (1 : Int32)) (x2 + (1 : Int32)) (x4 + (1 : Int32)) (x4 + (1 : Int32)) t1190 ci1192 (by omega) (by omega) (by omega) (by omega) (by omega) (by omega) (by omega) (by omega) (by omega) (by omega) (by omega) (by omega) (by omega)
                    · have g1205 := ti_nq h1188
                      refine Tp_if (fun h1206 => ?_) (fun h1206 => ?_)
                      · have g1207 := ti_l h1206
                        first | (have a1208 : (x2 + (1 : Int32)).toInt = (x2).toInt + ((1 : Int32)).toInt := ti_add (by omega) (by omega)) | (have a1209 := ti_rg (x2 + (1 : Int32)))
                        unfold f_MO_readTexts_158
                        unfold f_MO_readTexts_159
                        refine Tp_gd (ti_b (by omega) (by omega)) ?_
                        refine Tp_le (fun t1210 E1211 => ?_)
                        have ci1212 := NI_p2 ci1170 E1211 rfl (by omega) (by omega)
                        have i1213 := ti_rg x1
                        first | (have a1214 : (x1 + (1 : Int32)).toInt = (x1).toInt + ((1 : Int32)).toInt := ti_add (by omega) (by omega)) | (have a1215 := ti_rg (x1 + (1 : Int32)))
                        first | (have a1216 : (x4 + (1 : Int32)).toInt = (x4).toInt + ((1 : Int32)).toInt := ti_add (by omega) (by omega)) | (have a1217 := ti_rg (x4 + (1 : Int32)))
                        have b1218 := NI_g21 ci1212 (c := 0) (p := 48) rfl
                        have e1219 : (mz_gI t1210 0 48).toInt = (mz_gI q1163 0 48).toInt := by rw [E1211, gI_oth _ _ (by simp)]
                        have b1220 := NI_g22 ci1212 (c := 0) (p := 51) rfl
                        have e1221 : (mz_gI t1210 0 51).toInt = (mz_gI q1163 0 51).toInt := by rw [E1211, gI_oth _ _ (by simp)]
                        have b1222 := NI_13 ci1212 (c := 0) (p := 60) rfl
                        exact ih (x1 + (1 : Int32)) (x2 + (1 : Int32)) (x4 + (1 : Int32)) (x4 + (1 : Int32)) t1210 ci1212 (by omega) (by omega) (by omega) (by omega) (by omega) (by omega) (by omega) (by omega) (by omega) (by omega) (by omega) (by omega) (by omega)
                      · have g1223 := ti_nl h1206
                        first | (have a1224 : (x2 + (1 : Int32)).toInt = (x2).toInt + ((1 : Int32)).toInt := ti_add (by omega) (by omega)) | (have a1225 := ti_rg (x2 + (1 : Int32)))
                        unfold f_MO_readTexts_159
                        refine Tp_gd (ti_b (by omega) (by omega)) ?_
                        refine Tp_le (fun t1226 E1227 => ?_)
                        have ci1228 := NI_p2 ci1170 E1227 rfl (by omega) (by omega)
                        have i1229 := ti_rg x1
                        first | (have a1230 : (x1 + (1 : Int32)).toInt = (x1).toInt + ((1 : Int32)).toInt := ti_add (by omega) (by omega)) | (have a1231 := ti_rg (x1 + (1 : Int32)))
                        first | (have a1232 : (x4 + (1 : Int32)).toInt = (x4).toInt + ((1 : Int32)).toInt := ti_add (by omega) (by omega)) | (have a1233 := ti_rg (x4 + (1 : Int32)))
                        have b1234 := NI_g21 ci1228 (c := 0) (p := 48) rfl
                        have e1235 : (mz_gI t1226 0 48).toInt = (mz_gI q1163 0 48).toInt := by rw [E1227, gI_oth _ _ (by simp)]
                        have b1236 := NI_g22 ci1228 (c := 0) (p := 51) rfl
                        have e1237 : (mz_gI t1226 0 51).toInt = (mz_gI q1163 0 51).toInt := by rw [E1227, gI_oth _ _ (by simp)]
                        have b1238 := NI_13 ci1228 (c := 0) (p := 60) rfl
                        exact ih (x1 + (1 : Int32)) (x2 + (1 : Int32)) (x4 + (1 : Int32)) (x4 + (1 : Int32)) t1226 ci1228 (by omega) (by omega) (by omega) (by omega) (by omega) (by omega) (by omega) (by omega) (by omega) (by omega) (by omega) (by omega) (by omega)
                  · have g1239 := ti_nq h1185
                    have l1240 : ((40 : Int32)).toInt = 40 := rfl
                    refine Tp_if (fun h1241 => ?_) (fun h1241 => ?_)
                    · have g1242 := ti_q h1241
                      have l1243 : ((41 : Int32)).toInt = 41 := rfl
                      unfold f_MO_readTexts_141
                      refine Tp_if (fun h1244 => ?_) (fun h1244 => ?_)
                      · have g1245 := ti_q h1244
                        unfold f_MO_readTexts_158
                        unfold f_MO_readTexts_159
                        refine Tp_gd (ti_b (by omega) (by omega)) ?_
                        refine Tp_le (fun t1246 E1247 => ?_)
                        have ci1248 := NI_p2 ci1170 E1247 rfl (by omega) (by omega)
                        have i1249 := ti_rg x1
                        first | (have a1250 : (x1 + (1 : Int32)).toInt = (x1).toInt + ((1 : Int32)).toInt := ti_add (by omega) (by omega)) | (have a1251 := ti_rg (x1 + (1 : Int32)))
                        first | (have a1252 : (x2 - (1 : Int32)).toInt = (x2).toInt - ((1 : Int32)).toInt := ti_sub (by omega) (by omega)) | (have a1253 := ti_rg (x2 - (1 : Int32)))
                        first | (have a1254 : (x4 + (1 : Int32)).toInt = (x4).toInt + ((1 : Int32)).toInt := ti_add (by omega) (by omega)) | (have a1255 := ti_rg (x4 + (1 : Int32)))
                        have b1256 := NI_g21 ci1248 (c := 0) (p := 48) rfl
                        have e1257 : (mz_gI t1246 0 48).toInt = (mz_gI q1163 0 48).toInt := by rw [E1247, gI_oth _ _ (by simp)]
                        have b1258 := NI_g22 ci1248 (c := 0) (p := 51) rfl
                        have e1259 : (mz_gI t1246 0 51).toInt = (mz_gI q1163 0 51).toInt := by rw [E1247, gI_oth _ _ (by simp)]
                        have b1260 := NI_13 ci1248 (c := 0) (p := 60) rfl
                        exact ih (x1 + (1 : Int32)) (x2 - (1 : Int32)) (x4 + (1 : Int32)) (x4 + (1 : Int32)) t1246 ci1248 (by omega) (by omega) (by omega) (by omega) (by omega) (by omega) (by omega) (by omega) (by omega) (by omega) (by omega) (by omega) (by omega)
                      · have g1261 := ti_nq h1244
                        refine Tp_if (fun h1262 => ?_) (fun h1262 => ?_)
                        · have g1263 := ti_l h1262
                          first | (have a1264 : (x2 - (1 : Int32)).toInt = (x2).toInt - ((1 : Int32)).toInt := ti_sub (by omega) (by omega)) | (have a1265 := ti_rg (x2 - (1 : Int32)))
                          unfold f_MO_readTexts_158
                          unfold f_MO_readTexts_159
                          refine Tp_gd (ti_b (by omega) (by omega)) ?_
                          refine Tp_le (fun t1266 E1267 => ?_)
                          have ci1268 := NI_p2 ci1170 E1267 rfl (by omega) (by omega)
                          have i1269 := ti_rg x1
                          first | (have a1270 : (x1 + (1 : Int32)).toInt = (x1).toInt + ((1 : Int32)).toInt := ti_add (by omega) (by omega)) | (have a1271 := ti_rg (x1 + (1 : Int32)))
                          first | (have a1272 : (x4 + (1 : Int32)).toInt = (x4).toInt + ((1 : Int32)).toInt := ti_add (by omega) (by omega)) | (have a1273 := ti_rg (x4 + (1 : Int32)))
                          have b1274 := NI_g21 ci1268 (c := 0) (p := 48) rfl
                          have e1275 : (mz_gI t1266 0 48).toInt = (mz_gI q1163 0 48).toInt := by rw [E1267, gI_oth _ _ (by simp)]
                          have b1276 := NI_g22 ci1268 (c := 0) (p := 51) rfl
                          have e1277 : (mz_gI t1266 0 51).toInt = (mz_gI q1163 0 51).toInt := by rw [E1267, gI_oth _ _ (by simp)]
                          have b1278 := NI_13 ci1268 (c := 0) (p := 60) rfl
                          exact ih (x1 + (1 : Int32)) (x2 - (1 : Int32)) (x4 + (1 : Int32)) (x4 + (1 : Int32)) t1266 ci1268 (by omega) (by omega) (by omega) (by omega) (by omega) (by omega) (by omega) (by omega) (by omega) (by omega) (by omega) (by omega) (by omega)
                        · have g1279 := ti_nl h1262
                          first | (have a1280 : (x2 - (1 : Int32)).toInt = (x2).toInt - ((1 : Int32)).toInt := ti_sub (by omega) (by omega)) | (have a1281 := ti_rg (x2 - (1 : Int32)))
                          unfold f_MO_readTexts_159
                          refine Tp_gd (ti_b (by omega) (by omega)) ?_
                          refine Tp_le (fun t1282 E1283 => ?_)
                          have ci1284 := NI_p2 ci1170 E1283 rfl (by omega) (by omega)
                          have i1285 := ti_rg x1
                          first | (have a1286 : (x1 + (1 : Int32)).toInt = (x1).toInt + ((1 : Int32)).toInt := ti_add (by omega) (by omega)) | (have a1287 := ti_rg (x1 + (1 : Int32)))
                          first | (have a1288 : (x4 + (1 : Int32)).toInt = (x4).toInt + ((1 : Int32)).toInt := ti_add (by omega) (by omega)) | (have a1289 := ti_rg (x4 + (1 : Int32)))
                          have b1290 := NI_g21 ci1284 (c := 0) (p := 48) rfl
                          have e1291 : (mz_gI t1282 0 48).toInt = (mz_gI q1163 0 48).toInt := by rw [E1283, gI_oth _ _ (by simp)]
                          have b1292 := NI_g22 ci1284 (c := 0) (p := 51) rfl
                          have e1293 : (mz_gI t1282 0 51).toInt = (mz_gI q1163 0 51).toInt := by rw [E1283, gI_oth _ _ (by simp)]
                          have b1294 := NI_13 ci1284 (c := 0) (p := 60) rfl
                          exact ih (x1 + (1 : Int32)) (x2 - (1 : Int32)) (x4 + (1 : Int32)) (x4 + (1 : Int32)) t1282 ci1284 (by omega) (by omega) (by omega) (by omega) (by omega) (by omega) (by omega) (by omega) (by omega) (by omega) (by omega) (by omega) (by omega)
                    · have g1295 := ti_nq h1241
                      have l1296 : ((41 : Int32)).toInt = 41 := rfl
                      unfold f_MO_readTexts_141
                      refine Tp_if (fun h1297 => ?_) (fun h1297 => ?_)
                      · have g1298 := ti_q h1297
                        unfold f_MO_readTexts_158
                        unfold f_MO_readTexts_159
                        refine Tp_gd (ti_b (by omega) (by omega)) ?_
                        refine Tp_le (fun t1299 E1300 => ?_)
                        have ci1301 := NI_p2 ci1170 E1300 rfl (by omega) (by omega)
                        have i1302 := ti_rg x1
                        first | (have a1303 : (x1 + (1 : Int32)).toInt = (x1).toInt + ((1 : Int32)).toInt := ti_add (by omega) (by omega)) | (have a1304 := ti_rg (x1 + (1 : Int32)))
                        first | (have a1305 : (x4 + (1 : Int32)).toInt = (x4).toInt + ((1 : Int32)).toInt := ti_add (by omega) (by omega)) | (have a1306 := ti_rg (x4 + (1 : Int32)))
                        have b1307 := NI_g21 ci1301 (c := 0) (p := 48) rfl
                        have e1308 : (mz_gI t1299 0 48).toInt = (mz_gI q1163 0 48).toInt := by rw [E1300, gI_oth _ _ (by simp)]
                        have b1309 := NI_g22 ci1301 (c := 0) (p := 51) rfl
                        have e1310 : (mz_gI t1299 0 51).toInt = (mz_gI q1163 0 51).toInt := by rw [E1300, gI_oth _ _ (by simp)]
                        have b1311 := NI_13 ci1301 (c := 0) (p := 60) rfl
                        exact ih (x1 + (1 : Int32)) x2 (x4 + (1 : Int32)) (x4 + (1 : Int32)) t1299 ci1301 (by omega) (by omega) (by omega) (by omega) (by omega) (by omega) (by omega) (by omega) (by omega) (by omega) (by omega) (by omega) (by omega)
                      · have g1312 := ti_nq h1297
                        refine Tp_if (fun h1313 => ?_) (fun h1313 => ?_)
                        · have g1314 := ti_l h1313
                          unfold f_MO_readTexts_158
                          unfold f_MO_readTexts_159
                          refine Tp_gd (ti_b (by omega) (by omega)) ?_
                          refine Tp_le (fun t1315 E1316 => ?_)
                          have ci1317 := NI_p2 ci1170 E1316 rfl (by omega) (by omega)
                          have i1318 := ti_rg x1
                          first | (have a1319 : (x1 + (1 : Int32)).toInt = (x1).toInt + ((1 : Int32)).toInt := ti_add (by omega) (by omega)) | (have a1320 := ti_rg (x1 + (1 : Int32)))
                          first | (have a1321 : (x4 + (1 : Int32)).toInt = (x4).toInt + ((1 : Int32)).toInt := ti_add (by omega) (by omega)) | (have a1322 := ti_rg (x4 + (1 : Int32)))
                          have b1323 := NI_g21 ci1317 (c := 0) (p := 48) rfl
                          have e1324 : (mz_gI t1315 0 48).toInt = (mz_gI q1163 0 48).toInt := by rw [E1316, gI_oth _ _ (by simp)]
                          have b1325 := NI_g22 ci1317 (c := 0) (p := 51) rfl
                          have e1326 : (mz_gI t1315 0 51).toInt = (mz_gI q1163 0 51).toInt := by rw [E1316, gI_oth _ _ (by simp)]
                          have b1327 := NI_13 ci1317 (c := 0) (p := 60) rfl
                          exact ih (x1 + (1 : Int32)) x2 (x4 + (1 : Int32)) (x4 + (1 : Int32)) t1315 ci1317 (by omega) (by omega) (by omega) (by omega) (by omega) (by omega) (by omega) (by omega) (by omega) (by omega) (by omega) (by omega) (by omega)
                        · have g1328 := ti_nl h1313
                          unfold f_MO_readTexts_159
                          refine Tp_gd (ti_b (by omega) (by omega)) ?_
                          refine Tp_le (fun t1329 E1330 => ?_)
                          have ci1331 := NI_p2 ci1170 E1330 rfl (by omega) (by omega)
                          have i1332 := ti_rg x1
                          first | (have a1333 : (x1 + (1 : Int32)).toInt = (x1).toInt + ((1 : Int32)).toInt := ti_add (by omega) (by omega)) | (have a1334 := ti_rg (x1 + (1 : Int32)))
                          first | (have a1335 : (x4 + (1 : Int32)).toInt = (x4).toInt + ((1 : Int32)).toInt := ti_add (by omega) (by omega)) | (have a1336 := ti_rg (x4 + (1 : Int32)))
                          have b1337 := NI_g21 ci1331 (c := 0) (p := 48) rfl
                          have e1338 : (mz_gI t1329 0 48).toInt = (mz_gI q1163 0 48).toInt := by rw [E1330, gI_oth _ _ (by simp)]
                          have b1339 := NI_g22 ci1331 (c := 0) (p := 51) rfl
                          have e1340 : (mz_gI t1329 0 51).toInt = (mz_gI q1163 0 51).toInt := by rw [E1330, gI_oth _ _ (by simp)]
                          have b1341 := NI_13 ci1331 (c := 0) (p := 60) rfl
                          exact ih (x1 + (1 : Int32)) x2 (x4 + (1 : Int32)) (x4 + (1 : Int32)) t1329 ci1331 (by omega) (by omega) (by omega) (by omega) (by omega) (by omega) (by omega) (by omega) (by omega) (by omega) (by omega) (by omega) (by omega)
                · have g1342 := ti_nq h1155
                  have b1343 := NI_g2 ci (c := 0) (p := 62) rfl
                  refine Tp_if (fun h1344 => ?_) (fun h1344 => ?_)
                  · have g1345 := ti_q h1344
                    unfold f_MO_readTexts_96
                    refine Tp_gd (ti_b (by omega) (by omega)) ?_
                    refine Tp_le (fun t1346 E1347 => ?_)
                    have l1349 : (62 : Int32).toInt = 62 := rfl
                    have ci1348 := NI_p2 ci E1347 rfl (by omega) (by omega)
                    have i1352 := ti_rg x3
                    have b1353 := NI_g21 ci1348 (c := 0) (p := 48) rfl
                    have e1354 : (mz_gI t1346 0 48).toInt = (mz_gI t 0 48).toInt := by rw [E1347, gI_oth _ _ (by simp)]
                    have b1355 := NI_g22 ci1348 (c := 0) (p := 51) rfl
                    have e1356 : (mz_gI t1346 0 51).toInt = (mz_gI t 0 51).toInt := by rw [E1347, gI_oth _ _ (by simp)]
                    refine Tp_bi (s_MO_hold hn ci1348 (by omega) (by omega) (by omega) (by omega) (by omega) (t := t1346) (x1 := x3) (x2 := x4)) (fun q1350 h1351 => ?_)
                    obtain ⟨ci1357, p1358, p1359, p1360, p1361, p1362⟩ := h1351
                    have b1363 := NI_g24 ci1348 (c := 0) (p := 61) rfl
                    have e1364 : (mz_gI t1346 0 61).toInt = (mz_gI t 0 61).toInt := by rw [E1347, gI_oth _ _ (by simp)]
                    have b1365 := NI_g24 ci (c := 0) (p := 61) rfl
                    have b1366 := NI_g2 ci1348 (c := 0) (p := 62) rfl
                    have e1367 : (mz_gI t1346 0 62).toInt = ((1 : Int32)).toInt := by rw [E1347, gI_same]
                    have b1368 := NI_g21 ci1357 (c := 0) (p := 48) rfl
                    have b1369 := NI_g22 ci1357 (c := 0) (p := 51) rfl
                    have b1370 := NI_g24 ci1357 (c := 0) (p := 61) rfl
                    have b1371 := NI_g2 ci1357 (c := 0) (p := 62) rfl
                    unfold f_MO_readTexts_114
                    refine Tp_if (fun h1372 => ?_) (fun h1372 => ?_)
                    · have g1373 := ti_q h1372
                      have l1374 : ((40 : Int32)).toInt = 40 := rfl
                      unfold f_MO_readTexts_141
                      refine Tp_if (fun h1375 => ?_) (fun h1375 => ?_)
                      · have g1376 := ti_q h1375
                        unfold f_MO_readTexts_158
                        unfold f_MO_readTexts_159
                        have l1377 : ((0 : Int32)).toInt = 0 := rfl
                        refine Tp_gd (ti_b (by omega) (by omega)) ?_
                        refine Tp_le (fun t1378 E1379 => ?_)
                        have ci1380 := NI_p2 ci1357 E1379 rfl (by omega) (by omega)
                        have i1381 := ti_rg x1
                        first | (have a1382 : (x1 + (1 : Int32)).toInt = (x1).toInt + ((1 : Int32)).toInt := ti_add (by omega) (by omega)) | (have a1383 := ti_rg (x1 + (1 : Int32)))
                        first | (have a1384 : (x2 + (1 : Int32)).toInt = (x2).toInt + ((1 : Int32)).toInt := ti_add (by omega) (by omega)) | (have a1385 := ti_rg (x2 + (1 : Int32)))
                        first | (have a1386 : (x4 + (1 : Int32)).toInt = (x4).toInt + ((1 : Int32)).toInt := ti_add (by omega) (by omega)) | (have a1387 := ti_rg (x4 + (1 : Int32)))
                        have b1388 := NI_g21 ci1380 (c := 0) (p := 48) rfl
                        have e1389 : (mz_gI t1378 0 48).toInt = (mz_gI q1350 0 48).toInt := by rw [E1379, gI_oth _ _ (by simp)]
                        have b1390 := NI_g22 ci1380 (c := 0) (p := 51) rfl
                        have e1391 : (mz_gI t1378 0 51).toInt = (mz_gI q1350 0 51).toInt := by rw [E1379, gI_oth _ _ (by simp)]
                        have b1392 := NI_13 ci1380 (c := 0) (p := 60) rfl
                        exact ih (x1 + (1 : Int32)) (x2 + (1 : Int32)) (x4 + (1 : Int32)) (x4 + (1 : Int32)) t1378 ci1380 (by omega) (by omega) (by omega) (by omega) (by omega) (by omega) (by omega) (by omega) (by omega) (by omega) (by omega) (by omega) (by omega)
                      · have g1393 := ti_nq h1375
                        refine Tp_if (fun h1394 => ?_) (fun h1394 => ?_)
                        · have g1395 := ti_l h1394
                          first | (have a1396 : (x2 + (1 : Int32)).toInt = (x2).toInt + ((1 : Int32)).toInt := ti_add (by omega) (by omega)) | (have a1397 := ti_rg (x2 + (1 : Int32)))
                          unfold f_MO_readTexts_158
                          unfold f_MO_readTexts_159
                          have l1398 : ((0 : Int32)).toInt = 0 := rfl
                          refine Tp_gd (ti_b (by omega) (by omega)) ?_
                          refine Tp_le (fun t1399 E1400 => ?_)
                          have ci1401 := NI_p2 ci1357 E1400 rfl (by omega) (by omega)
                          have i1402 := ti_rg x1
                          first | (have a1403 : (x1 + (1 : Int32)).toInt = (x1).toInt + ((1 : Int32)).toInt := ti_add (by omega) (by omega)) | (have a1404 := ti_rg (x1 + (1 : Int32)))
                          first | (have a1405 : (x4 + (1 : Int32)).toInt = (x4).toInt + ((1 : Int32)).toInt := ti_add (by omega) (by omega)) | (have a1406 := ti_rg (x4 + (1 : Int32)))
                          have b1407 := NI_g21 ci1401 (c := 0) (p := 48) rfl
                          have e1408 : (mz_gI t1399 0 48).toInt = (mz_gI q1350 0 48).toInt := by rw [E1400, gI_oth _ _ (by simp)]
                          have b1409 := NI_g22 ci1401 (c := 0) (p := 51) rfl
                          have e1410 : (mz_gI t1399 0 51).toInt = (mz_gI q1350 0 51).toInt := by rw [E1400, gI_oth _ _ (by simp)]
                          have b1411 := NI_13 ci1401 (c := 0) (p := 60) rfl
                          exact ih (x1 + (1 : Int32)) (x2 + (1 : Int32)) (x4 + (1 : Int32)) (x4 + (1 : Int32)) t1399 ci1401 (by omega) (by omega) (by omega) (by omega) (by omega) (by omega) (by omega) (by omega) (by omega) (by omega) (by omega) (by omega) (by omega)
                        · have g1412 := ti_nl h1394
                          first | (have a1413 : (x2 + (1 : Int32)).toInt = (x2).toInt + ((1 : Int32)).toInt := ti_add (by omega) (by omega)) | (have a1414 := ti_rg (x2 + (1 : Int32)))
                          unfold f_MO_readTexts_159
                          refine Tp_gd (ti_b (by omega) (by omega)) ?_
                          refine Tp_le (fun t1415 E1416 => ?_)
                          have ci1417 := NI_p2 ci1357 E1416 rfl (by omega) (by omega)
                          have i1418 := ti_rg x1
                          first | (have a1419 : (x1 + (1 : Int32)).toInt = (x1).toInt + ((1 : Int32)).toInt := ti_add (by omega) (by omega)) | (have a1420 := ti_rg (x1 + (1 : Int32)))
                          first | (have a1421 : (x4 + (1 : Int32)).toInt = (x4).toInt + ((1 : Int32)).toInt := ti_add (by omega) (by omega)) | (have a1422 := ti_rg (x4 + (1 : Int32)))
                          have b1423 := NI_g21 ci1417 (c := 0) (p := 48) rfl
                          have e1424 : (mz_gI t1415 0 48).toInt = (mz_gI q1350 0 48).toInt := by rw [E1416, gI_oth _ _ (by simp)]
                          have b1425 := NI_g22 ci1417 (c := 0) (p := 51) rfl
                          have e1426 : (mz_gI t1415 0 51).toInt = (mz_gI q1350 0 51).toInt := by rw [E1416, gI_oth _ _ (by simp)]
                          have b1427 := NI_13 ci1417 (c := 0) (p := 60) rfl
                          exact ih (x1 + (1 : Int32)) (x2 + (1 : Int32)) (x4 + (1 : Int32)) (x4 + (1 : Int32)) t1415 ci1417 (by omega) (by omega) (by omega) (by omega) (by omega) (by omega) (by omega) (by omega) (by omega) (by omega) (by omega) (by omega) (by omega)
                    · have g1428 := ti_nq h1372
                      have l1429 : ((40 : Int32)).toInt = 40 := rfl
                      refine Tp_if (fun h1430 => ?_) (fun h1430 => ?_)
                      · have g1431 := ti_q h1430
                        have l1432 : ((41 : Int32)).toInt = 41 := rfl
                        unfold f_MO_readTexts_141
                        refine Tp_if (fun h1433 => ?_) (fun h1433 => ?_)
                        · have g1434 := ti_q h1433
                          unfold f_MO_readTexts_158
                          unfold f_MO_readTexts_159
                          have l1435 : ((0 : Int32)).toInt = 0 := rfl
                          refine Tp_gd (ti_b (by omega) (by omega)) ?_
                          refine Tp_le (fun t1436 E1437 => ?_)
                          have ci1438 := NI_p2 ci1357 E1437 rfl (by omega) (by omega)
                          have i1439 := ti_rg x1
                          first | (have a1440 : (x1 + (1 : Int32)).toInt = (x1).toInt + ((1 : Int32)).toInt := ti_add (by omega) (by omega)) | (have a1441 := ti_rg (x1 + (1 : Int32)))
                          first | (have a1442 : (x2 - (1 : Int32)).toInt = (x2).toInt - ((1 : Int32)).toInt := ti_sub (by omega) (by omega)) | (have a1443 := ti_rg (x2 - (1 : Int32)))
                          first | (have a1444 : (x4 + (1 : Int32)).toInt = (x4).toInt + ((1 : Int32)).toInt := ti_add (by omega) (by omega)) | (have a1445 := ti_rg (x4 + (1 : Int32)))
                          have b1446 := NI_g21 ci1438 (c := 0) (p := 48) rfl
                          have e1447 : (mz_gI t1436 0 48).toInt = (mz_gI q1350 0 48).toInt := by rw [E1437, gI_oth _ _ (by simp)]
                          have b1448 := NI_g22 ci1438 (c := 0) (p := 51) rfl
                          have e1449 : (mz_gI t1436 0 51).toInt = (mz_gI q1350 0 51).toInt := by rw [E1437, gI_oth _ _ (by simp)]
                          have b1450 := NI_13 ci1438 (c := 0) (p := 60) rfl
                          exact ih (x1 + (1 : Int32)) (x2 - (1 : Int32)) (x4 + (1 : Int32)) (x4 + (1 : Int32)) t1436 ci1438 (by omega) (by omega) (by omega) (by omega) (by omega) (by omega) (by omega) (by omega) (by omega) (by omega) (by omega) (by omega) (by omega)
                        · have g1451 := ti_nq h1433
                          refine Tp_if (fun h1452 => ?_) (fun h1452 => ?_)
                          · have g1453 := ti_l h1452
                            first | (have a1454 : (x2 - (1 : Int32)).toInt = (x2).toInt - ((1 : Int32)).toInt := ti_sub (by omega) (by omega)) | (have a1455 := ti_rg (x2 - (1 : Int32)))
                            unfold f_MO_readTexts_158
                            unfold f_MO_readTexts_159
                            have l1456 : ((0 : Int32)).toInt = 0 := rfl
                            refine Tp_gd (ti_b (by omega) (by omega)) ?_
                            refine Tp_le (fun t1457 E1458 => ?_)
                            have ci1459 := NI_p2 ci1357 E1458 rfl (by omega) (by omega)
                            have i1460 := ti_rg x1
                            first | (have a1461 : (x1 + (1 : Int32)).toInt = (x1).toInt + ((1 : Int32)).toInt := ti_add (by omega) (by omega)) | (have a1462 := ti_rg (x1 + (1 : Int32)))
                            first | (have a1463 : (x4 + (1 : Int32)).toInt = (x4).toInt + ((1 : Int32)).toInt := ti_add (by omega) (by omega)) | (have a1464 := ti_rg (x4 + (1 : Int32)))
                            have b1465 := NI_g21 ci1459 (c := 0) (p := 48) rfl
                            have e1466 : (mz_gI t1457 0 48).toInt = (mz_gI q1350 0 48).toInt := by rw [E1458, gI_oth _ _ (by simp)]
                            have b1467 := NI_g22 ci1459 (c := 0) (p := 51) rfl
                            have e1468 : (mz_gI t1457 0 51).toInt = (mz_gI q1350 0 51).toInt := by rw [E1458, gI_oth _ _ (by simp)]
                            have b1469 := NI_13 ci1459 (c := 0) (p := 60) rfl
                            exact ih (x1 + (1 : Int32)) (x2 - (1 : Int32)) (x4 + (1 : Int32)) (x4 + (1 : Int32)) t1457 ci1459 (by omega) (by omega) (by omega) (by omega) (by omega) (by omega) (by omega) (by omega) (by omega) (by omega) (by omega) (by omega) (by omega)
                          · have g1470 := ti_nl h1452
                            first | (have a1471 : (x2 - (1 : Int32)).toInt = (x2).toInt - ((1 : Int32)).toInt := ti_sub (by omega) (by omega)) | (have a1472 := ti_rg (x2 - (1 : Int32)))
                            unfold f_MO_readTexts_159
                            refine Tp_gd (ti_b (by omega) (by omega)) ?_
                            refine Tp_le (fun t1473 E1474 => ?_)
                            have ci1475 := NI_p2 ci1357 E1474 rfl (by omega) (by omega)
                            have i1476 := ti_rg x1
                            first | (have a1477 : (x1 + (1 : Int32)).toInt = (x1).toInt + ((1 : Int32)).toInt := ti_add (by omega) (by omega)) | (have a1478 := ti_rg (x1 + (1 : Int32)))
                            first | (have a1479 : (x4 + (1 : Int32)).toInt = (x4).toInt + ((1 : Int32)).toInt := ti_add (by omega) (by omega)) | (have a1480 := ti_rg (x4 + (1 : Int32)))
                            have b1481 := NI_g21 ci1475 (c := 0) (p := 48) rfl
                            have e1482 : (mz_gI t1473 0 48).toInt = (mz_gI q1350 0 48).toInt := by rw [E1474, gI_oth _ _ (by simp)]
                            have b1483 := NI_g22 ci1475 (c := 0) (p := 51) rfl
                            have e1484 : (mz_gI t1473 0 51).toInt = (mz_gI q1350 0 51).toInt := by rw [E1474, gI_oth _ _ (by simp)]
                            have b1485 := NI_13 ci1475 (c := 0) (p := 60) rfl
                            exact ih (x1 + (1 : Int32)) (x2 - (1 : Int32)) (x4 + (1 : Int32)) (x4 + (1 : Int32)) t1473 ci1475 (by omega) (by omega) (by omega) (by omega) (by omega) (by omega) (by omega) (by omega) (by omega) (by omega) (by omega) (by omega) (by omega)
                      · have g1486 := ti_nq h1430
                        have l1487 : ((41 : Int32)).toInt = 41 := rfl
                        unfold f_MO_readTexts_141
                        refine Tp_if (fun h1488 => ?_) (fun h1488 => ?_)
                        · have g1489 := ti_q h1488
                          unfold f_MO_readTexts_158
                          unfold f_MO_readTexts_159
                          have l1490 : ((0 : Int32)).toInt = 0 := rfl
                          refine Tp_gd (ti_b (by omega) (by omega)) ?_
                          refine Tp_le (fun t1491 E1492 => ?_)
                          have ci1493 := NI_p2 ci1357 E1492 rfl (by omega) (by omega)
                          have i1494 := ti_rg x1
                          first | (have a1495 : (x1 + (1 : Int32)).toInt = (x1).toInt + ((1 : Int32)).toInt := ti_add (by omega) (by omega)) | (have a1496 := ti_rg (x1 + (1 : Int32)))
                          first | (have a1497 : (x4 + (1 : Int32)).toInt = (x4).toInt + ((1 : Int32)).toInt := ti_add (by omega) (by omega)) | (have a1498 := ti_rg (x4 + (1 : Int32)))
                          have b1499 := NI_g21 ci1493 (c := 0) (p := 48) rfl
                          have e1500 : (mz_gI t1491 0 48).toInt = (mz_gI q1350 0 48).toInt := by rw [E1492, gI_oth _ _ (by simp)]
                          have b1501 := NI_g22 ci1493 (c := 0) (p := 51) rfl
                          have e1502 : (mz_gI t1491 0 51).toInt = (mz_gI q1350 0 51).toInt := by rw [E1492, gI_oth _ _ (by simp)]
                          have b1503 := NI_13 ci1493 (c := 0) (p := 60) rfl
                          exact ih (x1 + (1 : Int32)) x2 (x4 + (1 : Int32)) (x4 + (1 : Int32)) t1491 ci1493 (by omega) (by omega) (by omega) (by omega) (by omega) (by omega) (by omega) (by omega) (by omega) (by omega) (by omega) (by omega) (by omega)
                        · have g1504 := ti_nq h1488
                          refine Tp_if (fun h1505 => ?_) (fun h1505 => ?_)
                          · have g1506 := ti_l h1505
                            unfold f_MO_readTexts_158
                            unfold f_MO_readTexts_159
                            have l1507 : ((0 : Int32)).toInt = 0 := rfl
                            refine Tp_gd (ti_b (by omega) (by omega)) ?_
                            refine Tp_le (fun t1508 E1509 => ?_)
                            have ci1510 := NI_p2 ci1357 E1509 rfl (by omega) (by omega)
                            have i1511 := ti_rg x1
                            first | (have a1512 : (x1 + (1 : Int32)).toInt = (x1).toInt + ((1 : Int32)).toInt := ti_add (by omega) (by omega)) | (have a1513 := ti_rg (x1 + (1 : Int32)))
                            first | (have a1514 : (x4 + (1 : Int32)).toInt = (x4).toInt + ((1 : Int32)).toInt := ti_add (by omega) (by omega)) | (have a1515 := ti_rg (x4 + (1 : Int32)))
                            have b1516 := NI_g21 ci1510 (c := 0) (p := 48) rfl
                            have e1517 : (mz_gI t1508 0 48).toInt = (mz_gI q1350 0 48).toInt := by rw [E1509, gI_oth _ _ (by simp)]
                            have b1518 := NI_g22 ci1510 (c := 0) (p := 51) rfl
                            have e1519 : (mz_gI t1508 0 51).toInt = (mz_gI q1350 0 51).toInt := by rw [E1509, gI_oth _ _ (by simp)]
                            have b1520 := NI_13 ci1510 (c := 0) (p := 60) rfl
                            exact ih (x1 + (1 : Int32)) x2 (x4 + (1 : Int32)) (x4 + (1 : Int32)) t1508 ci1510 (by omega) (by omega) (by omega) (by omega) (by omega) (by omega) (by omega) (by omega) (by omega) (by omega) (by omega) (by omega) (by omega)
                          · have g1521 := ti_nl h1505
                            unfold f_MO_readTexts_159
                            refine Tp_gd (ti_b (by omega) (by omega)) ?_
                            refine Tp_le (fun t1522 E1523 => ?_)
                            have ci1524 := NI_p2 ci1357 E1523 rfl (by omega) (by omega)
                            have i1525 := ti_rg x1
                            first | (have a1526 : (x1 + (1 : Int32)).toInt = (x1).toInt + ((1 : Int32)).toInt := ti_add (by omega) (by omega)) | (have a1527 := ti_rg (x1 + (1 : Int32)))
                            first | (have a1528 : (x4 + (1 : Int32)).toInt = (x4).toInt + ((1 : Int32)).toInt := ti_add (by omega) (by omega)) | (have a1529 := ti_rg (x4 + (1 : Int32)))
                            have b1530 := NI_g21 ci1524 (c := 0) (p := 48) rfl
                            have e1531 : (mz_gI t1522 0 48).toInt = (mz_gI q1350 0 48).toInt := by rw [E1523, gI_oth _ _ (by simp)]
                            have b1532 := NI_g22 ci1524 (c := 0) (p := 51) rfl
                            have e1533 : (mz_gI t1522 0 51).toInt = (mz_gI q1350 0 51).toInt := by rw [E1523, gI_oth _ _ (by simp)]
                            have b1534 := NI_13 ci1524 (c := 0) (p := 60) rfl
                            exact ih (x1 + (1 : Int32)) x2 (x4 + (1 : Int32)) (x4 + (1 : Int32)) t1522 ci1524 (by omega) (by omega) (by omega) (by omega) (by omega) (by omega) (by omega) (by omega) (by omega) (by omega) (by omega) (by omega) (by omega)
                  · have g1535 := ti_nq h1344
                    unfold f_MO_readTexts_95
                    unfold f_MO_readTexts_96
                    have l1536 : ((0 : Int32)).toInt = 0 := rfl
                    refine Tp_gd (ti_b (by omega) (by omega)) ?_
                    refine Tp_le (fun t1537 E1538 => ?_)
                    have l1540 : (62 : Int32).toInt = 62 := rfl
                    have ci1539 := NI_p2 ci E1538 rfl (by omega) (by omega)
                    have i1543 := ti_rg x3
                    have b1544 := NI_g21 ci1539 (c := 0) (p := 48) rfl
                    have e1545 : (mz_gI t1537 0 48).toInt = (mz_gI t 0 48).toInt := by rw [E1538, gI_oth _ _ (by simp)]
                    have b1546 := NI_g22 ci1539 (c := 0) (p := 51) rfl
                    have e1547 : (mz_gI t1537 0 51).toInt = (mz_gI t 0 51).toInt := by rw [E1538, gI_oth _ _ (by simp)]
                    refine Tp_bi (s_MO_hold hn ci1539 (by omega) (by omega) (by omega) (by omega) (by omega) (t := t1537) (x1 := x3) (x2 := x4)) (fun q1541 h1542 => ?_)
                    obtain ⟨ci1548, p1549, p1550, p1551, p1552, p1553⟩ := h1542
                    have b1554 := NI_g24 ci1539 (c := 0) (p := 61) rfl
                    have e1555 : (mz_gI t1537 0 61).toInt = (mz_gI t 0 61).toInt := by rw [E1538, gI_oth _ _ (by simp)]
                    have b1556 := NI_g24 ci (c := 0) (p := 61) rfl
                    have b1557 := NI_g2 ci1539 (c := 0) (p := 62) rfl
                    have e1558 : (mz_gI t1537 0 62).toInt = ((0 : Int32)).toInt := by rw [E1538, gI_same]
                    have b1559 := NI_g21 ci1548 (c := 0) (p := 48) rfl
                    have b1560 := NI_g22 ci1548 (c := 0) (p := 51) rfl
                    have b1561 := NI_g24 ci1548 (c := 0) (p := 61) rfl
                    have b1562 := NI_g2 ci1548 (c := 0) (p := 62) rfl
                    unfold f_MO_readTexts_114
                    refine Tp_if (fun h1563 => ?_) (fun h1563 => ?_)
                    · have g1564 := ti_q h1563
                      have l1565 : ((40 : Int32)).toInt = 40 := rfl
                      unfold f_MO_readTexts_141
                      refine Tp_if (fun h1566 => ?_) (fun h1566 => ?_)
                      · have g1567 := ti_q h1566
                        unfold f_MO_readTexts_158
                        unfold f_MO_readTexts_159
                        refine Tp_gd (ti_b (by omega) (by omega)) ?_
                        refine Tp_le (fun t1568 E1569 => ?_)
                        have ci1570 := NI_p2 ci1548 E1569 rfl (by omega) (by omega)
                        have i1571 := ti_rg x1
                        first | (have a1572 : (x1 + (1 : Int32)).toInt = (x1).toInt + ((1 : Int32)).toInt := ti_add (by omega) (by omega)) | (have a1573 := ti_rg (x1 + (1 : Int32)))
                        first | (have a1574 : (x2 + (1 : Int32)).toInt = (x2).toInt + ((1 : Int32)).toInt := ti_add (by omega) (by omega)) | (have a1575 := ti_rg (x2 + (1 : Int32)))
                        first | (have a1576 : (x4 + (1 : Int32)).toInt = (x4).toInt + ((1 : Int32)).toInt := ti_add (by omega) (by omega)) | (have a1577 := ti_rg (x4 + (1 : Int32)))
                        have b1578 := NI_g21 ci1570 (c := 0) (p := 48) rfl
                        have e1579 : (mz_gI t1568 0 48).toInt = (mz_gI q1541 0 48).toInt := by rw [E1569, gI_oth _ _ (by simp)]
                        have b1580 := NI_g22 ci1570 (c := 0) (p := 51) rfl
                        have e1581 : (mz_gI t1568 0 51).toInt = (mz_gI q1541 0 51).toInt := by rw [E1569, gI_oth _ _ (by simp)]
                        have b1582 := NI_13 ci1570 (c := 0) (p := 60) rfl
                        exact ih (x1 + (1 : Int32)) (x2 + (1 : Int32)) (x4 + (1 : Int32)) (x4 + (1 : Int32)) t1568 ci1570 (by omega) (by omega) (by omega) (by omega) (by omega) (by omega) (by omega) (by omega) (by omega) (by omega) (by omega) (by omega) (by omega)
                      · have g1583 := ti_nq h1566
                        refine Tp_if (fun h1584 => ?_) (fun h1584 => ?_)
                        · have g1585 := ti_l h1584
                          first | (have a1586 : (x2 + (1 : Int32)).toInt = (x2).toInt + ((1 : Int32)).toInt := ti_add (by omega) (by omega)) | (have a1587 := ti_rg (x2 + (1 : Int32)))
                          unfold f_MO_readTexts_158
                          unfold f_MO_readTexts_159
                          refine Tp_gd (ti_b (by omega) (by omega)) ?_
                          refine Tp_le (fun t1588 E1589 => ?_)
                          have ci1590 := NI_p2 ci1548 E1589 rfl (by omega) (by omega)
                          have i1591 := ti_rg x1
                          first | (have a1592 : (x1 + (1 : Int32)).toInt = (x1).toInt + ((1 : Int32)).toInt := ti_add (by omega) (by omega)) | (have a1593 := ti_rg (x1 + (1 : Int32)))
                          first | (have a1594 : (x4 + (1 : Int32)).toInt = (x4).toInt + ((1 : Int32)).toInt := ti_add (by omega) (by omega)) | (have a1595 := ti_rg (x4 + (1 : Int32)))
                          have b1596 := NI_g21 ci1590 (c := 0) (p := 48) rfl
                          have e1597 : (mz_gI t1588 0 48).toInt = (mz_gI q1541 0 48).toInt := by rw [E1589, gI_oth _ _ (by simp)]
                          have b1598 := NI_g22 ci1590 (c := 0) (p := 51) rfl
                          have e1599 : (mz_gI t1588 0 51).toInt = (mz_gI q1541 0 51).toInt := by rw [E1589, gI_oth _ _ (by simp)]
                          have b1600 := NI_13 ci1590 (c := 0) (p := 60) rfl
                          exact ih (x1 + (1 : Int32)) (x2 + (1 : Int32)) (x4 + (1 : Int32)) (x4 + (1 : Int32)) t1588 ci1590 (by omega) (by omega) (by omega) (by omega) (by omega) (by omega) (by omega) (by omega) (by omega) (by omega) (by omega) (by omega) (by omega)
                        · have g1601 := ti_nl h1584
                          first | (have a1602 : (x2 + (1 : Int32)).toInt = (x2).toInt + ((1 : Int32)).toInt := ti_add (by omega) (by omega)) | (have a1603 := ti_rg (x2 + (1 : Int32)))
                          unfold f_MO_readTexts_159
                          refine Tp_gd (ti_b (by omega) (by omega)) ?_
                          refine Tp_le (fun t1604 E1605 => ?_)
                          have ci1606 := NI_p2 ci1548 E1605 rfl (by omega) (by omega)
                          have i1607 := ti_rg x1
                          first | (have a1608 : (x1 + (1 : Int32)).toInt = (x1).toInt + ((1 : Int32)).toInt := ti_add (by omega) (by omega)) | (have a1609 := ti_rg (x1 + (1 : Int32)))
                          first | (have a1610 : (x4 + (1 : Int32)).toInt = (x4).toInt + ((1 : Int32)).toInt := ti_add (by omega) (by omega)) | (have a1611 := ti_rg (x4 + (1 : Int32)))
                          have b1612 := NI_g21 ci1606 (c := 0) (p := 48) rfl
                          have e1613 : (mz_gI t1604 0 48).toInt = (mz_gI q1541 0 48).toInt := by rw [E1605, gI_oth _ _ (by simp)]
                          have b1614 := NI_g22 ci1606 (c := 0) (p := 51) rfl
                          have e1615 : (mz_gI t1604 0 51).toInt = (mz_gI q1541 0 51).toInt := by rw [E1605, gI_oth _ _ (by simp)]
                          have b1616 := NI_13 ci1606 (c := 0) (p := 60) rfl
                          exact ih (x1 + (1 : Int32)) (x2 + (1 : Int32)) (x4 + (1 : Int32)) (x4 + (1 : Int32)) t1604 ci1606 (by omega) (by omega) (by omega) (by omega) (by omega) (by omega) (by omega) (by omega) (by omega) (by omega) (by omega) (by omega) (by omega)
                    · have g1617 := ti_nq h1563
                      have l1618 : ((40 : Int32)).toInt = 40 := rfl
                      refine Tp_if (fun h1619 => ?_) (fun h1619 => ?_)
                      · have g1620 := ti_q h1619
                        have l1621 : ((41 : Int32)).toInt = 41 := rfl
                        unfold f_MO_readTexts_141
                        refine Tp_if (fun h1622 => ?_) (fun h1622 => ?_)
                        · have g1623 := ti_q h1622
                          unfold f_MO_readTexts_158
                          unfold f_MO_readTexts_159
                          refine Tp_gd (ti_b (by omega) (by omega)) ?_
                          refine Tp_le (fun t1624 E1625 => ?_)
                          have ci1626 := NI_p2 ci1548 E1625 rfl (by omega) (by omega)
                          have i1627 := ti_rg x1
                          first | (have a1628 : (x1 + (1 : Int32)).toInt = (x1).toInt + ((1 : Int32)).toInt := ti_add (by omega) (by omega)) | (have a1629 := ti_rg (x1 + (1 : Int32)))
                          first | (have a1630 : (x2 - (1 : Int32)).toInt = (x2).toInt - ((1 : Int32)).toInt := ti_sub (by omega) (by omega)) | (have a1631 := ti_rg (x2 - (1 : Int32)))
                          first | (have a1632 : (x4 + (1 : Int32)).toInt = (x4).toInt + ((1 : Int32)).toInt := ti_add (by omega) (by omega)) | (have a1633 := ti_rg (x4 + (1 : Int32)))
                          have b1634 := NI_g21 ci1626 (c := 0) (p := 48) rfl
                          have e1635 : (mz_gI t1624 0 48).toInt = (mz_gI q1541 0 48).toInt := by rw [E1625, gI_oth _ _ (by simp)]
                          have b1636 := NI_g22 ci1626 (c := 0) (p := 51) rfl
                          have e1637 : (mz_gI t1624 0 51).toInt = (mz_gI q1541 0 51).toInt := by rw [E1625, gI_oth _ _ (by simp)]
                          have b1638 := NI_13 ci1626 (c := 0) (p := 60) rfl
                          exact ih (x1 + (1 : Int32)) (x2 - (1 : Int32)) (x4 + (1 : Int32)) (x4 + (1 : Int32)) t1624 ci1626 (by omega) (by omega) (by omega) (by omega) (by omega) (by omega) (by omega) (by omega) (by omega) (by omega) (by omega) (by omega) (by omega)
                        · have g1639 := ti_nq h1622
                          refine Tp_if (fun h1640 => ?_) (fun h1640 => ?_)
                          · have g1641 := ti_l h1640
                            first | (have a1642 : (x2 - (1 : Int32)).toInt = (x2).toInt - ((1 : Int32)).toInt := ti_sub (by omega) (by omega)) | (have a1643 := ti_rg (x2 - (1 : Int32)))
                            unfold f_MO_readTexts_158
                            unfold f_MO_readTexts_159
                            refine Tp_gd (ti_b (by omega) (by omega)) ?_
                            refine Tp_le (fun t1644 E1645 => ?_)
                            have ci1646 := NI_p2 ci1548 E1645 rfl (by omega) (by omega)
                            have i1647 := ti_rg x1
                            first | (have a1648 : (x1 + (1 : Int32)).toInt = (x1).toInt + ((1 : Int32)).toInt := ti_add (by omega) (by omega)) | (have a1649 := ti_rg (x1 + (1 : Int32)))
                            first | (have a1650 : (x4 + (1 : Int32)).toInt = (x4).toInt + ((1 : Int32)).toInt := ti_add (by omega) (by omega)) | (have a1651 := ti_rg (x4 + (1 : Int32)))
                            have b1652 := NI_g21 ci1646 (c := 0) (p := 48) rfl
                            have e1653 : (mz_gI t1644 0 48).toInt = (mz_gI q1541 0 48).toInt := by rw [E1645, gI_oth _ _ (by simp)]
                            have b1654 := NI_g22 ci1646 (c := 0) (p := 51) rfl
                            have e1655 : (mz_gI t1644 0 51).toInt = (mz_gI q1541 0 51).toInt := by rw [E1645, gI_oth _ _ (by simp)]
                            have b1656 := NI_13 ci1646 (c := 0) (p := 60) rfl
                            exact ih (x1 + (1 : Int32)) (x2 - (1 : Int32)) (x4 + (1 : Int32)) (x4 + (1 : Int32)) t1644 ci1646 (by omega) (by omega) (by omega) (by omega) (by omega) (by omega) (by omega) (by omega) (by omega) (by omega) (by omega) (by omega) (by omega)
                          · have g1657 := ti_nl h1640
                            first | (have a1658 : (x2 - (1 : Int32)).toInt = (x2).toInt - ((1 : Int32)).toInt := ti_sub (by omega) (by omega)) | (have a1659 := ti_rg (x2 - (1 : Int32)))
                            unfold f_MO_readTexts_159
                            refine Tp_gd (ti_b (by omega) (by omega)) ?_
                            refine Tp_le (fun t1660 E1661 => ?_)
                            have ci1662 := NI_p2 ci1548 E1661 rfl (by omega) (by omega)
                            have i1663 := ti_rg x1
                            first | (have a1664 : (x1 + (1 : Int32)).toInt = (x1).toInt + ((1 : Int32)).toInt := ti_add (by omega) (by omega)) | (have a1665 := ti_rg (x1 + (1 : Int32)))
                            first | (have a1666 : (x4 + (1 : Int32)).toInt = (x4).toInt + ((1 : Int32)).toInt := ti_add (by omega) (by omega)) | (have a1667 := ti_rg (x4 + (1 : Int32)))
                            have b1668 := NI_g21 ci1662 (c := 0) (p := 48) rfl
                            have e1669 : (mz_gI t1660 0 48).toInt = (mz_gI q1541 0 48).toInt := by rw [E1661, gI_oth _ _ (by simp)]
                            have b1670 := NI_g22 ci1662 (c := 0) (p := 51) rfl
                            have e1671 : (mz_gI t1660 0 51).toInt = (mz_gI q1541 0 51).toInt := by rw [E1661, gI_oth _ _ (by simp)]
                            have b1672 := NI_13 ci1662 (c := 0) (p := 60) rfl
                            exact ih (x1 + (1 : Int32)) (x2 - (1 : Int32)) (x4 + (1 : Int32)) (x4 + (1 : Int32)) t1660 ci1662 (by omega) (by omega) (by omega) (by omega) (by omega) (by omega) (by omega) (by omega) (by omega) (by omega) (by omega) (by omega) (by omega)
                      · have g1673 := ti_nq h1619
                        have l1674 : ((41 : Int32)).toInt = 41 := rfl
                        unfold f_MO_readTexts_141
                        refine Tp_if (fun h1675 => ?_) (fun h1675 => ?_)
                        · have g1676 := ti_q h1675
                          unfold f_MO_readTexts_158
                          unfold f_MO_readTexts_159
                          refine Tp_gd (ti_b (by omega) (by omega)) ?_
                          refine Tp_le (fun t1677 E1678 => ?_)
                          have ci1679 := NI_p2 ci1548 E1678 rfl (by omega) (by omega)
                          have i1680 := ti_rg x1
                          first | (have a1681 : (x1 + (1 : Int32)).toInt = (x1).toInt + ((1 : Int32)).toInt := ti_add (by omega) (by omega)) | (have a1682 := ti_rg (x1 + (1 : Int32)))
                          first | (have a1683 : (x4 + (1 : Int32)).toInt = (x4).toInt + ((1 : Int32)).toInt := ti_add (by omega) (by omega)) | (have a1684 := ti_rg (x4 + (1 : Int32)))
                          have b1685 := NI_g21 ci1679 (c := 0) (p := 48) rfl
                          have e1686 : (mz_gI t1677 0 48).toInt = (mz_gI q1541 0 48).toInt := by rw [E1678, gI_oth _ _ (by simp)]
                          have b1687 := NI_g22 ci1679 (c := 0) (p := 51) rfl
                          have e1688 : (mz_gI t1677 0 51).toInt = (mz_gI q1541 0 51).toInt := by rw [E1678, gI_oth _ _ (by simp)]
                          have b1689 := NI_13 ci1679 (c := 0) (p := 60) rfl
                          exact ih (x1 + (1 : Int32)) x2 (x4 + (1 : Int32)) (x4 + (1 : Int32)) t1677 ci1679 (by omega) (by omega) (by omega) (by omega) (by omega) (by omega) (by omega) (by omega) (by omega) (by omega) (by omega) (by omega) (by omega)
                        · have g1690 := ti_nq h1675
                          refine Tp_if (fun h1691 => ?_) (fun h1691 => ?_)
                          · have g1692 := ti_l h1691
                            unfold f_MO_readTexts_158
                            unfold f_MO_readTexts_159
                            refine Tp_gd (ti_b (by omega) (by omega)) ?_
                            refine Tp_le (fun t1693 E1694 => ?_)
                            have ci1695 := NI_p2 ci1548 E1694 rfl (by omega) (by omega)
                            have i1696 := ti_rg x1
                            first | (have a1697 : (x1 + (1 : Int32)).toInt = (x1).toInt + ((1 : Int32)).toInt := ti_add (by omega) (by omega)) | (have a1698 := ti_rg (x1 + (1 : Int32)))
                            first | (have a1699 : (x4 + (1 : Int32)).toInt = (x4).toInt + ((1 : Int32)).toInt := ti_add (by omega) (by omega)) | (have a1700 := ti_rg (x4 + (1 : Int32)))
                            have b1701 := NI_g21 ci1695 (c := 0) (p := 48) rfl
                            have e1702 : (mz_gI t1693 0 48).toInt = (mz_gI q1541 0 48).toInt := by rw [E1694, gI_oth _ _ (by simp)]
                            have b1703 := NI_g22 ci1695 (c := 0) (p := 51) rfl
                            have e1704 : (mz_gI t1693 0 51).toInt = (mz_gI q1541 0 51).toInt := by rw [E1694, gI_oth _ _ (by simp)]
                            have b1705 := NI_13 ci1695 (c := 0) (p := 60) rfl
                            exact ih (x1 + (1 : Int32)) x2 (x4 + (1 : Int32)) (x4 + (1 : Int32)) t1693 ci1695 (by omega) (by omega) (by omega) (by omega) (by omega) (by omega) (by omega) (by omega) (by omega) (by omega) (by omega) (by omega) (by omega)
                          · have g1706 := ti_nl h1691
                            unfold f_MO_readTexts_159
                            refine Tp_gd (ti_b (by omega) (by omega)) ?_
                            refine Tp_le (fun t1707 E1708 => ?_)
                            have ci1709 := NI_p2 ci1548 E1708 rfl (by omega) (by omega)
                            have i1710 := ti_rg x1
                            first | (have a1711 : (x1 + (1 : Int32)).toInt = (x1).toInt + ((1 : Int32)).toInt := ti_add (by omega) (by omega)) | (have a1712 := ti_rg (x1 + (1 : Int32)))
                            first | (have a1713 : (x4 + (1 : Int32)).toInt = (x4).toInt + ((1 : Int32)).toInt := ti_add (by omega) (by omega)) | (have a1714 := ti_rg (x4 + (1 : Int32)))
                            have b1715 := NI_g21 ci1709 (c := 0) (p := 48) rfl
                            have e1716 : (mz_gI t1707 0 48).toInt = (mz_gI q1541 0 48).toInt := by rw [E1708, gI_oth _ _ (by simp)]
                            have b1717 := NI_g22 ci1709 (c := 0) (p := 51) rfl
                            have e1718 : (mz_gI t1707 0 51).toInt = (mz_gI q1541 0 51).toInt := by rw [E1708, gI_oth _ _ (by simp)]
                            have b1719 := NI_13 ci1709 (c := 0) (p := 60) rfl
                            exact ih (x1 + (1 : Int32)) x2 (x4 + (1 : Int32)) (x4 + (1 : Int32)) t1707 ci1709 (by omega) (by omega) (by omega) (by omega) (by omega) (by omega) (by omega) (by omega) (by omega) (by omega) (by omega) (by omega) (by omega)
            · have g1720 := ti_nq h979
              unfold f_MO_readTexts_71
              unfold f_MO_readTexts_72
              refine Tp_if (fun h1721 => ?_) (fun h1721 => ?_)
              · have g1722 := ti_q h1721
                have l1723 : ((0 : Int32)).toInt = 0 := rfl
                unfold f_MO_readTexts_114
                refine Tp_if (fun h1724 => ?_) (fun h1724 => ?_)
                · have g1725 := ti_q h1724
                  have l1726 : ((40 : Int32)).toInt = 40 := rfl
                  unfold f_MO_readTexts_141
                  refine Tp_if (fun h1727 => ?_) (fun h1727 => ?_)
                  · have g1728 := ti_q h1727
                    have b1729 := NI_g2 ci (c := 0) (p := 62) rfl
                    unfold f_MO_readTexts_158
                    unfold f_MO_readTexts_159
                    refine Tp_gd (ti_b (by omega) (by omega)) ?_
                    refine Tp_le (fun t1730 E1731 => ?_)
                    have l1733 : (62 : Int32).toInt = 62 := rfl
                    have ci1732 := NI_p2 ci E1731 rfl (by omega) (by omega)
                    have i1734 := ti_rg x1
                    have l1735 : ((1 : Int32)).toInt = 1 := rfl
                    first | (have a1736 : (x2 + (1 : Int32)).toInt = (x2).toInt + ((1 : Int32)).toInt := ti_add (by omega) (by omega)) | (have a1737 := ti_rg (x2 + (1 : Int32)))
                    have i1738 := ti_rg x3
                    first | (have a1739 : (x4 + (1 : Int32)).toInt = (x4).toInt + ((1 : Int32)).toInt := ti_add (by omega) (by omega)) | (have a1740 := ti_rg (x4 + (1 : Int32)))
                    have b1741 := NI_g21 ci1732 (c := 0) (p := 48) rfl
                    have e1742 : (mz_gI t1730 0 48).toInt = (mz_gI t 0 48).toInt := by rw [E1731, gI_oth _ _ (by simp)]
                    have b1743 := NI_g22 ci1732 (c := 0) (p := 51) rfl
                    have e1744 : (mz_gI t1730 0 51).toInt = (mz_gI t 0 51).toInt := by rw [E1731, gI_oth _ _ (by simp)]
                    have b1745 := NI_13 ci1732 (c := 0) (p := 60) rfl
                    exact ih x1 (x2 + (1 : Int32)) x3 (x4 + (1 : Int32)) t1730 ci1732 (by omega) (by omega) (by omega) (by omega) (by omega) (by omega) (by omega) (by omega) (by omega) (by omega) (by omega) (by omega) (by omega)
                  · have g1746 := ti_nq h1727
                    have b1747 := NI_g2 ci (c := 0) (p := 62) rfl
                    refine Tp_if (fun h1748 => ?_) (fun h1748 => ?_)
                    · have g1749 := ti_l h1748
                      have l1750 : ((1 : Int32)).toInt = 1 := rfl
                      first | (have a1751 : (x2 + (1 : Int32)).toInt = (x2).toInt + ((1 : Int32)).toInt := ti_add (by omega) (by omega)) | (have a1752 := ti_rg (x2 + (1 : Int32)))
                      unfold f_MO_readTexts_158
                      unfold f_MO_readTexts_159
                      refine Tp_gd (ti_b (by omega) (by omega)) ?_
                      refine Tp_le (fun t1753 E1754 => ?_)
                      have l1756 : (62 : Int32).toInt = 62 := rfl
                      have ci1755 := NI_p2 ci E1754 rfl (by omega) (by omega)
                      have i1757 := ti_rg x1
                      have i1758 := ti_rg x3
                      first | (have a1759 : (x4 + (1 : Int32)).toInt = (x4).toInt + ((1 : Int32)).toInt := ti_add (by omega) (by omega)) | (have a1760 := ti_rg (x4 + (1 : Int32)))
                      have b1761 := NI_g21 ci1755 (c := 0) (p := 48) rfl
                      have e1762 : (mz_gI t1753 0 48).toInt = (mz_gI t 0 48).toInt := by rw [E1754, gI_oth _ _ (by simp)]
                      have b1763 := NI_g22 ci1755 (c := 0) (p := 51) rfl
                      have e1764 : (mz_gI t1753 0 51).toInt = (mz_gI t 0 51).toInt := by rw [E1754, gI_oth _ _ (by simp)]
                      have b1765 := NI_13 ci1755 (c := 0) (p := 60) rfl
                      exact ih x1 (x2 + (1 : Int32)) x3 (x4 + (1 : Int32)) t1753 ci1755 (by omega) (by omega) (by omega) (by omega) (by omega) (by omega) (by omega) (by omega) (by omega) (by omega) (by omega) (by omega) (by omega)
                    · have g1766 := ti_nl h1748
                      have l1767 : ((1 : Int32)).toInt = 1 := rfl
                      first | (have a1768 : (x2 + (1 : Int32)).toInt = (x2).toInt + ((1 : Int32)).toInt := ti_add (by omega) (by omega)) | (have a1769 := ti_rg (x2 + (1 : Int32)))
                      unfold f_MO_readTexts_159
                      refine Tp_gd (ti_b (by omega) (by omega)) ?_
                      refine Tp_le (fun t1770 E1771 => ?_)
                      have l1773 : (62 : Int32).toInt = 62 := rfl
                      have ci1772 := NI_p2 ci E1771 rfl (by omega) (by omega)
                      have i1774 := ti_rg x1
                      have i1775 := ti_rg x3
                      first | (have a1776 : (x4 + (1 : Int32)).toInt = (x4).toInt + ((1 : Int32)).toInt := ti_add (by omega) (by omega)) | (have a1777 := ti_rg (x4 + (1 : Int32)))
                      have b1778 := NI_g21 ci1772 (c := 0) (p := 48) rfl
                      have e1779 : (mz_gI t1770 0 48).toInt = (mz_gI t 0 48).toInt := by rw [E1771, gI_oth _ _ (by simp)]
                      have b1780 := NI_g22 ci1772 (c := 0) (p := 51) rfl
                      have e1781 : (mz_gI t1770 0 51).toInt = (mz_gI t 0 51).toInt := by rw [E1771, gI_oth _ _ (by simp)]
                      have b1782 := NI_13 ci1772 (c := 0) (p := 60) rfl
                      exact ih x1 (x2 + (1 : Int32)) x3 (x4 + (1 : Int32)) t1770 ci1772 (by omega) (by omega) (by omega) (by omega) (by omega) (by omega) (by omega) (by omega) (by omega) (by omega) (by omega) (by omega) (by omega)
                · have g1783 := ti_nq h1724
                  have l1784 : ((40 : Int32)).toInt = 40 := rfl
                  refine Tp_if (fun h1785 => ?_) (fun h1785 => ?_)
                  · have g1786 := ti_q h1785
                    have l1787 : ((41 : Int32)).toInt = 41 := rfl
                    unfold f_MO_readTexts_141
                    refine Tp_if (fun h1788 => ?_) (fun h1788 => ?_)
                    · have g1789 := ti_q h1788
                      have b1790 := NI_g2 ci (c := 0) (p := 62) rfl
                      unfold f_MO_readTexts_158
                      unfold f_MO_readTexts_159
                      refine Tp_gd (ti_b (by omega) (by omega)) ?_
                      refine Tp_le (fun t1791 E1792 => ?_)
                      have l1794 : (62 : Int32).toInt = 62 := rfl
                      have ci1793 := NI_p2 ci E1792 rfl (by omega) (by omega)
                      have i1795 := ti_rg x1
                      have l1796 : ((1 : Int32)).toInt = 1 := rfl
                      first | (have a1797 : (x2 - (1 : Int32)).toInt = (x2).toInt - ((1 : Int32)).toInt := ti_sub (by omega) (by omega)) | (have a1798 := ti_rg (x2 - (1 : Int32)))
                      have i1799 := ti_rg x3
                      first | (have a1800 : (x4 + (1 : Int32)).toInt = (x4).toInt + ((1 : Int32)).toInt := ti_add (by omega) (by omega)) | (have a1801 := ti_rg (x4 + (1 : Int32)))
                      have b1802 := NI_g21 ci1793 (c := 0) (p := 48) rfl
                      have e1803 : (mz_gI t1791 0 48).toInt = (mz_gI t 0 48).toInt := by rw [E1792, gI_oth _ _ (by simp)]
                      have b1804 := NI_g22 ci1793 (c := 0) (p := 51) rfl
                      have e1805 : (mz_gI t1791 0 51).toInt = (mz_gI t 0 51).toInt := by rw [E1792, gI_oth _ _ (by simp)]
                      have b1806 := NI_13 ci1793 (c := 0) (p := 60) rfl
                      exact ih x1 (x2 - (1 : Int32)) x3 (x4 + (1 : Int32)) t1791 ci1793 (by omega) (by omega) (by omega) (by omega) (by omega) (by omega) (by omega) (by omega) (by omega) (by omega) (by omega) (by omega) (by omega)
                    · have g1807 := ti_nq h1788
                      have b1808 := NI_g2 ci (c := 0) (p := 62) rfl
                      refine Tp_if (fun h1809 => ?_) (fun h1809 => ?_)
                      · have g1810 := ti_l h1809
                        have l1811 : ((1 : Int32)).toInt = 1 := rfl
                        first | (have a1812 : (x2 - (1 : Int32)).toInt = (x2).toInt - ((1 : Int32)).toInt := ti_sub (by omega) (by omega)) | (have a1813 := ti_rg (x2 - (1 : Int32)))
                        unfold f_MO_readTexts_158
                        unfold f_MO_readTexts_159
                        refine Tp_gd (ti_b (by omega) (by omega)) ?_
                        refine Tp_le (fun t1814 E1815 => ?_)
                        have l1817 : (62 : Int32).toInt = 62 := rfl
                        have ci1816 := NI_p2 ci E1815 rfl (by omega) (by omega)
                        have i1818 := ti_rg x1
                        have i1819 := ti_rg x3
                        first | (have a1820 : (x4 + (1 : Int32)).toInt = (x4).toInt + ((1 : Int32)).toInt := ti_add (by omega) (by omega)) | (have a1821 := ti_rg (x4 + (1 : Int32)))
                        have b1822 := NI_g21 ci1816 (c := 0) (p := 48) rfl
                        have e1823 : (mz_gI t1814 0 48).toInt = (mz_gI t 0 48).toInt := by rw [E1815, gI_oth _ _ (by simp)]
                        have b1824 := NI_g22 ci1816 (c := 0) (p := 51) rfl
                        have e1825 : (mz_gI t1814 0 51).toInt = (mz_gI t 0 51).toInt := by rw [E1815, gI_oth _ _ (by simp)]
                        have b1826 := NI_13 ci1816 (c := 0) (p := 60) rfl
                        exact ih x1 (x2 - (1 : Int32)) x3 (x4 + (1 : Int32)) t1814 ci1816 (by omega) (by omega) (by omega) (by omega) (by omega) (by omega) (by omega) (by omega) (by omega) (by omega) (by omega) (by omega) (by omega)
                      · have g1827 := ti_nl h1809
                        have l1828 : ((1 : Int32)).toInt = 1 := rfl
                        first | (have a1829 : (x2 - (1 : Int32)).toInt = (x2).toInt - ((1 : Int32)).toInt := ti_sub (by omega) (by omega)) | (have a1830 := ti_rg (x2 - (1 : Int32)))
                        unfold f_MO_readTexts_159
                        refine Tp_gd (ti_b (by omega) (by omega)) ?_
                        refine Tp_le (fun t1831 E1832 => ?_)
                        have l1834 : (62 : Int32).toInt = 62 := rfl
                        have ci1833 := NI_p2 ci E1832 rfl (by omega) (by omega)
                        have i1835 := ti_rg x1
                        have i1836 := ti_rg x3
                        first | (have a1837 : (x4 + (1 : Int32)).toInt = (x4).toInt + ((1 : Int32)).toInt := ti_add (by omega) (by omega)) | (have a1838 := ti_rg (x4 + (1 : Int32)))
                        have b1839 := NI_g21 ci1833 (c := 0) (p := 48) rfl
                        have e1840 : (mz_gI t1831 0 48).toInt = (mz_gI t 0 48).toInt := by rw [E1832, gI_oth _ _ (by simp)]
                        have b1841 := NI_g22 ci1833 (c := 0) (p := 51) rfl
                        have e1842 : (mz_gI t1831 0 51).toInt = (mz_gI t 0 51).toInt := by rw [E1832, gI_oth _ _ (by simp)]
                        have b1843 := NI_13 ci1833 (c := 0) (p := 60) rfl
                        exact ih x1 (x2 - (1 : Int32)) x3 (x4 + (1 : Int32)) t1831 ci1833 (by omega) (by omega) (by omega) (by omega) (by omega) (by omega) (by omega) (by omega) (by omega) (by omega) (by omega) (by omega) (by omega)
                  · have g1844 := ti_nq h1785
                    have l1845 : ((41 : Int32)).toInt = 41 := rfl
                    unfold f_MO_readTexts_141
                    refine Tp_if (fun h1846 => ?_) (fun h1846 => ?_)
                    · have g1847 := ti_q h1846
                      have b1848 := NI_g2 ci (c := 0) (p := 62) rfl
                      unfold f_MO_readTexts_158
                      unfold f_MO_readTexts_159
                      refine Tp_gd (ti_b (by omega) (by omega)) ?_
                      refine Tp_le (fun t1849 E1850 => ?_)
                      have l1852 : (62 : Int32).toInt = 62 := rfl
                      have ci1851 := NI_p2 ci E1850 rfl (by omega) (by omega)
                      have i1853 := ti_rg x1
                      have i1854 := ti_rg x3
                      have l1855 : ((1 : Int32)).toInt = 1 := rfl
                      first | (have a1856 : (x4 + (1 : Int32)).toInt = (x4).toInt + ((1 : Int32)).toInt := ti_add (by omega) (by omega)) | (have a1857 := ti_rg (x4 + (1 : Int32)))
                      have b1858 := NI_g21 ci1851 (c := 0) (p := 48) rfl
                      have e1859 : (mz_gI t1849 0 48).toInt = (mz_gI t 0 48).toInt := by rw [E1850, gI_oth _ _ (by simp)]
                      have b1860 := NI_g22 ci1851 (c := 0) (p := 51) rfl
                      have e1861 : (mz_gI t1849 0 51).toInt = (mz_gI t 0 51).toInt := by rw [E1850, gI_oth _ _ (by simp)]
                      have b1862 := NI_13 ci1851 (c := 0) (p := 60) rfl
                      exact ih x1 x2 x3 (x4 + (1 : Int32)) t1849 ci1851 (by omega) (by omega) (by omega) (by omega) (by omega) (by omega) (by omega) (by omega) (by omega) (by omega) (by omega) (by omega) (by omega)
                    · have g1863 := ti_nq h1846
                      have b1864 := NI_g2 ci (c := 0) (p := 62) rfl
                      refine Tp_if (fun h1865 => ?_) (fun h1865 => ?_)
                      · have g1866 := ti_l h1865
                        unfold f_MO_readTexts_158
                        unfold f_MO_readTexts_159
                        refine Tp_gd (ti_b (by omega) (by omega)) ?_
                        refine Tp_le (fun t1867 E1868 => ?_)
                        have l1870 : (62 : Int32).toInt = 62 := rfl
                        have ci1869 := NI_p2 ci E1868 rfl (by omega) (by omega)
                        have i1871 := ti_rg x1
                        have i1872 := ti_rg x3
                        have l1873 : ((1 : Int32)).toInt = 1 := rfl
                        first | (have a1874 : (x4 + (1 : Int32)).toInt = (x4).toInt + ((1 : Int32)).toInt := ti_add (by omega) (by omega)) | (have a1875 := ti_rg (x4 + (1 : Int32)))
                        have b1876 := NI_g21 ci1869 (c := 0) (p := 48) rfl
                        have e1877 : (mz_gI t1867 0 48).toInt = (mz_gI t 0 48).toInt := by rw [E1868, gI_oth _ _ (by simp)]
                        have b1878 := NI_g22 ci1869 (c := 0) (p := 51) rfl
                        have e1879 : (mz_gI t1867 0 51).toInt = (mz_gI t 0 51).toInt := by rw [E1868, gI_oth _ _ (by simp)]
                        have b1880 := NI_13 ci1869 (c := 0) (p := 60) rfl
                        exact ih x1 x2 x3 (x4 + (1 : Int32)) t1867 ci1869 (by omega) (by omega) (by omega) (by omega) (by omega) (by omega) (by omega) (by omega) (by omega) (by omega) (by omega) (by omega) (by omega)
                      · have g1881 := ti_nl h1865
                        unfold f_MO_readTexts_159
                        have l1882 : ((1 : Int32)).toInt = 1 := rfl
                        refine Tp_gd (ti_b (by omega) (by omega)) ?_
                        refine Tp_le (fun t1883 E1884 => ?_)
                        have l1886 : (62 : Int32).toInt = 62 := rfl
                        have ci1885 := NI_p2 ci E1884 rfl (by omega) (by omega)
                        have i1887 := ti_rg x1
                        have i1888 := ti_rg x3
                        first | (have a1889 : (x4 + (1 : Int32)).toInt = (x4).toInt + ((1 : Int32)).toInt := ti_add (by omega) (by omega)) | (have a1890 := ti_rg (x4 + (1 : Int32)))
                        have b1891 := NI_g21 ci1885 (c := 0) (p := 48) rfl
                        have e1892 : (mz_gI t1883 0 48).toInt = (mz_gI t 0 48).toInt := by rw [E1884, gI_oth _ _ (by simp)]
                        have b1893 := NI_g22 ci1885 (c := 0) (p := 51) rfl
                        have e1894 : (mz_gI t1883 0 51).toInt = (mz_gI t 0 51).toInt := by rw [E1884, gI_oth _ _ (by simp)]
                        have b1895 := NI_13 ci1885 (c := 0) (p := 60) rfl
                        exact ih x1 x2 x3 (x4 + (1 : Int32)) t1883 ci1885 (by omega) (by omega) (by omega) (by omega) (by omega) (by omega) (by omega) (by omega) (by omega) (by omega) (by omega) (by omega) (by omega)
              · have g1896 := ti_nq h1721
                have l1897 : ((0 : Int32)).toInt = 0 := rfl
                refine Tp_if (fun h1898 => ?_) (fun h1898 => ?_)
                · have g1899 := ti_q h1898
                  have b1900 := NI_g2 ci (c := 0) (p := 62) rfl
                  unfold f_MO_readTexts_95
                  unfold f_MO_readTexts_96
                  refine Tp_gd (ti_b (by omega) (by omega)) ?_
                  refine Tp_le (fun t1901 E1902 => ?_)
                  have l1904 : (62 : Int32).toInt = 62 := rfl
                  have ci1903 := NI_p2 ci E1902 rfl (by omega) (by omega)
                  have i1907 := ti_rg x3
                  have b1908 := NI_g21 ci1903 (c := 0) (p := 48) rfl
                  have e1909 : (mz_gI t1901 0 48).toInt = (mz_gI t 0 48).toInt := by rw [E1902, gI_oth _ _ (by simp)]
                  have b1910 := NI_g22 ci1903 (c := 0) (p := 51) rfl
                  have e1911 : (mz_gI t1901 0 51).toInt = (mz_gI t 0 51).toInt := by rw [E1902, gI_oth _ _ (by simp)]
                  refine Tp_bi (s_MO_hold hn ci1903 (by omega) (by omega) (by omega) (by omega) (by omega) (t := t1901) (x1 := x3) (x2 := x4)) (fun q1905 h1906 => ?_)
                  obtain ⟨ci1912, p1913, p1914, p1915, p1916, p1917⟩ := h1906
                  have b1918 := NI_g24 ci1903 (c := 0) (p := 61) rfl
                  have e1919 : (mz_gI t1901 0 61).toInt = (mz_gI t 0 61).toInt := by rw [E1902, gI_oth _ _ (by simp)]
                  have b1920 := NI_g24 ci (c := 0) (p := 61) rfl
                  have b1921 := NI_g2 ci1903 (c := 0) (p := 62) rfl
                  have e1922 : (mz_gI t1901 0 62).toInt = ((0 : Int32)).toInt := by rw [E1902, gI_same]
                  have b1923 := NI_g21 ci1912 (c := 0) (p := 48) rfl
                  have b1924 := NI_g22 ci1912 (c := 0) (p := 51) rfl
                  have b1925 := NI_g24 ci1912 (c := 0) (p := 61) rfl
                  have b1926 := NI_g2 ci1912 (c := 0) (p := 62) rfl
                  unfold f_MO_readTexts_114
                  refine Tp_if (fun h1927 => ?_) (fun h1927 => ?_)
                  · have g1928 := ti_q h1927
                    have l1929 : ((40 : Int32)).toInt = 40 := rfl
                    unfold f_MO_readTexts_141
                    refine Tp_if (fun h1930 => ?_) (fun h1930 => ?_)
                    · have g1931 := ti_q h1930
                      unfold f_MO_readTexts_158
                      unfold f_MO_readTexts_159
                      refine Tp_gd (ti_b (by omega) (by omega)) ?_
                      refine Tp_le (fun t1932 E1933 => ?_)
                      have ci1934 := NI_p2 ci1912 E1933 rfl (by omega) (by omega)
                      have i1935 := ti_rg x1
                      have l1936 : ((1 : Int32)).toInt = 1 := rfl
                      first | (have a1937 : (x1 + (1 : Int32)).toInt = (x1).toInt + ((1 : Int32)).toInt := ti_add (by omega) (by omega)) | (have a1938 := ti_rg (x1 + (1 : Int32)))
                      first | (have a1939 : (x2 + (1 : Int32)).toInt = (x2).toInt + ((1 : Int32)).toInt := ti_add (by omega) (by omega)) | (have a1940 := ti_rg (x2 + (1 : Int32)))
                      first | (have a1941 : (x4 + (1 : Int32)).toInt = (x4).toInt + ((1 : Int32)).toInt := ti_add (by omega) (by omega)) | (have a1942 := ti_rg (x4 + (1 : Int32)))
                      have b1943 := NI_g21 ci1934 (c := 0) (p := 48) rfl
                      have e1944 : (mz_gI t1932 0 48).toInt = (mz_gI q1905 0 48).toInt := by rw [E1933, gI_oth _ _ (by simp)]
                      have b1945 := NI_g22 ci1934 (c := 0) (p := 51) rfl
                      have e1946 : (mz_gI t1932 0 51).toInt = (mz_gI q1905 0 51).toInt := by rw [E1933, gI_oth _ _ (by simp)]
                      have b1947 := NI_13 ci1934 (c := 0) (p := 60) rfl
                      exact ih (x1 + (1 : Int32)) (x2 + (1 : Int32)) (x4 + (1 : Int32)) (x4 + (1 : Int32)) t1932 ci1934 (by omega) (by omega) (by omega) (by omega) (by omega) (by omega) (by omega) (by omega) (by omega) (by omega) (by omega) (by omega) (by omega)
                    · have g1948 := ti_nq h1930
                      refine Tp_if (fun h1949 => ?_) (fun h1949 => ?_)
                      · have g1950 := ti_l h1949
                        have l1951 : ((1 : Int32)).toInt = 1 := rfl
                        first | (have a1952 : (x2 + (1 : Int32)).toInt = (x2).toInt + ((1 : Int32)).toInt := ti_add (by omega) (by omega)) | (have a1953 := ti_rg (x2 + (1 : Int32)))
                        unfold f_MO_readTexts_158
                        unfold f_MO_readTexts_159
                        refine Tp_gd (ti_b (by omega) (by omega)) ?_
                        refine Tp_le (fun t1954 E1955 => ?_)
                        have ci1956 := NI_p2 ci1912 E1955 rfl (by omega) (by omega)
                        have i1957 := ti_rg x1
                        first | (have a1958 : (x1 + (1 : Int32)).toInt = (x1).toInt + ((1 : Int32)).toInt := ti_add (by omega) (by omega)) | (have a1959 := ti_rg (x1 + (1 : Int32)))
                        first | (have a1960 : (x4 + (1 : Int32)).toInt = (x4).toInt + ((1 : Int32)).toInt := ti_add (by omega) (by omega)) | (have a1961 := ti_rg (x4 + (1 : Int32)))
                        have b1962 := NI_g21 ci1956 (c := 0) (p := 48) rfl
                        have e1963 : (mz_gI t1954 0 48).toInt = (mz_gI q1905 0 48).toInt := by rw [E1955, gI_oth _ _ (by simp)]
                        have b1964 := NI_g22 ci1956 (c := 0) (p := 51) rfl
                        have e1965 : (mz_gI t1954 0 51).toInt = (mz_gI q1905 0 51).toInt := by rw [E1955, gI_oth _ _ (by simp)]
                        have b1966 := NI_13 ci1956 (c := 0) (p := 60) rfl
                        exact ih (x1 + (1 : Int32)) (x2 + (1 : Int32)) (x4 + (1 : Int32)) (x4 + (1 : Int32)) t1954 ci1956 (by omega) (by omega) (by omega) (by omega) (by omega) (by omega) (by omega) (by omega) (by omega) (by omega) (by omega) (by omega) (by omega)
                      · have g1967 := ti_nl h1949
                        have l1968 : ((1 : Int32)).toInt = 1 := rfl
                        first | (have a1969 : (x2 + (1 : Int32)).toInt = (x2).toInt + ((1 : Int32)).toInt := ti_add (by omega) (by omega)) | (have a1970 := ti_rg (x2 + (1 : Int32)))
                        unfold f_MO_readTexts_159
                        refine Tp_gd (ti_b (by omega) (by omega)) ?_
                        refine Tp_le (fun t1971 E1972 => ?_)
                        have ci1973 := NI_p2 ci1912 E1972 rfl (by omega) (by omega)
                        have i1974 := ti_rg x1
                        first | (have a1975 : (x1 + (1 : Int32)).toInt = (x1).toInt + ((1 : Int32)).toInt := ti_add (by omega) (by omega)) | (have a1976 := ti_rg (x1 + (1 : Int32)))
                        first | (have a1977 : (x4 + (1 : Int32)).toInt = (x4).toInt + ((1 : Int32)).toInt := ti_add (by omega) (by omega)) | (have a1978 := ti_rg (x4 + (1 : Int32)))
                        have b1979 := NI_g21 ci1973 (c := 0) (p := 48) rfl
                        have e1980 : (mz_gI t1971 0 48).toInt = (mz_gI q1905 0 48).toInt := by rw [E1972, gI_oth _ _ (by simp)]
                        have b1981 := NI_g22 ci1973 (c := 0) (p := 51) rfl
                        have e1982 : (mz_gI t1971 0 51).toInt = (mz_gI q1905 0 51).toInt := by rw [E1972, gI_oth _ _ (by simp)]
                        have b1983 := NI_13 ci1973 (c := 0) (p := 60) rfl
                        exact ih (x1 + (1 : Int32)) (x2 + (1 : Int32)) (x4 + (1 : Int32)) (x4 + (1 : Int32)) t1971 ci1973 (by omega) (by omega) (by omega) (by omega) (by omega) (by omega) (by omega) (by omega) (by omega) (by omega) (by omega) (by omega) (by omega)
                  · have g1984 := ti_nq h1927
                    have l1985 : ((40 : Int32)).toInt = 40 := rfl
                    refine Tp_if (fun h1986 => ?_) (fun h1986 => ?_)
                    · have g1987 := ti_q h1986
                      have l1988 : ((41 : Int32)).toInt = 41 := rfl
                      unfold f_MO_readTexts_141
                      refine Tp_if (fun h1989 => ?_) (fun h1989 => ?_)
                      · have g1990 := ti_q h1989
                        unfold f_MO_readTexts_158
                        unfold f_MO_readTexts_159
                        refine Tp_gd (ti_b (by omega) (by omega)) ?_
                        refine Tp_le (fun t1991 E1992 => ?_)
                        have ci1993 := NI_p2 ci1912 E1992 rfl (by omega) (by omega)
                        have i1994 := ti_rg x1
                        have l1995 : ((1 : Int32)).toInt = 1 := rfl
                        first | (have a1996 : (x1 + (1 : Int32)).toInt = (x1).toInt + ((1 : Int32)).toInt := ti_add (by omega) (by omega)) | (have a1997 := ti_rg (x1 + (1 : Int32)))
                        first | (have a1998 : (x2 - (1 : Int32)).toInt = (x2).toInt - ((1 : Int32)).toInt := ti_sub (by omega) (by omega)) | (have a1999 := ti_rg (x2 - (1 : Int32)))
                        first | (have a2000 : (x4 + (1 : Int32)).toInt = (x4).toInt + ((1 : Int32)).toInt := ti_add (by omega) (by omega)) | (have a2001 := ti_rg (x4 + (1 : Int32)))
                        have b2002 := NI_g21 ci1993 (c := 0) (p := 48) rfl
                        have e2003 : (mz_gI t1991 0 48).toInt = (mz_gI q1905 0 48).toInt := by rw [E1992, gI_oth _ _ (by simp)]
                        have b2004 := NI_g22 ci1993 (c := 0) (p := 51) rfl
                        have e2005 : (mz_gI t1991 0 51).toInt = (mz_gI q1905 0 51).toInt := by rw [E1992, gI_oth _ _ (by simp)]
                        have b2006 := NI_13 ci1993 (c := 0) (p := 60) rfl
                        exact ih (x1 + (1 : Int32)) (x2 - (1 : Int32)) (x4 + (1 : Int32)) (x4 + (1 : Int32)) t1991 ci1993 (by omega) (by omega) (by omega) (by omega) (by omega) (by omega) (by omega) (by omega) (by omega) (by omega) (by omega) (by omega) (by omega)
                      · have g2007 := ti_nq h1989
                        refine Tp_if (fun h2008 => ?_) (fun h2008 => ?_)
                        · have g2009 := ti_l h2008
                          have l2010 : ((1 : Int32)).toInt = 1 := rfl
                          first | (have a2011 : (x2 - (1 : Int32)).toInt = (x2).toInt - ((1 : Int32)).toInt := ti_sub (by omega) (by omega)) | (have a2012 := ti_rg (x2 - (1 : Int32)))
                          unfold f_MO_readTexts_158
                          unfold f_MO_readTexts_159
                          refine Tp_gd (ti_b (by omega) (by omega)) ?_
                          refine Tp_le (fun t2013 E2014 => ?_)
                          have ci2015 := NI_p2 ci1912 E2014 rfl (by omega) (by omega)
                          have i2016 := ti_rg x1
                          first | (have a2017 : (x1 + (1 : Int32)).toInt = (x1).toInt + ((1 : Int32)).toInt := ti_add (by omega) (by omega)) | (have a2018 := ti_rg (x1 + (1 : Int32)))
                          first | (have a2019 : (x4 + (1 : Int32)).toInt = (x4).toInt + ((1 : Int32)).toInt := ti_add (by omega) (by omega)) | (have a2020 := ti_rg (x4 + (1 : Int32)))
                          have b2021 := NI_g21 ci2015 (c := 0) (p := 48) rfl
                          have e2022 : (mz_gI t2013 0 48).toInt = (mz_gI q1905 0 48).toInt := by rw [E2014, gI_oth _ _ (by simp)]
                          have b2023 := NI_g22 ci2015 (c := 0) (p := 51) rfl
                          have e2024 : (mz_gI t2013 0 51).toInt = (mz_gI q1905 0 51).toInt := by rw [E2014, gI_oth _ _ (by simp)]
                          have b2025 := NI_13 ci2015 (c := 0) (p := 60) rfl
                          exact ih (x1 + (1 : Int32)) (x2 - (1 : Int32)) (x4 + (1 : Int32)) (x4 + (1 : Int32)) t2013 ci2015 (by omega) (by omega) (by omega) (by omega) (by omega) (by omega) (by omega) (by omega) (by omega) (by omega) (by omega) (by omega) (by omega)
                        · have g2026 := ti_nl h2008
                          have l2027 : ((1 : Int32)).toInt = 1 := rfl
                          first | (have a2028 : (x2 - (1 : Int32)).toInt = (x2).toInt - ((1 : Int32)).toInt := ti_sub (by omega) (by omega)) | (have a2029 := ti_rg (x2 - (1 : Int32)))
                          unfold f_MO_readTexts_159
                          refine Tp_gd (ti_b (by omega) (by omega)) ?_
                          refine Tp_le (fun t2030 E2031 => ?_)
                          have ci2032 := NI_p2 ci1912 E2031 rfl (by omega) (by omega)
                          have i2033 := ti_rg x1
                          first | (have a2034 : (x1 + (1 : Int32)).toInt = (x1).toInt + ((1 : Int32)).toInt := ti_add (by omega) (by omega)) | (have a2035 := ti_rg (x1 + (1 : Int32)))
                          first | (have a2036 : (x4 + (1 : Int32)).toInt = (x4).toInt + ((1 : Int32)).toInt := ti_add (by omega) (by omega)) | (have a2037 := ti_rg (x4 + (1 : Int32)))
                          have b2038 := NI_g21 ci2032 (c := 0) (p := 48) rfl
                          have e2039 : (mz_gI t2030 0 48).toInt = (mz_gI q1905 0 48).toInt := by rw [E2031, gI_oth _ _ (by simp)]
                          have b2040 := NI_g22 ci2032 (c := 0) (p := 51) rfl
                          have e2041 : (mz_gI t2030 0 51).toInt = (mz_gI q1905 0 51).toInt := by rw [E2031, gI_oth _ _ (by simp)]
                          have b2042 := NI_13 ci2032 (c := 0) (p := 60) rfl
                          exact ih (x1 + (1 : Int32)) (x2 - (1 : Int32)) (x4 + (1 : Int32)) (x4 + (1 : Int32)) t2030 ci2032 (by omega) (by omega) (by omega) (by omega) (by omega) (by omega) (by omega) (by omega) (by omega) (by omega) (by omega) (by omega) (by omega)
                    · have g2043 := ti_nq h1986
                      have l2044 : ((41 : Int32)).toInt = 41 := rfl
                      unfold f_MO_readTexts_141
                      refine Tp_if (fun h2045 => ?_) (fun h2045 => ?_)
                      · have g2046 := ti_q h2045
                        unfold f_MO_readTexts_158
                        unfold f_MO_readTexts_159
                        refine Tp_gd (ti_b (by omega) (by omega)) ?_
                        refine Tp_le (fun t2047 E2048 => ?_)
                        have ci2049 := NI_p2 ci1912 E2048 rfl (by omega) (by omega)
                        have i2050 := ti_rg x1
                        have l2051 : ((1 : Int32)).toInt = 1 := rfl
                        first | (have a2052 : (x1 + (1 : Int32)).toInt = (x1).toInt + ((1 : Int32)).toInt := ti_add (by omega) (by omega)) | (have a2053 := ti_rg (x1 + (1 : Int32)))
                        first | (have a2054 : (x4 + (1 : Int32)).toInt = (x4).toInt + ((1 : Int32)).toInt := ti_add (by omega) (by omega)) | (have a2055 := ti_rg (x4 + (1 : Int32)))
                        have b2056 := NI_g21 ci2049 (c := 0) (p := 48) rfl
                        have e2057 : (mz_gI t2047 0 48).toInt = (mz_gI q1905 0 48).toInt := by rw [E2048, gI_oth _ _ (by simp)]
                        have b2058 := NI_g22 ci2049 (c := 0) (p := 51) rfl
                        have e2059 : (mz_gI t2047 0 51).toInt = (mz_gI q1905 0 51).toInt := by rw [E2048, gI_oth _ _ (by simp)]
                        have b2060 := NI_13 ci2049 (c := 0) (p := 60) rfl
                        exact ih (x1 + (1 : Int32)) x2 (x4 + (1 : Int32)) (x4 + (1 : Int32)) t2047 ci2049 (by omega) (by omega) (by omega) (by omega) (by omega) (by omega) (by omega) (by omega) (by omega) (by omega) (by omega) (by omega) (by omega)
                      · have g2061 := ti_nq h2045
                        refine Tp_if (fun h2062 => ?_) (fun h2062 => ?_)
                        · have g2063 := ti_l h2062
                          unfold f_MO_readTexts_158
                          unfold f_MO_readTexts_159
                          refine Tp_gd (ti_b (by omega) (by omega)) ?_
                          refine Tp_le (fun t2064 E2065 => ?_)
                          have ci2066 := NI_p2 ci1912 E2065 rfl (by omega) (by omega)
                          have i2067 := ti_rg x1
                          have l2068 : ((1 : Int32)).toInt = 1 := rfl
                          first | (have a2069 : (x1 + (1 : Int32)).toInt = (x1).toInt + ((1 : Int32)).toInt := ti_add (by omega) (by omega)) | (have a2070 := ti_rg (x1 + (1 : Int32)))
                          first | (have a2071 : (x4 + (1 : Int32)).toInt = (x4).toInt + ((1 : Int32)).toInt := ti_add (by omega) (by omega)) | (have a2072 := ti_rg (x4 + (1 : Int32)))
                          have b2073 := NI_g21 ci2066 (c := 0) (p := 48) rfl
                          have e2074 : (mz_gI t2064 0 48).toInt = (mz_gI q1905 0 48).toInt := by rw [E2065, gI_oth _ _ (by simp)]
                          have b2075 := NI_g22 ci2066 (c := 0) (p := 51) rfl
                          have e2076 : (mz_gI t2064 0 51).toInt = (mz_gI q1905 0 51).toInt := by rw [E2065, gI_oth _ _ (by simp)]
                          have b2077 := NI_13 ci2066 (c := 0) (p := 60) rfl
                          exact ih (x1 + (1 : Int32)) x2 (x4 + (1 : Int32)) (x4 + (1 : Int32)) t2064 ci2066 (by omega) (by omega) (by omega) (by omega) (by omega) (by omega) (by omega) (by omega) (by omega) (by omega) (by omega) (by omega) (by omega)
                        · have g2078 := ti_nl h2062
                          unfold f_MO_readTexts_159
                          have l2079 : ((1 : Int32)).toInt = 1 := rfl
                          refine Tp_gd (ti_b (by omega) (by omega)) ?_
                          refine Tp_le (fun t2080 E2081 => ?_)
                          have ci2082 := NI_p2 ci1912 E2081 rfl (by omega) (by omega)
                          have i2083 := ti_rg x1
                          first | (have a2084 : (x1 + (1 : Int32)).toInt = (x1).toInt + ((1 : Int32)).toInt := ti_add (by omega) (by omega)) | (have a2085 := ti_rg (x1 + (1 : Int32)))
                          first | (have a2086 : (x4 + (1 : Int32)).toInt = (x4).toInt + ((1 : Int32)).toInt := ti_add (by omega) (by omega)) | (have a2087 := ti_rg (x4 + (1 : Int32)))
                          have b2088 := NI_g21 ci2082 (c := 0) (p := 48) rfl
                          have e2089 : (mz_gI t2080 0 48).toInt = (mz_gI q1905 0 48).toInt := by rw [E2081, gI_oth _ _ (by simp)]
                          have b2090 := NI_g22 ci2082 (c := 0) (p := 51) rfl
                          have e2091 : (mz_gI t2080 0 51).toInt = (mz_gI q1905 0 51).toInt := by rw [E2081, gI_oth _ _ (by simp)]
                          have b2092 := NI_13 ci2082 (c := 0) (p := 60) rfl
                          exact ih (x1 + (1 : Int32)) x2 (x4 + (1 : Int32)) (x4 + (1 : Int32)) t2080 ci2082 (by omega) (by omega) (by omega) (by omega) (by omega) (by omega) (by omega) (by omega) (by omega) (by omega) (by omega) (by omega) (by omega)
                · have g2093 := ti_nq h1898
                  have b2094 := NI_g2 ci (c := 0) (p := 62) rfl
                  refine Tp_if (fun h2095 => ?_) (fun h2095 => ?_)
                  · have g2096 := ti_q h2095
                    unfold f_MO_readTexts_96
                    have l2097 : ((1 : Int32)).toInt = 1 := rfl
                    refine Tp_gd (ti_b (by omega) (by omega)) ?_
                    refine Tp_le (fun t2098 E2099 => ?_)
                    have l2101 : (62 : Int32).toInt = 62 := rfl
                    have ci2100 := NI_p2 ci E2099 rfl (by omega) (by omega)
                    have i2104 := ti_rg x3
                    have b2105 := NI_g21 ci2100 (c := 0) (p := 48) rfl
                    have e2106 : (mz_gI t2098 0 48).toInt = (mz_gI t 0 48).toInt := by rw [E2099, gI_oth _ _ (by simp)]
                    have b2107 := NI_g22 ci2100 (c := 0) (p := 51) rfl
                    have e2108 : (mz_gI t2098 0 51).toInt = (mz_gI t 0 51).toInt := by rw [E2099, gI_oth _ _ (by simp)]
                    refine Tp_bi (s_MO_hold hn ci2100 (by omega) (by omega) (by omega) (by omega) (by omega) (t := t2098) (x1 := x3) (x2 := x4)) (fun q2102 h2103 => ?_)
                    obtain ⟨ci2109, p2110, p2111, p2112, p2113, p2114⟩ := h2103
                    have b2115 := NI_g24 ci2100 (c := 0) (p := 61) rfl
                    have e2116 : (mz_gI t2098 0 61).toInt = (mz_gI t 0 61).toInt := by rw [E2099, gI_oth _ _ (by simp)]
                    have b2117 := NI_g24 ci (c := 0) (p := 61) rfl
                    have b2118 := NI_g2 ci2100 (c := 0) (p := 62) rfl
                    have e2119 : (mz_gI t2098 0 62).toInt = ((1 : Int32)).toInt := by rw [E2099, gI_same]
                    have b2120 := NI_g21 ci2109 (c := 0) (p := 48) rfl
                    have b2121 := NI_g22 ci2109 (c := 0) (p := 51) rfl
                    have b2122 := NI_g24 ci2109 (c := 0) (p := 61) rfl
                    have b2123 := NI_g2 ci2109 (c := 0) (p := 62) rfl
                    unfold f_MO_readTexts_114
                    refine Tp_if (fun h2124 => ?_) (fun h2124 => ?_)
                    · have g2125 := ti_q h2124
                      have l2126 : ((40 : Int32)).toInt = 40 := rfl
                      unfold f_MO_readTexts_141
                      refine Tp_if (fun h2127 => ?_) (fun h2127 => ?_)
                      · have g2128 := ti_q h2127
                        unfold f_MO_readTexts_158
                        unfold f_MO_readTexts_159
                        refine Tp_gd (ti_b (by omega) (by omega)) ?_
                        refine Tp_le (fun t2129 E2130 => ?_)
                        have ci2131 := NI_p2 ci2109 E2130 rfl (by omega) (by omega)
                        have i2132 := ti_rg x1
                        first | (have a2133 : (x1 + (1 : Int32)).toInt = (x1).toInt + ((1 : Int32)).toInt := ti_add (by omega) (by omega)) | (have a2134 := ti_rg (x1 + (1 : Int32)))
                        first | (have a2135 : (x2 + (1 : Int32)).toInt = (x2).toInt + ((1 : Int32)).toInt := ti_add (by omega) (by omega)) | (have a2136 := ti_rg (x2 + (1 : Int32)))
                        first | (have a2137 : (x4 + (1 : Int32)).toInt = (x4).toInt + ((1 : Int32)).toInt := ti_add (by omega) (by omega)) | (have a2138 := ti_rg (x4 + (1 : Int32)))
                        have b2139 := NI_g21 ci2131 (c := 0) (p := 48) rfl
                        have e2140 : (mz_gI t2129 0 48).toInt = (mz_gI q2102 0 48).toInt := by rw [E2130, gI_oth _ _ (by simp)]
                        have b2141 := NI_g22 ci2131 (c := 0) (p := 51) rfl
                        have e2142 : (mz_gI t2129 0 51).toInt = (mz_gI q2102 0 51).toInt := by rw [E2130, gI_oth _ _ (by simp)]
                        have b2143 := NI_13 ci2131 (c := 0) (p := 60) rfl
                        exact ih (x1 + (1 : Int32)) (x2 + (1 : Int32)) (x4 + (1 : Int32)) (x4 + (1 : Int32)) t2129 ci2131 (by omega) (by omega) (by omega) (by omega) (by omega) (by omega) (by omega) (by omega) (by omega) (by omega) (by omega) (by omega) (by omega)
                      · have g2144 := ti_nq h2127
                        refine Tp_if (fun h2145 => ?_) (fun h2145 => ?_)
                        · have g2146 := ti_l h2145
                          first | (have a2147 : (x2 + (1 : Int32)).toInt = (x2).toInt + ((1 : Int32)).toInt := ti_add (by omega) (by omega)) | (have a2148 := ti_rg (x2 + (1 : Int32)))
                          unfold f_MO_readTexts_158
                          unfold f_MO_readTexts_159
                          refine Tp_gd (ti_b (by omega) (by omega)) ?_
                          refine Tp_le (fun t2149 E2150 => ?_)
                          have ci2151 := NI_p2 ci2109 E2150 rfl (by omega) (by omega)
                          have i2152 := ti_rg x1
                          first | (have a2153 : (x1 + (1 : Int32)).toInt = (x1).toInt + ((1 : Int32)).toInt := ti_add (by omega) (by omega)) | (have a2154 := ti_rg (x1 + (1 : Int32)))
                          first | (have a2155 : (x4 + (1 : Int32)).toInt = (x4).toInt + ((1 : Int32)).toInt := ti_add (by omega) (by omega)) | (have a2156 := ti_rg (x4 + (1 : Int32)))
                          have b2157 := NI_g21 ci2151 (c := 0) (p := 48) rfl
                          have e2158 : (mz_gI t2149 0 48).toInt = (mz_gI q2102 0 48).toInt := by rw [E2150, gI_oth _ _ (by simp)]
                          have b2159 := NI_g22 ci2151 (c := 0) (p := 51) rfl
                          have e2160 : (mz_gI t2149 0 51).toInt = (mz_gI q2102 0 51).toInt := by rw [E2150, gI_oth _ _ (by simp)]
                          have b2161 := NI_13 ci2151 (c := 0) (p := 60) rfl
                          exact ih (x1 + (1 : Int32)) (x2 + (1 : Int32)) (x4 + (1 : Int32)) (x4 + (1 : Int32)) t2149 ci2151 (by omega) (by omega) (by omega) (by omega) (by omega) (by omega) (by omega) (by omega) (by omega) (by omega) (by omega) (by omega) (by omega)
                        · have g2162 := ti_nl h2145
                          first | (have a2163 : (x2 + (1 : Int32)).toInt = (x2).toInt + ((1 : Int32)).toInt := ti_add (by omega) (by omega)) | (have a2164 := ti_rg (x2 + (1 : Int32)))
                          unfold f_MO_readTexts_159
                          refine Tp_gd (ti_b (by omega) (by omega)) ?_
                          refine Tp_le (fun t2165 E2166 => ?_)
                          have ci2167 := NI_p2 ci2109 E2166 rfl (by omega) (by omega)
                          have i2168 := ti_rg x1
                          first | (have a2169 : (x1 + (1 : Int32)).toInt = (x1).toInt + ((1 : Int32)).toInt := ti_add (by omega) (by omega)) | (have a2170 := ti_rg (x1 + (1 : Int32)))
                          first | (have a2171 : (x4 + (1 : Int32)).toInt = (x4).toInt + ((1 : Int32)).toInt := ti_add (by omega) (by omega)) | (have a2172 := ti_rg (x4 + (1 : Int32)))
                          have b2173 := NI_g21 ci2167 (c := 0) (p := 48) rfl
                          have e2174 : (mz_gI t2165 0 48).toInt = (mz_gI q2102 0 48).toInt := by rw [E2166, gI_oth _ _ (by simp)]
                          have b2175 := NI_g22 ci2167 (c := 0) (p := 51) rfl
                          have e2176 : (mz_gI t2165 0 51).toInt = (mz_gI q2102 0 51).toInt := by rw [E2166, gI_oth _ _ (by simp)]
                          have b2177 := NI_13 ci2167 (c := 0) (p := 60) rfl
                          exact ih (x1 + (1 : Int32)) (x2 + (1 : Int32)) (x4 + (1 : Int32)) (x4 + (1 : Int32)) t2165 ci2167 (by omega) (by omega) (by omega) (by omega) (by omega) (by omega) (by omega) (by omega) (by omega) (by omega) (by omega) (by omega) (by omega)
                    · have g2178 := ti_nq h2124
                      have l2179 : ((40 : Int32)).toInt = 40 := rfl
                      refine Tp_if (fun h2180 => ?_) (fun h2180 => ?_)
                      · have g2181 := ti_q h2180
                        have l2182 : ((41 : Int32)).toInt = 41 := rfl
                        unfold f_MO_readTexts_141
                        refine Tp_if (fun h2183 => ?_) (fun h2183 => ?_)
                        · have g2184 := ti_q h2183
                          unfold f_MO_readTexts_158
                          unfold f_MO_readTexts_159
                          refine Tp_gd (ti_b (by omega) (by omega)) ?_
                          refine Tp_le (fun t2185 E2186 => ?_)
                          have ci2187 := NI_p2 ci2109 E2186 rfl (by omega) (by omega)
                          have i2188 := ti_rg x1
                          first | (have a2189 : (x1 + (1 : Int32)).toInt = (x1).toInt + ((1 : Int32)).toInt := ti_add (by omega) (by omega)) | (have a2190 := ti_rg (x1 + (1 : Int32)))
                          first | (have a2191 : (x2 - (1 : Int32)).toInt = (x2).toInt - ((1 : Int32)).toInt := ti_sub (by omega) (by omega)) | (have a2192 := ti_rg (x2 - (1 : Int32)))
                          first | (have a2193 : (x4 + (1 : Int32)).toInt = (x4).toInt + ((1 : Int32)).toInt := ti_add (by omega) (by omega)) | (have a2194 := ti_rg (x4 + (1 : Int32)))
                          have b2195 := NI_g21 ci2187 (c := 0) (p := 48) rfl
                          have e2196 : (mz_gI t2185 0 48).toInt = (mz_gI q2102 0 48).toInt := by rw [E2186, gI_oth _ _ (by simp)]
                          have b2197 := NI_g22 ci2187 (c := 0) (p := 51) rfl
                          have e2198 : (mz_gI t2185 0 51).toInt = (mz_gI q2102 0 51).toInt := by rw [E2186, gI_oth _ _ (by simp)]
                          have b2199 := NI_13 ci2187 (c := 0) (p := 60) rfl
                          exact ih (x1 + (1 : Int32)) (x2 - (1 : Int32)) (x4 + (1 : Int32)) (x4 + (1 : Int32)) t2185 ci2187 (by omega) (by omega) (by omega) (by omega) (by omega) (by omega) (by omega) (by omega) (by omega) (by omega) (by omega) (by omega) (by omega)
                        · have g2200 := ti_nq h2183
                          refine Tp_if (fun h2201 => ?_) (fun h2201 => ?_)
                          · have g2202 := ti_l h2201
                            first | (have a2203 : (x2 - (1 : Int32)).toInt = (x2).toInt - ((1 : Int32)).toInt := ti_sub (by omega) (by omega)) | (have a2204 := ti_rg (x2 - (1 : Int32)))
                            unfold f_MO_readTexts_158
                            unfold f_MO_readTexts_159
                            refine Tp_gd (ti_b (by omega) (by omega)) ?_
                            refine Tp_le (fun t2205 E2206 => ?_)
                            have ci2207 := NI_p2 ci2109 E2206 rfl (by omega) (by omega)
                            have i2208 := ti_rg x1
                            first | (have a2209 : (x1 + (1 : Int32)).toInt = (x1).toInt + ((1 : Int32)).toInt := ti_add (by omega) (by omega)) | (have a2210 := ti_rg (x1 + (1 : Int32)))
                            first | (have a2211 : (x4 + (1 : Int32)).toInt = (x4).toInt + ((1 : Int32)).toInt := ti_add (by omega) (by omega)) | (have a2212 := ti_rg (x4 + (1 : Int32)))
                            have b2213 := NI_g21 ci2207 (c := 0) (p := 48) rfl
                            have e2214 : (mz_gI t2205 0 48).toInt = (mz_gI q2102 0 48).toInt := by rw [E2206, gI_oth _ _ (by simp)]
                            have b2215 := NI_g22 ci2207 (c := 0) (p := 51) rfl
                            have e2216 : (mz_gI t2205 0 51).toInt = (mz_gI q2102 0 51).toInt := by rw [E2206, gI_oth _ _ (by simp)]
                            have b2217 := NI_13 ci2207 (c := 0) (p := 60) rfl
                            exact ih (x1 + (1 : Int32)) (x2 - (1 : Int32)) (x4 + (1 : Int32)) (x4 + (1 : Int32)) t2205 ci2207 (by omega) (by omega) (by omega) (by omega) (by omega) (by omega) (by omega) (by omega) (by omega) (by omega) (by omega) (by omega) (by omega)
                          · have g2218 := ti_nl h2201
                            first | (have a2219 : (x2 - (1 : Int32)).toInt = (x2).toInt - ((1 : Int32)).toInt := ti_sub (by omega) (by omega)) | (have a2220 := ti_rg (x2 - (1 : Int32)))
                            unfold f_MO_readTexts_159
                            refine Tp_gd (ti_b (by omega) (by omega)) ?_
                            refine Tp_le (fun t2221 E2222 => ?_)
                            have ci2223 := NI_p2 ci2109 E2222 rfl (by omega) (by omega)
                            have i2224 := ti_rg x1
                            first | (have a2225 : (x1 + (1 : Int32)).toInt = (x1).toInt + ((1 : Int32)).toInt := ti_add (by omega) (by omega)) | (have a2226 := ti_rg (x1 + (1 : Int32)))
                            first | (have a2227 : (x4 + (1 : Int32)).toInt = (x4).toInt + ((1 : Int32)).toInt := ti_add (by omega) (by omega)) | (have a2228 := ti_rg (x4 + (1 : Int32)))
                            have b2229 := NI_g21 ci2223 (c := 0) (p := 48) rfl
                            have e2230 : (mz_gI t2221 0 48).toInt = (mz_gI q2102 0 48).toInt := by rw [E2222, gI_oth _ _ (by simp)]
                            have b2231 := NI_g22 ci2223 (c := 0) (p := 51) rfl
                            have e2232 : (mz_gI t2221 0 51).toInt = (mz_gI q2102 0 51).toInt := by rw [E2222, gI_oth _ _ (by simp)]
                            have b2233 := NI_13 ci2223 (c := 0) (p := 60) rfl
                            exact ih (x1 + (1 : Int32)) (x2 - (1 : Int32)) (x4 + (1 : Int32)) (x4 + (1 : Int32)) t2221 ci2223 (by omega) (by omega) (by omega) (by omega) (by omega) (by omega) (by omega) (by omega) (by omega) (by omega) (by omega) (by omega) (by omega)
                      · have g2234 := ti_nq h2180
                        have l2235 : ((41 : Int32)).toInt = 41 := rfl
                        unfold f_MO_readTexts_141
                        refine Tp_if (fun h2236 => ?_) (fun h2236 => ?_)
                        · have g2237 := ti_q h2236
                          unfold f_MO_readTexts_158
                          unfold f_MO_readTexts_159
                          refine Tp_gd (ti_b (by omega) (by omega)) ?_
                          refine Tp_le (fun t2238 E2239 => ?_)
                          have ci2240 := NI_p2 ci2109 E2239 rfl (by omega) (by omega)
                          have i2241 := ti_rg x1
                          first | (have a2242 : (x1 + (1 : Int32)).toInt = (x1).toInt + ((1 : Int32)).toInt := ti_add (by omega) (by omega)) | (have a2243 := ti_rg (x1 + (1 : Int32)))
                          first | (have a2244 : (x4 + (1 : Int32)).toInt = (x4).toInt + ((1 : Int32)).toInt := ti_add (by omega) (by omega)) | (have a2245 := ti_rg (x4 + (1 : Int32)))
                          have b2246 := NI_g21 ci2240 (c := 0) (p := 48) rfl
                          have e2247 : (mz_gI t2238 0 48).toInt = (mz_gI q2102 0 48).toInt := by rw [E2239, gI_oth _ _ (by simp)]
                          have b2248 := NI_g22 ci2240 (c := 0) (p := 51) rfl
                          have e2249 : (mz_gI t2238 0 51).toInt = (mz_gI q2102 0 51).toInt := by rw [E2239, gI_oth _ _ (by simp)]
                          have b2250 := NI_13 ci2240 (c := 0) (p := 60) rfl
                          exact ih (x1 + (1 : Int32)) x2 (x4 + (1 : Int32)) (x4 + (1 : Int32)) t2238 ci2240 (by omega) (by omega) (by omega) (by omega) (by omega) (by omega) (by omega) (by omega) (by omega) (by omega) (by omega) (by omega) (by omega)
                        · have g2251 := ti_nq h2236
                          refine Tp_if (fun h2252 => ?_) (fun h2252 => ?_)
                          · have g2253 := ti_l h2252
                            unfold f_MO_readTexts_158
                            unfold f_MO_readTexts_159
                            refine Tp_gd (ti_b (by omega) (by omega)) ?_
                            refine Tp_le (fun t2254 E2255 => ?_)
                            have ci2256 := NI_p2 ci2109 E2255 rfl (by omega) (by omega)
                            have i2257 := ti_rg x1
                            first | (have a2258 : (x1 + (1 : Int32)).toInt = (x1).toInt + ((1 : Int32)).toInt := ti_add (by omega) (by omega)) | (have a2259 := ti_rg (x1 + (1 : Int32)))
                            first | (have a2260 : (x4 + (1 : Int32)).toInt = (x4).toInt + ((1 : Int32)).toInt := ti_add (by omega) (by omega)) | (have a2261 := ti_rg (x4 + (1 : Int32)))
                            have b2262 := NI_g21 ci2256 (c := 0) (p := 48) rfl
                            have e2263 : (mz_gI t2254 0 48).toInt = (mz_gI q2102 0 48).toInt := by rw [E2255, gI_oth _ _ (by simp)]
                            have b2264 := NI_g22 ci2256 (c := 0) (p := 51) rfl
                            have e2265 : (mz_gI t2254 0 51).toInt = (mz_gI q2102 0 51).toInt := by rw [E2255, gI_oth _ _ (by simp)]
                            have b2266 := NI_13 ci2256 (c := 0) (p := 60) rfl
                            exact ih (x1 + (1 : Int32)) x2 (x4 + (1 : Int32)) (x4 + (1 : Int32)) t2254 ci2256 (by omega) (by omega) (by omega) (by omega) (by omega) (by omega) (by omega) (by omega) (by omega) (by omega) (by omega) (by omega) (by omega)
                          · have g2267 := ti_nl h2252
                            unfold f_MO_readTexts_159
                            refine Tp_gd (ti_b (by omega) (by omega)) ?_
                            refine Tp_le (fun t2268 E2269 => ?_)
                            have ci2270 := NI_p2 ci2109 E2269 rfl (by omega) (by omega)
                            have i2271 := ti_rg x1
                            first | (have a2272 : (x1 + (1 : Int32)).toInt = (x1).toInt + ((1 : Int32)).toInt := ti_add (by omega) (by omega)) | (have a2273 := ti_rg (x1 + (1 : Int32)))
                            first | (have a2274 : (x4 + (1 : Int32)).toInt = (x4).toInt + ((1 : Int32)).toInt := ti_add (by omega) (by omega)) | (have a2275 := ti_rg (x4 + (1 : Int32)))
                            have b2276 := NI_g21 ci2270 (c := 0) (p := 48) rfl
                            have e2277 : (mz_gI t2268 0 48).toInt = (mz_gI q2102 0 48).toInt := by rw [E2269, gI_oth _ _ (by simp)]
                            have b2278 := NI_g22 ci2270 (c := 0) (p := 51) rfl
                            have e2279 : (mz_gI t2268 0 51).toInt = (mz_gI q2102 0 51).toInt := by rw [E2269, gI_oth _ _ (by simp)]
                            have b2280 := NI_13 ci2270 (c := 0) (p := 60) rfl
                            exact ih (x1 + (1 : Int32)) x2 (x4 + (1 : Int32)) (x4 + (1 : Int32)) t2268 ci2270 (by omega) (by omega) (by omega) (by omega) (by omega) (by omega) (by omega) (by omega) (by omega) (by omega) (by omega) (by omega) (by omega)
                  · have g2281 := ti_nq h2095
                    unfold f_MO_readTexts_95
                    unfold f_MO_readTexts_96
                    refine Tp_gd (ti_b (by omega) (by omega)) ?_
                    refine Tp_le (fun t2282 E2283 => ?_)
                    have l2285 : (62 : Int32).toInt = 62 := rfl
                    have ci2284 := NI_p2 ci E2283 rfl (by omega) (by omega)
                    have i2288 := ti_rg x3
                    have b2289 := NI_g21 ci2284 (c := 0) (p := 48) rfl
                    have e2290 : (mz_gI t2282 0 48).toInt = (mz_gI t 0 48).toInt := by rw [E2283, gI_oth _ _ (by simp)]
                    have b2291 := NI_g22 ci2284 (c := 0) (p := 51) rfl
                    have e2292 : (mz_gI t2282 0 51).toInt = (mz_gI t 0 51).toInt := by rw [E2283, gI_oth _ _ (by simp)]
                    refine Tp_bi (s_MO_hold hn ci2284 (by omega) (by omega) (by omega) (by omega) (by omega) (t := t2282) (x1 := x3) (x2 := x4)) (fun q2286 h2287 => ?_)
                    obtain ⟨ci2293, p2294, p2295, p2296, p2297, p2298⟩ := h2287
                    have b2299 := NI_g24 ci2284 (c := 0) (p := 61) rfl
                    have e2300 : (mz_gI t2282 0 61).toInt = (mz_gI t 0 61).toInt := by rw [E2283, gI_oth _ _ (by simp)]
                    have b2301 := NI_g24 ci (c := 0) (p := 61) rfl
                    have b2302 := NI_g2 ci2284 (c := 0) (p := 62) rfl
                    have e2303 : (mz_gI t2282 0 62).toInt = ((0 : Int32)).toInt := by rw [E2283, gI_same]
                    have b2304 := NI_g21 ci2293 (c := 0) (p := 48) rfl
                    have b2305 := NI_g22 ci2293 (c := 0) (p := 51) rfl
                    have b2306 := NI_g24 ci2293 (c := 0) (p := 61) rfl
                    have b2307 := NI_g2 ci2293 (c := 0) (p := 62) rfl
                    unfold f_MO_readTexts_114
                    refine Tp_if (fun h2308 => ?_) (fun h2308 => ?_)
                    · have g2309 := ti_q h2308
                      have l2310 : ((40 : Int32)).toInt = 40 := rfl
                      unfold f_MO_readTexts_141
                      refine Tp_if (fun h2311 => ?_) (fun h2311 => ?_)
                      · have g2312 := ti_q h2311
                        unfold f_MO_readTexts_158
                        unfold f_MO_readTexts_159
                        refine Tp_gd (ti_b (by omega) (by omega)) ?_
                        refine Tp_le (fun t2313 E2314 => ?_)
                        have ci2315 := NI_p2 ci2293 E2314 rfl (by omega) (by omega)
                        have i2316 := ti_rg x1
                        have l2317 : ((1 : Int32)).toInt = 1 := rfl
                        first | (have a2318 : (x1 + (1 : Int32)).toInt = (x1).toInt + ((1 : Int32)).toInt := ti_add (by omega) (by omega)) | (have a2319 := ti_rg (x1 + (1 : Int32)))
                        first | (have a2320 : (x2 + (1 : Int32)).toInt = (x2).toInt + ((1 : Int32)).toInt := ti_add (by omega) (by omega)) | (have a2321 := ti_rg (x2 + (1 : Int32)))
                        first | (have a2322 : (x4 + (1 : Int32)).toInt = (x4).toInt + ((1 : Int32)).toInt := ti_add (by omega) (by omega)) | (have a2323 := ti_rg (x4 + (1 : Int32)))
                        have b2324 := NI_g21 ci2315 (c := 0) (p := 48) rfl
                        have e2325 : (mz_gI t2313 0 48).toInt = (mz_gI q2286 0 48).toInt := by rw [E2314, gI_oth _ _ (by simp)]
                        have b2326 := NI_g22 ci2315 (c := 0) (p := 51) rfl
                        have e2327 : (mz_gI t2313 0 51).toInt = (mz_gI q2286 0 51).toInt := by rw [E2314, gI_oth _ _ (by simp)]
                        have b2328 := NI_13 ci2315 (c := 0) (p := 60) rfl
                        exact ih (x1 + (1 : Int32)) (x2 + (1 : Int32)) (x4 + (1 : Int32)) (x4 + (1 : Int32)) t2313 ci2315 (by omega) (by omega) (by omega) (by omega) (by omega) (by omega) (by omega) (by omega) (by omega) (by omega) (by omega) (by omega) (by omega)
                      · have g2329 := ti_nq h2311
                        refine Tp_if (fun h2330 => ?_) (fun h2330 => ?_)
                        · have g2331 := ti_l h2330
                          have l2332 : ((1 : Int32)).toInt = 1 := rfl
                          first | (have a2333 : (x2 + (1 : Int32)).toInt = (x2).toInt + ((1 : Int32)).toInt := ti_add (by omega) (by omega)) | (have a2334 := ti_rg (x2 + (1 : Int32)))
                          unfold f_MO_readTexts_158
                          unfold f_MO_readTexts_159
                          refine Tp_gd (ti_b (by omega) (by omega)) ?_
                          refine Tp_le (fun t2335 E2336 => ?_)
                          have ci2337 := NI_p2 ci2293 E2336 rfl (by omega) (by omega)
                          have i2338 := ti_rg x1
                          first | (have a2339 : (x1 + (1 : Int32)).toInt = (x1).toInt + ((1 : Int32)).toInt := ti_add (by omega) (by omega)) | (have a2340 := ti_rg (x1 + (1 : Int32)))
                          first | (have a2341 : (x4 + (1 : Int32)).toInt = (x4).toInt + ((1 : Int32)).toInt := ti_add (by omega) (by omega)) | (have a2342 := ti_rg (x4 + (1 : Int32)))
                          have b2343 := NI_g21 ci2337 (c := 0) (p := 48) rfl
                          have e2344 : (mz_gI t2335 0 48).toInt = (mz_gI q2286 0 48).toInt := by rw [E2336, gI_oth _ _ (by simp)]
                          have b2345 := NI_g22 ci2337 (c := 0) (p := 51) rfl
                          have e2346 : (mz_gI t2335 0 51).toInt = (mz_gI q2286 0 51).toInt := by rw [E2336, gI_oth _ _ (by simp)]
                          have b2347 := NI_13 ci2337 (c := 0) (p := 60) rfl
                          exact ih (x1 + (1 : Int32)) (x2 + (1 : Int32)) (x4 + (1 : Int32)) (x4 + (1 : Int32)) t2335 ci2337 (by omega) (by omega) (by omega) (by omega) (by omega) (by omega) (by omega) (by omega) (by omega) (by omega) (by omega) (by omega) (by omega)
                        · have g2348 := ti_nl h2330
                          have l2349 : ((1 : Int32)).toInt = 1 := rfl
                          first | (have a2350 : (x2 + (1 : Int32)).toInt = (x2).toInt + ((1 : Int32)).toInt := ti_add (by omega) (by omega)) | (have a2351 := ti_rg (x2 + (1 : Int32)))
                          unfold f_MO_readTexts_159
                          refine Tp_gd (ti_b (by omega) (by omega)) ?_
                          refine Tp_le (fun t2352 E2353 => ?_)
                          have ci2354 := NI_p2 ci2293 E2353 rfl (by omega) (by omega)
                          have i2355 := ti_rg x1
                          first | (have a2356 : (x1 + (1 : Int32)).toInt = (x1).toInt + ((1 : Int32)).toInt := ti_add (by omega) (by omega)) | (have a2357 := ti_rg (x1 + (1 : Int32)))
                          first | (have a2358 : (x4 + (1 : Int32)).toInt = (x4).toInt + ((1 : Int32)).toInt := ti_add (by omega) (by omega)) | (have a2359 := ti_rg (x4 + (1 : Int32)))
                          have b2360 := NI_g21 ci2354 (c := 0) (p := 48) rfl
                          have e2361 : (mz_gI t2352 0 48).toInt = (mz_gI q2286 0 48).toInt := by rw [E2353, gI_oth _ _ (by simp)]
                          have b2362 := NI_g22 ci2354 (c := 0) (p := 51) rfl
                          have e2363 : (mz_gI t2352 0 51).toInt = (mz_gI q2286 0 51).toInt := by rw [E2353, gI_oth _ _ (by simp)]
                          have b2364 := NI_13 ci2354 (c := 0) (p := 60) rfl
                          exact ih (x1 + (1 : Int32)) (x2 + (1 : Int32)) (x4 + (1 : Int32)) (x4 + (1 : Int32)) t2352 ci2354 (by omega) (by omega) (by omega) (by omega) (by omega) (by omega) (by omega) (by omega) (by omega) (by omega) (by omega) (by omega) (by omega)
                    · have g2365 := ti_nq h2308
                      have l2366 : ((40 : Int32)).toInt = 40 := rfl
                      refine Tp_if (fun h2367 => ?_) (fun h2367 => ?_)
                      · have g2368 := ti_q h2367
                        have l2369 : ((41 : Int32)).toInt = 41 := rfl
                        unfold f_MO_readTexts_141
                        refine Tp_if (fun h2370 => ?_) (fun h2370 => ?_)
                        · have g2371 := ti_q h2370
                          unfold f_MO_readTexts_158
                          unfold f_MO_readTexts_159
                          refine Tp_gd (ti_b (by omega) (by omega)) ?_
                          refine Tp_le (fun t2372 E2373 => ?_)
                          have ci2374 := NI_p2 ci2293 E2373 rfl (by omega) (by omega)
                          have i2375 := ti_rg x1
                          have l2376 : ((1 : Int32)).toInt = 1 := rfl
                          first | (have a2377 : (x1 + (1 : Int32)).toInt = (x1).toInt + ((1 : Int32)).toInt := ti_add (by omega) (by omega)) | (have a2378 := ti_rg (x1 + (1 : Int32)))
                          first | (have a2379 : (x2 - (1 : Int32)).toInt = (x2).toInt - ((1 : Int32)).toInt := ti_sub (by omega) (by omega)) | (have a2380 := ti_rg (x2 - (1 : Int32)))
                          first | (have a2381 : (x4 + (1 : Int32)).toInt = (x4).toInt + ((1 : Int32)).toInt := ti_add (by omega) (by omega)) | (have a2382 := ti_rg (x4 + (1 : Int32)))
                          have b2383 := NI_g21 ci2374 (c := 0) (p := 48) rfl
                          have e2384 : (mz_gI t2372 0 48).toInt = (mz_gI q2286 0 48).toInt := by rw [E2373, gI_oth _ _ (by simp)]
                          have b2385 := NI_g22 ci2374 (c := 0) (p := 51) rfl
                          have e2386 : (mz_gI t2372 0 51).toInt = (mz_gI q2286 0 51).toInt := by rw [E2373, gI_oth _ _ (by simp)]
                          have b2387 := NI_13 ci2374 (c := 0) (p := 60) rfl
                          exact ih (x1 + (1 : Int32)) (x2 - (1 : Int32)) (x4 + (1 : Int32)) (x4 + (1 : Int32)) t2372 ci2374 (by omega) (by omega) (by omega) (by omega) (by omega) (by omega) (by omega) (by omega) (by omega) (by omega) (by omega) (by omega) (by omega)
                        · have g2388 := ti_nq h2370
                          refine Tp_if (fun h2389 => ?_) (fun h2389 => ?_)
                          · have g2390 := ti_l h2389
                            have l2391 : ((1 : Int32)).toInt = 1 := rfl
                            first | (have a2392 : (x2 - (1 : Int32)).toInt = (x2).toInt - ((1 : Int32)).toInt := ti_sub (by omega) (by omega)) | (have a2393 := ti_rg (x2 - (1 : Int32)))
                            unfold f_MO_readTexts_158
                            unfold f_MO_readTexts_159
                            refine Tp_gd (ti_b (by omega) (by omega)) ?_
                            refine Tp_le (fun t2394 E2395 => ?_)
                            have ci2396 := NI_p2 ci2293 E2395 rfl (by omega) (by omega)
                            have i2397 := ti_rg x1
                            first | (have a2398 : (x1 + (1 : Int32)).toInt = (x1).toInt + ((1 : Int32)).toInt := ti_add (by omega) (by omega)) | (have a2399 := ti_rg (x1 + (1 : Int32)))
                            first | (have a2400 : (x4 + (1 : Int32)).toInt = (x4).toInt + ((1 : Int32)).toInt := ti_add (by omega) (by omega)) | (have a2401 := ti_rg (x4 + (1 : Int32)))
                            have b2402 := NI_g21 ci2396 (c := 0) (p := 48) rfl
                            have e2403 : (mz_gI t2394 0 48).toInt = (mz_gI q2286 0 48).toInt := by rw [E2395, gI_oth _ _ (by simp)]
                            have b2404 := NI_g22 ci2396 (c := 0) (p := 51) rfl
                            have e2405 : (mz_gI t2394 0 51).toInt = (mz_gI q2286 0 51).toInt := by rw [E2395, gI_oth _ _ (by simp)]
                            have b2406 := NI_13 ci2396 (c := 0) (p := 60) rfl
                            exact ih (x1 + (1 : Int32)) (x2 - (1 : Int32)) (x4 + (1 : Int32)) (x4 + (1 : Int32)) t2394 ci2396 (by omega) (by omega) (by omega) (by omega) (by omega) (by omega) (by omega) (by omega) (by omega) (by omega) (by omega) (by omega) (by omega)
                          · have g2407 := ti_nl h2389
                            have l2408 : ((1 : Int32)).toInt = 1 := rfl
                            first | (have a2409 : (x2 - (1 : Int32)).toInt = (x2).toInt - ((1 : Int32)).toInt := ti_sub (by omega) (by omega)) | (have a2410 := ti_rg (x2 - (1 : Int32)))
                            unfold f_MO_readTexts_159
                            refine Tp_gd (ti_b (by omega) (by omega)) ?_
                            refine Tp_le (fun t2411 E2412 => ?_)
                            have ci2413 := NI_p2 ci2293 E2412 rfl (by omega) (by omega)
                            have i2414 := ti_rg x1
                            first | (have a2415 : (x1 + (1 : Int32)).toInt = (x1).toInt + ((1 : Int32)).toInt := ti_add (by omega) (by omega)) | (have a2416 := ti_rg (x1 + (1 : Int32)))
                            first | (have a2417 : (x4 + (1 : Int32)).toInt = (x4).toInt + ((1 : Int32)).toInt := ti_add (by omega) (by omega)) | (have a2418 := ti_rg (x4 + (1 : Int32)))
                            have b2419 := NI_g21 ci2413 (c := 0) (p := 48) rfl
                            have e2420 : (mz_gI t2411 0 48).toInt = (mz_gI q2286 0 48).toInt := by rw [E2412, gI_oth _ _ (by simp)]
                            have b2421 := NI_g22 ci2413 (c := 0) (p := 51) rfl
                            have e2422 : (mz_gI t2411 0 51).toInt = (mz_gI q2286 0 51).toInt := by rw [E2412, gI_oth _ _ (by simp)]
                            have b2423 := NI_13 ci2413 (c := 0) (p := 60) rfl
                            exact ih (x1 + (1 : Int32)) (x2 - (1 : Int32)) (x4 + (1 : Int32)) (x4 + (1 : Int32)) t2411 ci2413 (by omega) (by omega) (by omega) (by omega) (by omega) (by omega) (by omega) (by omega) (by omega) (by omega) (by omega) (by omega) (by omega)
                      · have g2424 := ti_nq h2367
                        have l2425 : ((41 : Int32)).toInt = 41 := rfl
                        unfold f_MO_readTexts_141
                        refine Tp_if (fun h2426 => ?_) (fun h2426 => ?_)
                        · have g2427 := ti_q h2426
                          unfold f_MO_readTexts_158
                          unfold f_MO_readTexts_159
                          refine Tp_gd (ti_b (by omega) (by omega)) ?_
                          refine Tp_le (fun t2428 E2429 => ?_)
                          have ci2430 := NI_p2 ci2293 E2429 rfl (by omega) (by omega)
                          have i2431 := ti_rg x1
                          have l2432 : ((1 : Int32)).toInt = 1 := rfl
                          first | (have a2433 : (x1 + (1 : Int32)).toInt = (x1).toInt + ((1 : Int32)).toInt := ti_add (by omega) (by omega)) | (have a2434 := ti_rg (x1 + (1 : Int32)))
                          first | (have a2435 : (x4 + (1 : Int32)).toInt = (x4).toInt + ((1 : Int32)).toInt := ti_add (by omega) (by omega)) | (have a2436 := ti_rg (x4 + (1 : Int32)))
                          have b2437 := NI_g21 ci2430 (c := 0) (p := 48) rfl
                          have e2438 : (mz_gI t2428 0 48).toInt = (mz_gI q2286 0 48).toInt := by rw [E2429, gI_oth _ _ (by simp)]
                          have b2439 := NI_g22 ci2430 (c := 0) (p := 51) rfl
                          have e2440 : (mz_gI t2428 0 51).toInt = (mz_gI q2286 0 51).toInt := by rw [E2429, gI_oth _ _ (by simp)]
                          have b2441 := NI_13 ci2430 (c := 0) (p := 60) rfl
                          exact ih (x1 + (1 : Int32)) x2 (x4 + (1 : Int32)) (x4 + (1 : Int32)) t2428 ci2430 (by omega) (by omega) (by omega) (by omega) (by omega) (by omega) (by omega) (by omega) (by omega) (by omega) (by omega) (by omega) (by omega)
                        · have g2442 := ti_nq h2426
                          refine Tp_if (fun h2443 => ?_) (fun h2443 => ?_)
                          · have g2444 := ti_l h2443
                            unfold f_MO_readTexts_158
                            unfold f_MO_readTexts_159
                            refine Tp_gd (ti_b (by omega) (by omega)) ?_
                            refine Tp_le (fun t2445 E2446 => ?_)
                            have ci2447 := NI_p2 ci2293 E2446 rfl (by omega) (by omega)
                            have i2448 := ti_rg x1
                            have l2449 : ((1 : Int32)).toInt = 1 := rfl
                            first | (have a2450 : (x1 + (1 : Int32)).toInt = (x1).toInt + ((1 : Int32)).toInt := ti_add (by omega) (by omega)) | (have a2451 := ti_rg (x1 + (1 : Int32)))
                            first | (have a2452 : (x4 + (1 : Int32)).toInt = (x4).toInt + ((1 : Int32)).toInt := ti_add (by omega) (by omega)) | (have a2453 := ti_rg (x4 + (1 : Int32)))
                            have b2454 := NI_g21 ci2447 (c := 0) (p := 48) rfl
                            have e2455 : (mz_gI t2445 0 48).toInt = (mz_gI q2286 0 48).toInt := by rw [E2446, gI_oth _ _ (by simp)]
                            have b2456 := NI_g22 ci2447 (c := 0) (p := 51) rfl
                            have e2457 : (mz_gI t2445 0 51).toInt = (mz_gI q2286 0 51).toInt := by rw [E2446, gI_oth _ _ (by simp)]
                            have b2458 := NI_13 ci2447 (c := 0) (p := 60) rfl
                            exact ih (x1 + (1 : Int32)) x2 (x4 + (1 : Int32)) (x4 + (1 : Int32)) t2445 ci2447 (by omega) (by omega) (by omega) (by omega) (by omega) (by omega) (by omega) (by omega) (by omega) (by omega) (by omega) (by omega) (by omega)
                          · have g2459 := ti_nl h2443
                            unfold f_MO_readTexts_159
                            have l2460 : ((1 : Int32)).toInt = 1 := rfl
                            refine Tp_gd (ti_b (by omega) (by omega)) ?_
                            refine Tp_le (fun t2461 E2462 => ?_)
                            have ci2463 := NI_p2 ci2293 E2462 rfl (by omega) (by omega)
                            have i2464 := ti_rg x1
                            first | (have a2465 : (x1 + (1 : Int32)).toInt = (x1).toInt + ((1 : Int32)).toInt := ti_add (by omega) (by omega)) | (have a2466 := ti_rg (x1 + (1 : Int32)))
                            first | (have a2467 : (x4 + (1 : Int32)).toInt = (x4).toInt + ((1 : Int32)).toInt := ti_add (by omega) (by omega)) | (have a2468 := ti_rg (x4 + (1 : Int32)))
                            have b2469 := NI_g21 ci2463 (c := 0) (p := 48) rfl
                            have e2470 : (mz_gI t2461 0 48).toInt = (mz_gI q2286 0 48).toInt := by rw [E2462, gI_oth _ _ (by simp)]
                            have b2471 := NI_g22 ci2463 (c := 0) (p := 51) rfl
                            have e2472 : (mz_gI t2461 0 51).toInt = (mz_gI q2286 0 51).toInt := by rw [E2462, gI_oth _ _ (by simp)]
                            have b2473 := NI_13 ci2463 (c := 0) (p := 60) rfl
                            exact ih (x1 + (1 : Int32)) x2 (x4 + (1 : Int32)) (x4 + (1 : Int32)) t2461 ci2463 (by omega) (by omega) (by omega) (by omega) (by omega) (by omega) (by omega) (by omega) (by omega) (by omega) (by omega) (by omega) (by omega)
        · have g2474 := ti_nq h230
          have l2475 : ((44 : Int32)).toInt = 44 := rfl
          unfold f_MO_readTexts_71
          unfold f_MO_readTexts_72
          refine Tp_if (fun h2476 => ?_) (fun h2476 => ?_)
          · have g2477 := ti_q h2476
            have l2478 : ((0 : Int32)).toInt = 0 := rfl
            have l2479 : (0 : Int32).toInt = 0 := rfl
            unfold f_MO_readTexts_114
            refine Tp_if (fun h2480 => ?_) (fun h2480 => ?_)
            · have g2481 := ti_q h2480
              have l2482 : ((40 : Int32)).toInt = 40 := rfl
              unfold f_MO_readTexts_141
              refine Tp_if (fun h2483 => ?_) (fun h2483 => ?_)
              · have g2484 := ti_q h2483
                have b2485 := NI_g2 ci (c := 0) (p := 62) rfl
                unfold f_MO_readTexts_158
                unfold f_MO_readTexts_159
                refine Tp_gd (ti_b (by omega) (by omega)) ?_
                refine Tp_le (fun t2486 E2487 => ?_)
                have l2489 : (62 : Int32).toInt = 62 := rfl
                have ci2488 := NI_p2 ci E2487 rfl (by omega) (by omega)
                have i2490 := ti_rg x1
                have i2491 := ti_rg x2
                have l2492 : ((1 : Int32)).toInt = 1 := rfl
                first | (have a2493 : (x2 + (1 : Int32)).toInt = (x2).toInt + ((1 : Int32)).toInt := ti_add (by omega) (by omega)) | (have a2494 := ti_rg (x2 + (1 : Int32)))
                have i2495 := ti_rg x3
                first | (have a2496 : (x4 + (1 : Int32)).toInt = (x4).toInt + ((1 : Int32)).toInt := ti_add (by omega) (by omega)) | (have a2497 := ti_rg (x4 + (1 : Int32)))
                have b2498 := NI_g21 ci2488 (c := 0) (p := 48) rfl
                have e2499 : (mz_gI t2486 0 48).toInt = (mz_gI t 0 48).toInt := by rw [E2487, gI_oth _ _ (by simp)]
                have b2500 := NI_g22 ci2488 (c := 0) (p := 51) rfl
                have e2501 : (mz_gI t2486 0 51).toInt = (mz_gI t 0 51).toInt := by rw [E2487, gI_oth _ _ (by simp)]
                have b2502 := NI_13 ci2488 (c := 0) (p := 60) rfl
                exact ih x1 (x2 + (1 : Int32)) x3 (x4 + (1 : Int32)) t2486 ci2488 (by omega) (by omega) (by omega) (by omega) (by omega) (by omega) (by omega) (by omega) (by omega) (by omega) (by omega) (by omega) (by omega)
              · have g2503 := ti_nq h2483
                have b2504 := NI_g2 ci (c := 0) (p := 62) rfl
                refine Tp_if (fun h2505 => ?_) (fun h2505 => ?_)
                · have g2506 := ti_l h2505
                  have i2507 := ti_rg x2
                  have l2508 : ((1 : Int32)).toInt = 1 := rfl
                  first | (have a2509 : (x2 + (1 : Int32)).toInt = (x2).toInt + ((1 : Int32)).toInt := ti_add (by omega) (by omega)) | (have a2510 := ti_rg (x2 + (1 : Int32)))
                  unfold f_MO_readTexts_158
                  unfold f_MO_readTexts_159
                  refine Tp_gd (ti_b (by omega) (by omega)) ?_
                  refine Tp_le (fun t2511 E2512 => ?_)
                  have l2514 : (62 : Int32).toInt = 62 := rfl
                  have ci2513 := NI_p2 ci E2512 rfl (by omega) (by omega)
                  have i2515 := ti_rg x1
                  have i2516 := ti_rg x3
                  first | (have a2517 : (x4 + (1 : Int32)).toInt = (x4).toInt + ((1 : Int32)).toInt := ti_add (by omega) (by omega)) | (have a2518 := ti_rg (x4 + (1 : Int32)))
                  have b2519 := NI_g21 ci2513 (c := 0) (p := 48) rfl
                  have e2520 : (mz_gI t2511 0 48).toInt = (mz_gI t 0 48).toInt := by rw [E2512, gI_oth _ _ (by simp)]
                  have b2521 := NI_g22 ci2513 (c := 0) (p := 51) rfl
                  have e2522 : (mz_gI t2511 0 51).toInt = (mz_gI t 0 51).toInt := by rw [E2512, gI_oth _ _ (by simp)]
                  have b2523 := NI_13 ci2513 (c := 0) (p := 60) rfl
                  exact ih x1 (x2 + (1 : Int32)) x3 (x4 + (1 : Int32)) t2511 ci2513 (by omega) (by omega) (by omega) (by omega) (by omega) (by omega) (by omega) (by omega) (by omega) (by omega) (by omega) (by omega) (by omega)
                · have g2524 := ti_nl h2505
                  have i2525 := ti_rg x2
                  have l2526 : ((1 : Int32)).toInt = 1 := rfl
                  first | (have a2527 : (x2 + (1 : Int32)).toInt = (x2).toInt + ((1 : Int32)).toInt := ti_add (by omega) (by omega)) | (have a2528 := ti_rg (x2 + (1 : Int32)))
                  unfold f_MO_readTexts_159
                  refine Tp_gd (ti_b (by omega) (by omega)) ?_
                  refine Tp_le (fun t2529 E2530 => ?_)
                  have l2532 : (62 : Int32).toInt = 62 := rfl
                  have ci2531 := NI_p2 ci E2530 rfl (by omega) (by omega)
                  have i2533 := ti_rg x1
                  have i2534 := ti_rg x3
                  first | (have a2535 : (x4 + (1 : Int32)).toInt = (x4).toInt + ((1 : Int32)).toInt := ti_add (by omega) (by omega)) | (have a2536 := ti_rg (x4 + (1 : Int32)))
                  have b2537 := NI_g21 ci2531 (c := 0) (p := 48) rfl
                  have e2538 : (mz_gI t2529 0 48).toInt = (mz_gI t 0 48).toInt := by rw [E2530, gI_oth _ _ (by simp)]
                  have b2539 := NI_g22 ci2531 (c := 0) (p := 51) rfl
                  have e2540 : (mz_gI t2529 0 51).toInt = (mz_gI t 0 51).toInt := by rw [E2530, gI_oth _ _ (by simp)]
                  have b2541 := NI_13 ci2531 (c := 0) (p := 60) rfl
                  exact ih x1 (x2 + (1 : Int32)) x3 (x4 + (1 : Int32)) t2529 ci2531 (by omega) (by omega) (by omega) (by omega) (by omega) (by omega) (by omega) (by omega) (by omega) (by omega) (by omega) (by omega) (by omega)
            · have g2542 := ti_nq h2480
              have l2543 : ((40 : Int32)).toInt = 40 := rfl
              refine Tp_if (fun h2544 => ?_) (fun h2544 => ?_)
              · have g2545 := ti_q h2544
                have l2546 : ((41 : Int32)).toInt = 41 := rfl
                unfold f_MO_readTexts_141
                refine Tp_if (fun h2547 => ?_) (fun h2547 => ?_)
                · have g2548 := ti_q h2547
                  have b2549 := NI_g2 ci (c := 0) (p := 62) rfl
                  unfold f_MO_readTexts_158
                  unfold f_MO_readTexts_159
                  refine Tp_gd (ti_b (by omega) (by omega)) ?_
                  refine Tp_le (fun t2550 E2551 => ?_)
                  have l2553 : (62 : Int32).toInt = 62 := rfl
                  have ci2552 := NI_p2 ci E2551 rfl (by omega) (by omega)
                  have i2554 := ti_rg x1
                  have i2555 := ti_rg x2
                  have l2556 : ((1 : Int32)).toInt = 1 := rfl
                  first | (have a2557 : (x2 - (1 : Int32)).toInt = (x2).toInt - ((1 : Int32)).toInt := ti_sub (by omega) (by omega)) | (have a2558 := ti_rg (x2 - (1 : Int32)))
                  have i2559 := ti_rg x3
                  first | (have a2560 : (x4 + (1 : Int32)).toInt = (x4).toInt + ((1 : Int32)).toInt := ti_add (by omega) (by omega)) | (have a2561 := ti_rg (x4 + (1 : Int32)))
                  have b2562 := NI_g21 ci2552 (c := 0) (p := 48) rfl
                  have e2563 : (mz_gI t2550 0 48).toInt = (mz_gI t 0 48).toInt := by rw [E2551, gI_oth _ _ (by simp)]
                  have b2564 := NI_g22 ci2552 (c := 0) (p := 51) rfl
                  have e2565 : (mz_gI t2550 0 51).toInt = (mz_gI t 0 51).toInt := by rw [E2551, gI_oth _ _ (by simp)]
                  have b2566 := NI_13 ci2552 (c := 0) (p := 60) rfl
                  exact ih x1 (x2 - (1 : Int32)) x3 (x4 + (1 : Int32)) t2550 ci2552 (by omega) (by omega) (by omega) (by omega) (by omega) (by omega) (by omega) (by omega) (by omega) (by omega) (by omega) (by omega) (by omega)
                · have g2567 := ti_nq h2547
                  have b2568 := NI_g2 ci (c := 0) (p := 62) rfl
                  refine Tp_if (fun h2569 => ?_) (fun h2569 => ?_)
                  · have g2570 := ti_l h2569
                    have i2571 := ti_rg x2
                    have l2572 : ((1 : Int32)).toInt = 1 := rfl
                    first | (have a2573 : (x2 - (1 : Int32)).toInt = (x2).toInt - ((1 : Int32)).toInt := ti_sub (by omega) (by omega)) | (have a2574 := ti_rg (x2 - (1 : Int32)))
                    unfold f_MO_readTexts_158
                    unfold f_MO_readTexts_159
                    refine Tp_gd (ti_b (by omega) (by omega)) ?_
                    refine Tp_le (fun t2575 E2576 => ?_)
                    have l2578 : (62 : Int32).toInt = 62 := rfl
                    have ci2577 := NI_p2 ci E2576 rfl (by omega) (by omega)
                    have i2579 := ti_rg x1
                    have i2580 := ti_rg x3
                    first | (have a2581 : (x4 + (1 : Int32)).toInt = (x4).toInt + ((1 : Int32)).toInt := ti_add (by omega) (by omega)) | (have a2582 := ti_rg (x4 + (1 : Int32)))
                    have b2583 := NI_g21 ci2577 (c := 0) (p := 48) rfl
                    have e2584 : (mz_gI t2575 0 48).toInt = (mz_gI t 0 48).toInt := by rw [E2576, gI_oth _ _ (by simp)]
                    have b2585 := NI_g22 ci2577 (c := 0) (p := 51) rfl
                    have e2586 : (mz_gI t2575 0 51).toInt = (mz_gI t 0 51).toInt := by rw [E2576, gI_oth _ _ (by simp)]
                    have b2587 := NI_13 ci2577 (c := 0) (p := 60) rfl
                    exact ih x1 (x2 - (1 : Int32)) x3 (x4 + (1 : Int32)) t2575 ci2577 (by omega) (by omega) (by omega) (by omega) (by omega) (by omega) (by omega) (by omega) (by omega) (by omega) (by omega) (by omega) (by omega)
                  · have g2588 := ti_nl h2569
                    have i2589 := ti_rg x2
                    have l2590 : ((1 : Int32)).toInt = 1 := rfl
                    first | (have a2591 : (x2 - (1 : Int32)).toInt = (x2).toInt - ((1 : Int32)).toInt := ti_sub (by omega) (by omega)) | (have a2592 := ti_rg (x2 - (1 : Int32)))
                    unfold f_MO_readTexts_159
                    refine Tp_gd (ti_b (by omega) (by omega)) ?_
                    refine Tp_le (fun t2593 E2594 => ?_)
                    have l2596 : (62 : Int32).toInt = 62 := rfl
                    have ci2595 := NI_p2 ci E2594 rfl (by omega) (by omega)
                    have i2597 := ti_rg x1
                    have i2598 := ti_rg x3
                    first | (have a2599 : (x4 + (1 : Int32)).toInt = (x4).toInt + ((1 : Int32)).toInt := ti_add (by omega) (by omega)) | (have a2600 := ti_rg (x4 + (1 : Int32)))
                    have b2601 := NI_g21 ci2595 (c := 0) (p := 48) rfl
                    have e2602 : (mz_gI t2593 0 48).toInt = (mz_gI t 0 48).toInt := by rw [E2594, gI_oth _ _ (by simp)]
                    have b2603 := NI_g22 ci2595 (c := 0) (p := 51) rfl
                    have e2604 : (mz_gI t2593 0 51).toInt = (mz_gI t 0 51).toInt := by rw [E2594, gI_oth _ _ (by simp)]
                    have b2605 := NI_13 ci2595 (c := 0) (p := 60) rfl
                    exact ih x1 (x2 - (1 : Int32)) x3 (x4 + (1 : Int32)) t2593 ci2595 (by omega) (by omega) (by omega) (by omega) (by omega) (by omega) (by omega) (by omega) (by omega) (by omega) (by omega) (by omega) (by omega)
              · have g2606 := ti_nq h2544
                have l2607 : ((41 : Int32)).toInt = 41 := rfl
                unfold f_MO_readTexts_141
                refine Tp_if (fun h2608 => ?_) (fun h2608 => ?_)
                · have g2609 := ti_q h2608
                  have b2610 := NI_g2 ci (c := 0) (p := 62) rfl
                  unfold f_MO_readTexts_158
                  unfold f_MO_readTexts_159
                  refine Tp_gd (ti_b (by omega) (by omega)) ?_
                  refine Tp_le (fun t2611 E2612 => ?_)
                  have l2614 : (62 : Int32).toInt = 62 := rfl
                  have ci2613 := NI_p2 ci E2612 rfl (by omega) (by omega)
                  have i2615 := ti_rg x1
                  have i2616 := ti_rg x2
                  have i2617 := ti_rg x3
                  have l2618 : ((1 : Int32)).toInt = 1 := rfl
                  first | (have a2619 : (x4 + (1 : Int32)).toInt = (x4).toInt + ((1 : Int32)).toInt := ti_add (by omega) (by omega)) | (have a2620 := ti_rg (x4 + (1 : Int32)))
                  have b2621 := NI_g21 ci2613 (c := 0) (p := 48) rfl
                  have e2622 : (mz_gI t2611 0 48).toInt = (mz_gI t 0 48).toInt := by rw [E2612, gI_oth _ _ (by simp)]
                  have b2623 := NI_g22 ci2613 (c := 0) (p := 51) rfl
                  have e2624 : (mz_gI t2611 0 51).toInt = (mz_gI t 0 51).toInt := by rw [E2612, gI_oth _ _ (by simp)]
                  have b2625 := NI_13 ci2613 (c := 0) (p := 60) rfl
                  exact ih x1 x2 x3 (x4 + (1 : Int32)) t2611 ci2613 (by omega) (by omega) (by omega) (by omega) (by omega) (by omega) (by omega) (by omega) (by omega) (by omega) (by omega) (by omega) (by omega)
                · have g2626 := ti_nq h2608
                  have b2627 := NI_g2 ci (c := 0) (p := 62) rfl
                  refine Tp_if (fun h2628 => ?_) (fun h2628 => ?_)
                  · have g2629 := ti_l h2628
                    have i2630 := ti_rg x2
                    unfold f_MO_readTexts_158
                    unfold f_MO_readTexts_159
                    refine Tp_gd (ti_b (by omega) (by omega)) ?_
                    refine Tp_le (fun t2631 E2632 => ?_)
                    have l2634 : (62 : Int32).toInt = 62 := rfl
                    have ci2633 := NI_p2 ci E2632 rfl (by omega) (by omega)
                    have i2635 := ti_rg x1
                    have i2636 := ti_rg x3
                    have l2637 : ((1 : Int32)).toInt = 1 := rfl
                    first | (have a2638 : (x4 + (1 : Int32)).toInt = (x4).toInt + ((1 : Int32)).toInt := ti_add (by omega) (by omega)) | (have a2639 := ti_rg (x4 + (1 : Int32)))
                    have b2640 := NI_g21 ci2633 (c := 0) (p := 48) rfl
                    have e2641 : (mz_gI t2631 0 48).toInt = (mz_gI t 0 48).toInt := by rw [E2632, gI_oth _ _ (by simp)]
                    have b2642 := NI_g22 ci2633 (c := 0) (p := 51) rfl
                    have e2643 : (mz_gI t2631 0 51).toInt = (mz_gI t 0 51).toInt := by rw [E2632, gI_oth _ _ (by simp)]
                    have b2644 := NI_13 ci2633 (c := 0) (p := 60) rfl
                    exact ih x1 x2 x3 (x4 + (1 : Int32)) t2631 ci2633 (by omega) (by omega) (by omega) (by omega) (by omega) (by omega) (by omega) (by omega) (by omega) (by omega) (by omega) (by omega) (by omega)
                  · have g2645 := ti_nl h2628
                    have i2646 := ti_rg x2
                    unfold f_MO_readTexts_159
                    have l2647 : ((1 : Int32)).toInt = 1 := rfl
                    refine Tp_gd (ti_b (by omega) (by omega)) ?_
                    refine Tp_le (fun t2648 E2649 => ?_)
                    have l2651 : (62 : Int32).toInt = 62 := rfl
                    have ci2650 := NI_p2 ci E2649 rfl (by omega) (by omega)
                    have i2652 := ti_rg x1
                    have i2653 := ti_rg x3
                    first | (have a2654 : (x4 + (1 : Int32)).toInt = (x4).toInt + ((1 : Int32)).toInt := ti_add (by omega) (by omega)) | (have a2655 := ti_rg (x4 + (1 : Int32)))
                    have b2656 := NI_g21 ci2650 (c := 0) (p := 48) rfl
                    have e2657 : (mz_gI t2648 0 48).toInt = (mz_gI t 0 48).toInt := by rw [E2649, gI_oth _ _ (by simp)]
                    have b2658 := NI_g22 ci2650 (c := 0) (p := 51) rfl
                    have e2659 : (mz_gI t2648 0 51).toInt = (mz_gI t 0 51).toInt := by rw [E2649, gI_oth _ _ (by simp)]
                    have b2660 := NI_13 ci2650 (c := 0) (p := 60) rfl
                    exact ih x1 x2 x3 (x4 + (1 : Int32)) t2648 ci2650 (by omega) (by omega) (by omega) (by omega) (by omega) (by omega) (by omega) (by omega) (by omega) (by omega) (by omega) (by omega) (by omega)
          · have g2661 := ti_nq h2476
            have l2662 : ((0 : Int32)).toInt = 0 := rfl
            have l2663 : (0 : Int32).toInt = 0 := rfl
            refine Tp_if (fun h2664 => ?_) (fun h2664 => ?_)
            · have g2665 := ti_q h2664
              have b2666 := NI_g2 ci (c := 0) (p := 62) rfl
              unfold f_MO_readTexts_95
              unfold f_MO_readTexts_96
              refine Tp_gd (ti_b (by omega) (by omega)) ?_
              refine Tp_le (fun t2667 E2668 => ?_)
              have l2670 : (62 : Int32).toInt = 62 := rfl
              have ci2669 := NI_p2 ci E2668 rfl (by omega) (by omega)
              have i2673 := ti_rg x3
              have b2674 := NI_g21 ci2669 (c := 0) (p := 48) rfl
              have e2675 : (mz_gI t2667 0 48).toInt = (mz_gI t 0 48).toInt := by rw [E2668, gI_oth _ _ (by simp)]
              have b2676 := NI_g22 ci2669 (c := 0) (p := 51) rfl
              have e2677 : (mz_gI t2667 0 51).toInt = (mz_gI t 0 51).toInt := by rw [E2668, gI_oth _ _ (by simp)]
              refine Tp_bi (s_MO_hold hn ci2669 (by omega) (by omega) (by omega) (by omega) (by omega) (t := t2667) (x1 := x3) (x2 := x4)) (fun q2671 h2672 => ?_)
              obtain ⟨ci2678, p2679, p2680, p2681, p2682, p2683⟩ := h2672
              have b2684 := NI_g24 ci2669 (c := 0) (p := 61) rfl
              have e2685 : (mz_gI t2667 0 61).toInt = (mz_gI t 0 61).toInt := by rw [E2668, gI_oth _ _ (by simp)]
              have b2686 := NI_g24 ci (c := 0) (p := 61) rfl
              have b2687 := NI_g2 ci2669 (c := 0) (p := 62) rfl
              have e2688 : (mz_gI t2667 0 62).toInt = ((0 : Int32)).toInt := by rw [E2668, gI_same]
              have b2689 := NI_g21 ci2678 (c := 0) (p := 48) rfl
              have b2690 := NI_g22 ci2678 (c := 0) (p := 51) rfl
              have b2691 := NI_g24 ci2678 (c := 0) (p := 61) rfl
              have b2692 := NI_g2 ci2678 (c := 0) (p := 62) rfl
              unfold f_MO_readTexts_114
              refine Tp_if (fun h2693 => ?_) (fun h2693 => ?_)
              · have g2694 := ti_q h2693
                have l2695 : ((40 : Int32)).toInt = 40 := rfl
                unfold f_MO_readTexts_141
                refine Tp_if (fun h2696 => ?_) (fun h2696 => ?_)
                · have g2697 := ti_q h2696
                  unfold f_MO_readTexts_158
                  unfold f_MO_readTexts_159
                  refine Tp_gd (ti_b (by omega) (by omega)) ?_
                  refine Tp_le (fun t2698 E2699 => ?_)
                  have ci2700 := NI_p2 ci2678 E2699 rfl (by omega) (by omega)
                  have i2701 := ti_rg x1
                  have l2702 : ((1 : Int32)).toInt = 1 := rfl
                  first | (have a2703 : (x1 + (1 : Int32)).toInt = (x1).toInt + ((1 : Int32)).toInt := ti_add (by omega) (by omega)) | (have a2704 := ti_rg (x1 + (1 : Int32)))
                  have i2705 := ti_rg x2
                  first | (have a2706 : (x2 + (1 : Int32)).toInt = (x2).toInt + ((1 : Int32)).toInt := ti_add (by omega) (by omega)) | (have a2707 := ti_rg (x2 + (1 : Int32)))
                  first | (have a2708 : (x4 + (1 : Int32)).toInt = (x4).toInt + ((1 : Int32)).toInt := ti_add (by omega) (by omega)) | (have a2709 := ti_rg (x4 + (1 : Int32)))
                  have b2710 := NI_g21 ci2700 (c := 0) (p := 48) rfl
                  have e2711 : (mz_gI t2698 0 48).toInt = (mz_gI q2671 0 48).toInt := by rw [E2699, gI_oth _ _ (by simp)]
                  have b2712 := NI_g22 ci2700 (c := 0) (p := 51) rfl
                  have e2713 : (mz_gI t2698 0 51).toInt = (mz_gI q2671 0 51).toInt := by rw [E2699, gI_oth _ _ (by simp)]
                  have b2714 := NI_13 ci2700 (c := 0) (p := 60) rfl
                  exact ih (x1 + (1 : Int32)) (x2 + (1 : Int32)) (x4 + (1 : Int32)) (x4 + (1 : Int32)) t2698 ci2700 (by omega) (by omega) (by omega) (by omega) (by omega) (by omega) (by omega) (by omega) (by omega) (by omega) (by omega) (by omega) (by omega)
                · have g2715 := ti_nq h2696
                  refine Tp_if (fun h2716 => ?_) (fun h2716 => ?_)
                  · have g2717 := ti_l h2716
                    have i2718 := ti_rg x2
                    have l2719 : ((1 : Int32)).toInt = 1 := rfl
                    first | (have a2720 : (x2 + (1 : Int32)).toInt = (x2).toInt + ((1 : Int32)).toInt := ti_add (by omega) (by omega)) | (have a2721 := ti_rg (x2 + (1 : Int32)))
                    unfold f_MO_readTexts_158
                    unfold f_MO_readTexts_159
                    refine Tp_gd (ti_b (by omega) (by omega)) ?_
                    refine Tp_le (fun t2722 E2723 => ?_)
                    have ci2724 := NI_p2 ci2678 E2723 rfl (by omega) (by omega)
                    have i2725 := ti_rg x1
                    first | (have a2726 : (x1 + (1 : Int32)).toInt = (x1).toInt + ((1 : Int32)).toInt := ti_add (by omega) (by omega)) | (have a2727 := ti_rg (x1 + (1 : Int32)))
                    first | (have a2728 : (x4 + (1 : Int32)).toInt = (x4).toInt + ((1 : Int32)).toInt := ti_add (by omega) (by omega)) | (have a2729 := ti_rg (x4 + (1 : Int32)))
                    have b2730 := NI_g21 ci2724 (c := 0) (p := 48) rfl
                    have e2731 : (mz_gI t2722 0 48).toInt = (mz_gI q2671 0 48).toInt := by rw [E2723, gI_oth _ _ (by simp)]
                    have b2732 := NI_g22 ci2724 (c := 0) (p := 51) rfl
                    have e2733 : (mz_gI t2722 0 51).toInt = (mz_gI q2671 0 51).toInt := by rw [E2723, gI_oth _ _ (by simp)]
                    have b2734 := NI_13 ci2724 (c := 0) (p := 60) rfl
                    exact ih (x1 + (1 : Int32)) (x2 + (1 : Int32)) (x4 + (1 : Int32)) (x4 + (1 : Int32)) t2722 ci2724 (by omega) (by omega) (by omega) (by omega) (by omega) (by omega) (by omega) (by omega) (by omega) (by omega) (by omega) (by omega) (by omega)
                  · have g2735 := ti_nl h2716
                    have i2736 := ti_rg x2
                    have l2737 : ((1 : Int32)).toInt = 1 := rfl
                    first | (have a2738 : (x2 + (1 : Int32)).toInt = (x2).toInt + ((1 : Int32)).toInt := ti_add (by omega) (by omega)) | (have a2739 := ti_rg (x2 + (1 : Int32)))
                    unfold f_MO_readTexts_159
                    refine Tp_gd (ti_b (by omega) (by omega)) ?_
                    refine Tp_le (fun t2740 E2741 => ?_)
                    have ci2742 := NI_p2 ci2678 E2741 rfl (by omega) (by omega)
                    have i2743 := ti_rg x1
                    first | (have a2744 : (x1 + (1 : Int32)).toInt = (x1).toInt + ((1 : Int32)).toInt := ti_add (by omega) (by omega)) | (have a2745 := ti_rg (x1 + (1 : Int32)))
                    first | (have a2746 : (x4 + (1 : Int32)).toInt = (x4).toInt + ((1 : Int32)).toInt := ti_add (by omega) (by omega)) | (have a2747 := ti_rg (x4 + (1 : Int32)))
                    have b2748 := NI_g21 ci2742 (c := 0) (p := 48) rfl
                    have e2749 : (mz_gI t2740 0 48).toInt = (mz_gI q2671 0 48).toInt := by rw [E2741, gI_oth _ _ (by simp)]
                    have b2750 := NI_g22 ci2742 (c := 0) (p := 51) rfl
                    have e2751 : (mz_gI t2740 0 51).toInt = (mz_gI q2671 0 51).toInt := by rw [E2741, gI_oth _ _ (by simp)]
                    have b2752 := NI_13 ci2742 (c := 0) (p := 60) rfl
                    exact ih (x1 + (1 : Int32)) (x2 + (1 : Int32)) (x4 + (1 : Int32)) (x4 + (1 : Int32)) t2740 ci2742 (by omega) (by omega) (by omega) (by omega) (by omega) (by omega) (by omega) (by omega) (by omega) (by omega) (by omega) (by omega) (by omega)
              · have g2753 := ti_nq h2693
                have l2754 : ((40 : Int32)).toInt = 40 := rfl
                refine Tp_if (fun h2755 => ?_) (fun h2755 => ?_)
                · have g2756 := ti_q h2755
                  have l2757 : ((41 : Int32)).toInt = 41 := rfl
                  unfold f_MO_readTexts_141
                  refine Tp_if (fun h2758 => ?_) (fun h2758 => ?_)
                  · have g2759 := ti_q h2758
                    unfold f_MO_readTexts_158
                    unfold f_MO_readTexts_159
                    refine Tp_gd (ti_b (by omega) (by omega)) ?_
                    refine Tp_le (fun t2760 E2761 => ?_)
                    have ci2762 := NI_p2 ci2678 E2761 rfl (by omega) (by omega)
                    have i2763 := ti_rg x1
                    have l2764 : ((1 : Int32)).toInt = 1 := rfl
                    first | (have a2765 : (x1 + (1 : Int32)).toInt = (x1).toInt + ((1 : Int32)).toInt := ti_add (by omega) (by omega)) | (have a2766 := ti_rg (x1 + (1 : Int32)))
                    have i2767 := ti_rg x2
                    first | (have a2768 : (x2 - (1 : Int32)).toInt = (x2).toInt - ((1 : Int32)).toInt := ti_sub (by omega) (by omega)) | (have a2769 := ti_rg (x2 - (1 : Int32)))
                    first | (have a2770 : (x4 + (1 : Int32)).toInt = (x4).toInt + ((1 : Int32)).toInt := ti_add (by omega) (by omega)) | (have a2771 := ti_rg (x4 + (1 : Int32)))
                    have b2772 := NI_g21 ci2762 (c := 0) (p := 48) rfl
                    have e2773 : (mz_gI t2760 0 48).toInt = (mz_gI q2671 0 48).toInt := by rw [E2761, gI_oth _ _ (by simp)]
                    have b2774 := NI_g22 ci2762 (c := 0) (p := 51) rfl
                    have e2775 : (mz_gI t2760 0 51).toInt = (mz_gI q2671 0 51).toInt := by rw [E2761, gI_oth _ _ (by simp)]
                    have b2776 := NI_13 ci2762 (c := 0) (p := 60) rfl
                    exact ih (x1 + (1 : Int32)) (x2 - (1 : Int32)) (x4 + (1 : Int32)) (x4 + (1 : Int32)) t2760 ci2762 (by omega) (by omega) (by omega) (by omega) (by omega) (by omega) (by omega) (by omega) (by omega) (by omega) (by omega) (by omega) (by omega)
                  · have g2777 := ti_nq h2758
                    refine Tp_if (fun h2778 => ?_) (fun h2778 => ?_)
                    · have g2779 := ti_l h2778
                      have i2780 := ti_rg x2
                      have l2781 : ((1 : Int32)).toInt = 1 := rfl
                      first | (have a2782 : (x2 - (1 : Int32)).toInt = (x2).toInt - ((1 : Int32)).toInt := ti_sub (by omega) (by omega)) | (have a2783 := ti_rg (x2 - (1 : Int32)))
                      unfold f_MO_readTexts_158
                      unfold f_MO_readTexts_159
                      refine Tp_gd (ti_b (by omega) (by omega)) ?_
                      refine Tp_le (fun t2784 E2785 => ?_)
                      have ci2786 := NI_p2 ci2678 E2785 rfl (by omega) (by omega)
                      have i2787 := ti_rg x1
                      first | (have a2788 : (x1 + (1 : Int32)).toInt = (x1).toInt + ((1 : Int32)).toInt := ti_add (by omega) (by omega)) | (have a2789 := ti_rg (x1 + (1 : Int32)))
                      first | (have a2790 : (x4 + (1 : Int32)).toInt = (x4).toInt + ((1 : Int32)).toInt := ti_add (by omega) (by omega)) | (have a2791 := ti_rg (x4 + (1 : Int32)))
                      have b2792 := NI_g21 ci2786 (c := 0) (p := 48) rfl
                      have e2793 : (mz_gI t2784 0 48).toInt = (mz_gI q2671 0 48).toInt := by rw [E2785, gI_oth _ _ (by simp)]
                      have b2794 := NI_g22 ci2786 (c := 0) (p := 51) rfl
                      have e2795 : (mz_gI t2784 0 51).toInt = (mz_gI q2671 0 51).toInt := by rw [E2785, gI_oth _ _ (by simp)]
                      have b2796 := NI_13 ci2786 (c := 0) (p := 60) rfl
                      exact ih (x1 + (1 : Int32)) (x2 - (1 : Int32)) (x4 + (1 : Int32)) (x4 + (1 : Int32)) t2784 ci2786 (by omega) (by omega) (by omega) (by omega) (by omega) (by omega) (by omega) (by omega) (by omega) (by omega) (by omega) (by omega) (by omega)
                    · have g2797 := ti_nl h2778
                      have i2798 := ti_rg x2
                      have l2799 : ((1 : Int32)).toInt = 1 := rfl
                      first | (have a2800 : (x2 - (1 : Int32)).toInt = (x2).toInt - ((1 : Int32)).toInt := ti_sub (by omega) (by omega)) | (have a2801 := ti_rg (x2 - (1 : Int32)))
                      unfold f_MO_readTexts_159
                      refine Tp_gd (ti_b (by omega) (by omega)) ?_
                      refine Tp_le (fun t2802 E2803 => ?_)
                      have ci2804 := NI_p2 ci2678 E2803 rfl (by omega) (by omega)
                      have i2805 := ti_rg x1
                      first | (have a2806 : (x1 + (1 : Int32)).toInt = (x1).toInt + ((1 : Int32)).toInt := ti_add (by omega) (by omega)) | (have a2807 := ti_rg (x1 + (1 : Int32)))
                      first | (have a2808 : (x4 + (1 : Int32)).toInt = (x4).toInt + ((1 : Int32)).toInt := ti_add (by omega) (by omega)) | (have a2809 := ti_rg (x4 + (1 : Int32)))
                      have b2810 := NI_g21 ci2804 (c := 0) (p := 48) rfl
                      have e2811 : (mz_gI t2802 0 48).toInt = (mz_gI q2671 0 48).toInt := by rw [E2803, gI_oth _ _ (by simp)]
                      have b2812 := NI_g22 ci2804 (c := 0) (p := 51) rfl
                      have e2813 : (mz_gI t2802 0 51).toInt = (mz_gI q2671 0 51).toInt := by rw [E2803, gI_oth _ _ (by simp)]
                      have b2814 := NI_13 ci2804 (c := 0) (p := 60) rfl
                      exact ih (x1 + (1 : Int32)) (x2 - (1 : Int32)) (x4 + (1 : Int32)) (x4 + (1 : Int32)) t2802 ci2804 (by omega) (by omega) (by omega) (by omega) (by omega) (by omega) (by omega) (by omega) (by omega) (by omega) (by omega) (by omega) (by omega)
                · have g2815 := ti_nq h2755
                  have l2816 : ((41 : Int32)).toInt = 41 := rfl
                  unfold f_MO_readTexts_141
                  refine Tp_if (fun h2817 => ?_) (fun h2817 => ?_)
                  · have g2818 := ti_q h2817
                    unfold f_MO_readTexts_158
                    unfold f_MO_readTexts_159
                    refine Tp_gd (ti_b (by omega) (by omega)) ?_
                    refine Tp_le (fun t2819 E2820 => ?_)
                    have ci2821 := NI_p2 ci2678 E2820 rfl (by omega) (by omega)
                    have i2822 := ti_rg x1
                    have l2823 : ((1 : Int32)).toInt = 1 := rfl
                    first | (have a2824 : (x1 + (1 : Int32)).toInt = (x1).toInt + ((1 : Int32)).toInt := ti_add (by omega) (by omega)) | (have a2825 := ti_rg (x1 + (1 : Int32)))
                    have i2826 := ti_rg x2
                    first | (have a2827 : (x4 + (1 : Int32)).toInt = (x4).toInt + ((1 : Int32)).toInt := ti_add (by omega) (by omega)) | (have a2828 := ti_rg (x4 + (1 : Int32)))
                    have b2829 := NI_g21 ci2821 (c := 0) (p := 48) rfl
                    have e2830 : (mz_gI t2819 0 48).toInt = (mz_gI q2671 0 48).toInt := by rw [E2820, gI_oth _ _ (by simp)]
                    have b2831 := NI_g22 ci2821 (c := 0) (p := 51) rfl
                    have e2832 : (mz_gI t2819 0 51).toInt = (mz_gI q2671 0 51).toInt := by rw [E2820, gI_oth _ _ (by simp)]
                    have b2833 := NI_13 ci2821 (c := 0) (p := 60) rfl
                    exact ih (x1 + (1 : Int32)) x2 (x4 + (1 : Int32)) (x4 + (1 : Int32)) t2819 ci2821 (by omega) (by omega) (by omega) (by omega) (by omega) (by omega) (by omega) (by omega) (by omega) (by omega) (by omega) (by omega) (by omega)
                  · have g2834 := ti_nq h2817
                    refine Tp_if (fun h2835 => ?_) (fun h2835 => ?_)
                    · have g2836 := ti_l h2835
                      have i2837 := ti_rg x2
                      unfold f_MO_readTexts_158
                      unfold f_MO_readTexts_159
                      refine Tp_gd (ti_b (by omega) (by omega)) ?_
                      refine Tp_le (fun t2838 E2839 => ?_)
                      have ci2840 := NI_p2 ci2678 E2839 rfl (by omega) (by omega)
                      have i2841 := ti_rg x1
                      have l2842 : ((1 : Int32)).toInt = 1 := rfl
                      first | (have a2843 : (x1 + (1 : Int32)).toInt = (x1).toInt + ((1 : Int32)).toInt := ti_add (by omega) (by omega)) | (have a2844 := ti_rg (x1 + (1 : Int32)))
                      first | (have a2845 : (x4 + (1 : Int32)).toInt = (x4).toInt + ((1 : Int32)).toInt := ti_add (by omega) (by omega)) | (have a2846 := ti_rg (x4 + (1 : Int32)))
                      have b2847 := NI_g21 ci2840 (c := 0) (p := 48) rfl
                      have e2848 : (mz_gI t2838 0 48).toInt = (mz_gI q2671 0 48).toInt := by rw [E2839, gI_oth _ _ (by simp)]
                      have b2849 := NI_g22 ci2840 (c := 0) (p := 51) rfl
                      have e2850 : (mz_gI t2838 0 51).toInt = (mz_gI q2671 0 51).toInt := by rw [E2839, gI_oth _ _ (by simp)]
                      have b2851 := NI_13 ci2840 (c := 0) (p := 60) rfl
                      exact ih (x1 + (1 : Int32)) x2 (x4 + (1 : Int32)) (x4 + (1 : Int32)) t2838 ci2840 (by omega) (by omega) (by omega) (by omega) (by omega) (by omega) (by omega) (by omega) (by omega) (by omega) (by omega) (by omega) (by omega)
                    · have g2852 := ti_nl h2835
                      have i2853 := ti_rg x2
                      unfold f_MO_readTexts_159
                      have l2854 : ((1 : Int32)).toInt = 1 := rfl
                      refine Tp_gd (ti_b (by omega) (by omega)) ?_
                      refine Tp_le (fun t2855 E2856 => ?_)
                      have ci2857 := NI_p2 ci2678 E2856 rfl (by omega) (by omega)
                      have i2858 := ti_rg x1
                      first | (have a2859 : (x1 + (1 : Int32)).toInt = (x1).toInt + ((1 : Int32)).toInt := ti_add (by omega) (by omega)) | (have a2860 := ti_rg (x1 + (1 : Int32)))
                      first | (have a2861 : (x4 + (1 : Int32)).toInt = (x4).toInt + ((1 : Int32)).toInt := ti_add (by omega) (by omega)) | (have a2862 := ti_rg (x4 + (1 : Int32)))
                      have b2863 := NI_g21 ci2857 (c := 0) (p := 48) rfl
                      have e2864 : (mz_gI t2855 0 48).toInt = (mz_gI q2671 0 48).toInt := by rw [E2856, gI_oth _ _ (by simp)]
                      have b2865 := NI_g22 ci2857 (c := 0) (p := 51) rfl
                      have e2866 : (mz_gI t2855 0 51).toInt = (mz_gI q2671 0 51).toInt := by rw [E2856, gI_oth _ _ (by simp)]
                      have b2867 := NI_13 ci2857 (c := 0) (p := 60) rfl
                      exact ih (x1 + (1 : Int32)) x2 (x4 + (1 : Int32)) (x4 + (1 : Int32)) t2855 ci2857 (by omega) (by omega) (by omega) (by omega) (by omega) (by omega) (by omega) (by omega) (by omega) (by omega) (by omega) (by omega) (by omega)
            · have g2868 := ti_nq h2664
              have b2869 := NI_g2 ci (c := 0) (p := 62) rfl
              refine Tp_if (fun h2870 => ?_) (fun h2870 => ?_)
              · have g2871 := ti_q h2870
                have i2872 := ti_rg x2
                unfold f_MO_readTexts_96
                have l2873 : ((1 : Int32)).toInt = 1 := rfl
                refine Tp_gd (ti_b (by omega) (by omega)) ?_
                refine Tp_le (fun t2874 E2875 => ?_)
                have l2877 : (62 : Int32).toInt = 62 := rfl
                have ci2876 := NI_p2 ci E2875 rfl (by omega) (by omega)
                have i2880 := ti_rg x3
                have b2881 := NI_g21 ci2876 (c := 0) (p := 48) rfl
                have e2882 : (mz_gI t2874 0 48).toInt = (mz_gI t 0 48).toInt := by rw [E2875, gI_oth _ _ (by simp)]
                have b2883 := NI_g22 ci2876 (c := 0) (p := 51) rfl
                have e2884 : (mz_gI t2874 0 51).toInt = (mz_gI t 0 51).toInt := by rw [E2875, gI_oth _ _ (by simp)]
                refine Tp_bi (s_MO_hold hn ci2876 (by omega) (by omega) (by omega) (by omega) (by omega) (t := t2874) (x1 := x3) (x2 := x4)) (fun q2878 h2879 => ?_)
                obtain ⟨ci2885, p2886, p2887, p2888, p2889, p2890⟩ := h2879
                have b2891 := NI_g24 ci2876 (c := 0) (p := 61) rfl
                have e2892 : (mz_gI t2874 0 61).toInt = (mz_gI t 0 61).toInt := by rw [E2875, gI_oth _ _ (by simp)]
                have b2893 := NI_g24 ci (c := 0) (p := 61) rfl
                have b2894 := NI_g2 ci2876 (c := 0) (p := 62) rfl
                have e2895 : (mz_gI t2874 0 62).toInt = ((1 : Int32)).toInt := by rw [E2875, gI_same]
                have b2896 := NI_g21 ci2885 (c := 0) (p := 48) rfl
                have b2897 := NI_g22 ci2885 (c := 0) (p := 51) rfl
                have b2898 := NI_g24 ci2885 (c := 0) (p := 61) rfl
                have b2899 := NI_g2 ci2885 (c := 0) (p := 62) rfl
                unfold f_MO_readTexts_114
                refine Tp_if (fun h2900 => ?_) (fun h2900 => ?_)
                · have g2901 := ti_q h2900
                  have l2902 : ((40 : Int32)).toInt = 40 := rfl
                  unfold f_MO_readTexts_141
                  refine Tp_if (fun h2903 => ?_) (fun h2903 => ?_)
                  · have g2904 := ti_q h2903
                    unfold f_MO_readTexts_158
                    unfold f_MO_readTexts_159
                    refine Tp_gd (ti_b (by omega) (by omega)) ?_
                    refine Tp_le (fun t2905 E2906 => ?_)
                    have ci2907 := NI_p2 ci2885 E2906 rfl (by omega) (by omega)
                    have i2908 := ti_rg x1
                    first | (have a2909 : (x1 + (1 : Int32)).toInt = (x1).toInt + ((1 : Int32)).toInt := ti_add (by omega) (by omega)) | (have a2910 := ti_rg (x1 + (1 : Int32)))
                    first | (have a2911 : (x2 + (1 : Int32)).toInt = (x2).toInt + ((1 : Int32)).toInt := ti_add (by omega) (by omega)) | (have a2912 := ti_rg (x2 + (1 : Int32)))
                    first | (have a2913 : (x4 + (1 : Int32)).toInt = (x4).toInt + ((1 : Int32)).toInt := ti_add (by omega) (by omega)) | (have a2914 := ti_rg (x4 + (1 : Int32)))
                    have b2915 := NI_g21 ci2907 (c := 0) (p := 48) rfl
                    have e2916 : (mz_gI t2905 0 48).toInt = (mz_gI q2878 0 48).toInt := by rw [E2906, gI_oth _ _ (by simp)]
                    have b2917 := NI_g22 ci2907 (c := 0) (p := 51) rfl
                    have e2918 : (mz_gI t2905 0 51).toInt = (mz_gI q2878 0 51).toInt := by rw [E2906, gI_oth _ _ (by simp)]
                    have b2919 := NI_13 ci2907 (c := 0) (p := 60) rfl
                    exact ih (x1 + (1 : Int32)) (x2 + (1 : Int32)) (x4 + (1 : Int32)) (x4 + (1 : Int32)) t2905 ci2907 (by omega) (by omega) (by omega) (by omega) (by omega) (by omega) (by omega) (by omega) (by omega) (by omega) (by omega) (by omega) (by omega)
                  · have g2920 := ti_nq h2903
                    refine Tp_if (fun h2921 => ?_) (fun h2921 => ?_)
                    · have g2922 := ti_l h2921
                      first | (have a2923 : (x2 + (1 : Int32)).toInt = (x2).toInt + ((1 : Int32)).toInt := ti_add (by omega) (by omega)) | (have a2924 := ti_rg (x2 + (1 : Int32)))
                      unfold f_MO_readTexts_158
                      unfold f_MO_readTexts_159
                      refine Tp_gd (ti_b (by omega) (by omega)) ?_
                      refine Tp_le (fun t2925 E2926 => ?_)
                      have ci2927 := NI_p2 ci2885 E2926 rfl (by omega) (by omega)
                      have i2928 := ti_rg x1
                      first | (have a2929 : (x1 + (1 : Int32)).toInt = (x1).toInt + ((1 : Int32)).toInt := ti_add (by omega) (by omega)) | (have a2930 := ti_rg (x1 + (1 : Int32)))
                      first | (have a2931 : (x4 + (1 : Int32)).toInt = (x4).toInt + ((1 : Int32)).toInt := ti_add (by omega) (by omega)) | (have a2932 := ti_rg (x4 + (1 : Int32)))
                      have b2933 := NI_g21 ci2927 (c := 0) (p := 48) rfl
                      have e2934 : (mz_gI t2925 0 48).toInt = (mz_gI q2878 0 48).toInt := by rw [E2926, gI_oth _ _ (by simp)]
                      have b2935 := NI_g22 ci2927 (c := 0) (p := 51) rfl
                      have e2936 : (mz_gI t2925 0 51).toInt = (mz_gI q2878 0 51).toInt := by rw [E2926, gI_oth _ _ (by simp)]
                      have b2937 := NI_13 ci2927 (c := 0) (p := 60) rfl
                      exact ih (x1 + (1 : Int32)) (x2 + (1 : Int32)) (x4 + (1 : Int32)) (x4 + (1 : Int32)) t2925 ci2927 (by omega) (by omega) (by omega) (by omega) (by omega) (by omega) (by omega) (by omega) (by omega) (by omega) (by omega) (by omega) (by omega)
                    · have g2938 := ti_nl h2921
                      first | (have a2939 : (x2 + (1 : Int32)).toInt = (x2).toInt + ((1 : Int32)).toInt := ti_add (by omega) (by omega)) | (have a2940 := ti_rg (x2 + (1 : Int32)))
                      unfold f_MO_readTexts_159
                      refine Tp_gd (ti_b (by omega) (by omega)) ?_
                      refine Tp_le (fun t2941 E2942 => ?_)
                      have ci2943 := NI_p2 ci2885 E2942 rfl (by omega) (by omega)
                      have i2944 := ti_rg x1
                      first | (have a2945 : (x1 + (1 : Int32)).toInt = (x1).toInt + ((1 : Int32)).toInt := ti_add (by omega) (by omega)) | (have a2946 := ti_rg (x1 + (1 : Int32)))
                      first | (have a2947 : (x4 + (1 : Int32)).toInt = (x4).toInt + ((1 : Int32)).toInt := ti_add (by omega) (by omega)) | (have a2948 := ti_rg (x4 + (1 : Int32)))
                      have b2949 := NI_g21 ci2943 (c := 0) (p := 48) rfl
                      have e2950 : (mz_gI t2941 0 48).toInt = (mz_gI q2878 0 48).toInt := by rw [E2942, gI_oth _ _ (by simp)]
                      have b2951 := NI_g22 ci2943 (c := 0) (p := 51) rfl
                      have e2952 : (mz_gI t2941 0 51).toInt = (mz_gI q2878 0 51).toInt := by rw [E2942, gI_oth _ _ (by simp)]
                      have b2953 := NI_13 ci2943 (c := 0) (p := 60) rfl
                      exact ih (x1 + (1 : Int32)) (x2 + (1 : Int32)) (x4 + (1 : Int32)) (x4 + (1 : Int32)) t2941 ci2943 (by omega) (by omega) (by omega) (by omega) (by omega) (by omega) (by omega) (by omega) (by omega) (by omega) (by omega) (by omega) (by omega)
                · have g2954 := ti_nq h2900
                  have l2955 : ((40 : Int32)).toInt = 40 := rfl
                  refine Tp_if (fun h2956 => ?_) (fun h2956 => ?_)
                  · have g2957 := ti_q h2956
                    have l2958 : ((41 : Int32)).toInt = 41 := rfl
                    unfold f_MO_readTexts_141
                    refine Tp_if (fun h2959 => ?_) (fun h2959 => ?_)
                    · have g2960 := ti_q h2959
                      unfold f_MO_readTexts_158
                      unfold f_MO_readTexts_159
                      refine Tp_gd (ti_b (by omega) (by omega)) ?_
                      refine Tp_le (fun t2961 E2962 => ?_)
                      have ci2963 := NI_p2 ci2885 E2962 rfl (by omega) (by omega)
                      have i2964 := ti_rg x1
                      first | (have a2965 : (x1 + (1 : Int32)).toInt = (x1).toInt + ((1 : Int32)).toInt := ti_add (by omega) (by omega)) | (have a2966 := ti_rg (x1 + (1 : Int32)))
                      first | (have a2967 : (x2 - (1 : Int32)).toInt = (x2).toInt - ((1 : Int32)).toInt := ti_sub (by omega) (by omega)) | (have a2968 := ti_rg (x2 - (1 : Int32)))
                      first | (have a2969 : (x4 + (1 : Int32)).toInt = (x4).toInt + ((1 : Int32)).toInt := ti_add (by omega) (by omega)) | (have a2970 := ti_rg (x4 + (1 : Int32)))
                      have b2971 := NI_g21 ci2963 (c := 0) (p := 48) rfl
                      have e2972 : (mz_gI t2961 0 48).toInt = (mz_gI q2878 0 48).toInt := by rw [E2962, gI_oth _ _ (by simp)]
                      have b2973 := NI_g22 ci2963 (c := 0) (p := 51) rfl
                      have e2974 : (mz_gI t2961 0 51).toInt = (mz_gI q2878 0 51).toInt := by rw [E2962, gI_oth _ _ (by simp)]
                      have b2975 := NI_13 ci2963 (c := 0) (p := 60) rfl
                      exact ih (x1 + (1 : Int32)) (x2 - (1 : Int32)) (x4 + (1 : Int32)) (x4 + (1 : Int32)) t2961 ci2963 (by omega) (by omega) (by omega) (by omega) (by omega) (by omega) (by omega) (by omega) (by omega) (by omega) (by omega) (by omega) (by omega)
                    · have g2976 := ti_nq h2959
                      refine Tp_if (fun h2977 => ?_) (fun h2977 => ?_)
                      · have g2978 := ti_l h2977
                        first | (have a2979 : (x2 - (1 : Int32)).toInt = (x2).toInt - ((1 : Int32)).toInt := ti_sub (by omega) (by omega)) | (have a2980 := ti_rg (x2 - (1 : Int32)))
                        unfold f_MO_readTexts_158
                        unfold f_MO_readTexts_159
                        refine Tp_gd (ti_b (by omega) (by omega)) ?_
                        refine Tp_le (fun t2981 E2982 => ?_)
                        have ci2983 := NI_p2 ci2885 E2982 rfl (by omega) (by omega)
                        have i2984 := ti_rg x1
                        first | (have a2985 : (x1 + (1 : Int32)).toInt = (x1).toInt + ((1 : Int32)).toInt := ti_add (by omega) (by omega)) | (have a2986 := ti_rg (x1 + (1 : Int32)))
                        first | (have a2987 : (x4 + (1 : Int32)).toInt = (x4).toInt + ((1 : Int32)).toInt := ti_add (by omega) (by omega)) | (have a2988 := ti_rg (x4 + (1 : Int32)))
                        have b2989 := NI_g21 ci2983 (c := 0) (p := 48) rfl
                        have e2990 : (mz_gI t2981 0 48).toInt = (mz_gI q2878 0 48).toInt := by rw [E2982, gI_oth _ _ (by simp)]
                        have b2991 := NI_g22 ci2983 (c := 0) (p := 51) rfl
                        have e2992 : (mz_gI t2981 0 51).toInt = (mz_gI q2878 0 51).toInt := by rw [E2982, gI_oth _ _ (by simp)]
                        have b2993 := NI_13 ci2983 (c := 0) (p := 60) rfl
                        exact ih (x1 + (1 : Int32)) (x2 - (1 : Int32)) (x4 + (1 : Int32)) (x4 + (1 : Int32)) t2981 ci2983 (by omega) (by omega) (by omega) (by omega) (by omega) (by omega) (by omega) (by omega) (by omega) (by omega) (by omega) (by omega) (by omega)
                      · have g2994 := ti_nl h2977
                        first | (have a2995 : (x2 - (1 : Int32)).toInt = (x2).toInt - ((1 : Int32)).toInt := ti_sub (by omega) (by omega)) | (have a2996 := ti_rg (x2 - (1 : Int32)))
                        unfold f_MO_readTexts_159
                        refine Tp_gd (ti_b (by omega) (by omega)) ?_
                        refine Tp_le (fun t2997 E2998 => ?_)
                        have ci2999 := NI_p2 ci2885 E2998 rfl (by omega) (by omega)
                        have i3000 := ti_rg x1
                        first | (have a3001 : (x1 + (1 : Int32)).toInt = (x1).toInt + ((1 : Int32)).toInt := ti_add (by omega) (by omega)) | (have a3002 := ti_rg (x1 + (1 : Int32)))
                        first | (have a3003 : (x4 + (1 : Int32)).toInt = (x4).toInt + ((1 : Int32)).toInt := ti_add (by omega) (by omega)) | (have a3004 := ti_rg (x4 + (1 : Int32)))
                        have b3005 := NI_g21 ci2999 (c := 0) (p := 48) rfl
                        have e3006 : (mz_gI t2997 0 48).toInt = (mz_gI q2878 0 48).toInt := by rw [E2998, gI_oth _ _ (by simp)]
                        have b3007 := NI_g22 ci2999 (c := 0) (p := 51) rfl
                        have e3008 : (mz_gI t2997 0 51).toInt = (mz_gI q2878 0 51).toInt := by rw [E2998, gI_oth _ _ (by simp)]
                        have b3009 := NI_13 ci2999 (c := 0) (p := 60) rfl
                        exact ih (x1 + (1 : Int32)) (x2 - (1 : Int32)) (x4 + (1 : Int32)) (x4 + (1 : Int32)) t2997 ci2999 (by omega) (by omega) (by omega) (by omega) (by omega) (by omega) (by omega) (by omega) (by omega) (by omega) (by omega) (by omega) (by omega)
                  · have g3010 := ti_nq h2956
                    have l3011 : ((41 : Int32)).toInt = 41 := rfl
                    unfold f_MO_readTexts_141
                    refine Tp_if (fun h3012 => ?_) (fun h3012 => ?_)
                    · have g3013 := ti_q h3012
                      unfold f_MO_readTexts_158
                      unfold f_MO_readTexts_159
                      refine Tp_gd (ti_b (by omega) (by omega)) ?_
                      refine Tp_le (fun t3014 E3015 => ?_)
                      have ci3016 := NI_p2 ci2885 E3015 rfl (by omega) (by omega)
                      have i3017 := ti_rg x1
                      first | (have a3018 : (x1 + (1 : Int32)).toInt = (x1).toInt + ((1 : Int32)).toInt := ti_add (by omega) (by omega)) | (have a3019 := ti_rg (x1 + (1 : Int32)))
                      first | (have a3020 : (x4 + (1 : Int32)).toInt = (x4).toInt + ((1 : Int32)).toInt := ti_add (by omega) (by omega)) | (have a3021 := ti_rg (x4 + (1 : Int32)))
                      have b3022 := NI_g21 ci3016 (c := 0) (p := 48) rfl
                      have e3023 : (mz_gI t3014 0 48).toInt = (mz_gI q2878 0 48).toInt := by rw [E3015, gI_oth _ _ (by simp)]
                      have b3024 := NI_g22 ci3016 (c := 0) (p := 51) rfl
                      have e3025 : (mz_gI t3014 0 51).toInt = (mz_gI q2878 0 51).toInt := by rw [E3015, gI_oth _ _ (by simp)]
                      have b3026 := NI_13 ci3016 (c := 0) (p := 60) rfl
                      exact ih (x1 + (1 : Int32)) x2 (x4 + (1 : Int32)) (x4 + (1 : Int32)) t3014 ci3016 (by omega) (by omega) (by omega) (by omega) (by omega) (by omega) (by omega) (by omega) (by omega) (by omega) (by omega) (by omega) (by omega)
                    · have g3027 := ti_nq h3012
                      refine Tp_if (fun h3028 => ?_) (fun h3028 => ?_)
                      · have g3029 := ti_l h3028
                        unfold f_MO_readTexts_158
                        unfold f_MO_readTexts_159
                        refine Tp_gd (ti_b (by omega) (by omega)) ?_
                        refine Tp_le (fun t3030 E3031 => ?_)
                        have ci3032 := NI_p2 ci2885 E3031 rfl (by omega) (by omega)
                        have i3033 := ti_rg x1
                        first | (have a3034 : (x1 + (1 : Int32)).toInt = (x1).toInt + ((1 : Int32)).toInt := ti_add (by omega) (by omega)) | (have a3035 := ti_rg (x1 + (1 : Int32)))
                        first | (have a3036 : (x4 + (1 : Int32)).toInt = (x4).toInt + ((1 : Int32)).toInt := ti_add (by omega) (by omega)) | (have a3037 := ti_rg (x4 + (1 : Int32)))
                        have b3038 := NI_g21 ci3032 (c := 0) (p := 48) rfl
                        have e3039 : (mz_gI t3030 0 48).toInt = (mz_gI q2878 0 48).toInt := by rw [E3031, gI_oth _ _ (by simp)]
                        have b3040 := NI_g22 ci3032 (c := 0) (p := 51) rfl
                        have e3041 : (mz_gI t3030 0 51).toInt = (mz_gI q2878 0 51).toInt := by rw [E3031, gI_oth _ _ (by simp)]
                        have b3042 := NI_13 ci3032 (c := 0) (p := 60) rfl
                        exact ih (x1 + (1 : Int32)) x2 (x4 + (1 : Int32)) (x4 + (1 : Int32)) t3030 ci3032 (by omega) (by omega) (by omega) (by omega) (by omega) (by omega) (by omega) (by omega) (by omega) (by omega) (by omega) (by omega) (by omega)
                      · have g3043 := ti_nl h3028
                        unfold f_MO_readTexts_159
                        refine Tp_gd (ti_b (by omega) (by omega)) ?_
                        refine Tp_le (fun t3044 E3045 => ?_)
                        have ci3046 := NI_p2 ci2885 E3045 rfl (by omega) (by omega)
                        have i3047 := ti_rg x1
                        first | (have a3048 : (x1 + (1 : Int32)).toInt = (x1).toInt + ((1 : Int32)).toInt := ti_add (by omega) (by omega)) | (have a3049 := ti_rg (x1 + (1 : Int32)))
                        first | (have a3050 : (x4 + (1 : Int32)).toInt = (x4).toInt + ((1 : Int32)).toInt := ti_add (by omega) (by omega)) | (have a3051 := ti_rg (x4 + (1 : Int32)))
                        have b3052 := NI_g21 ci3046 (c := 0) (p := 48) rfl
                        have e3053 : (mz_gI t3044 0 48).toInt = (mz_gI q2878 0 48).toInt := by rw [E3045, gI_oth _ _ (by simp)]
                        have b3054 := NI_g22 ci3046 (c := 0) (p := 51) rfl
                        have e3055 : (mz_gI t3044 0 51).toInt = (mz_gI q2878 0 51).toInt := by rw [E3045, gI_oth _ _ (by simp)]
                        have b3056 := NI_13 ci3046 (c := 0) (p := 60) rfl
                        exact ih (x1 + (1 : Int32)) x2 (x4 + (1 : Int32)) (x4 + (1 : Int32)) t3044 ci3046 (by omega) (by omega) (by omega) (by omega) (by omega) (by omega) (by omega) (by omega) (by omega) (by omega) (by omega) (by omega) (by omega)
              · have g3057 := ti_nq h2870
                have i3058 := ti_rg x2
                unfold f_MO_readTexts_95
                unfold f_MO_readTexts_96
                refine Tp_gd (ti_b (by omega) (by omega)) ?_
                refine Tp_le (fun t3059 E3060 => ?_)
                have l3062 : (62 : Int32).toInt = 62 := rfl
                have ci3061 := NI_p2 ci E3060 rfl (by omega) (by omega)
                have i3065 := ti_rg x3
                have b3066 := NI_g21 ci3061 (c := 0) (p := 48) rfl
                have e3067 : (mz_gI t3059 0 48).toInt = (mz_gI t 0 48).toInt := by rw [E3060, gI_oth _ _ (by simp)]
                have b3068 := NI_g22 ci3061 (c := 0) (p := 51) rfl
                have e3069 : (mz_gI t3059 0 51).toInt = (mz_gI t 0 51).toInt := by rw [E3060, gI_oth _ _ (by simp)]
                refine Tp_bi (s_MO_hold hn ci3061 (by omega) (by omega) (by omega) (by omega) (by omega) (t := t3059) (x1 := x3) (x2 := x4)) (fun q3063 h3064 => ?_)
                obtain ⟨ci3070, p3071, p3072, p3073, p3074, p3075⟩ := h3064
                have b3076 := NI_g24 ci3061 (c := 0) (p := 61) rfl
                have e3077 : (mz_gI t3059 0 61).toInt = (mz_gI t 0 61).toInt := by rw [E3060, gI_oth _ _ (by simp)]
                have b3078 := NI_g24 ci (c := 0) (p := 61) rfl
                have b3079 := NI_g2 ci3061 (c := 0) (p := 62) rfl
                have e3080 : (mz_gI t3059 0 62).toInt = ((0 : Int32)).toInt := by rw [E3060, gI_same]
                have b3081 := NI_g21 ci3070 (c := 0) (p := 48) rfl
                have b3082 := NI_g22 ci3070 (c := 0) (p := 51) rfl
                have b3083 := NI_g24 ci3070 (c := 0) (p := 61) rfl
                have b3084 := NI_g2 ci3070 (c := 0) (p := 62) rfl
                unfold f_MO_readTexts_114
                refine Tp_if (fun h3085 => ?_) (fun h3085 => ?_)
                · have g3086 := ti_q h3085
                  have l3087 : ((40 : Int32)).toInt = 40 := rfl
                  unfold f_MO_readTexts_141
                  refine Tp_if (fun h3088 => ?_) (fun h3088 => ?_)
                  · have g3089 := ti_q h3088
                    unfold f_MO_readTexts_158
                    unfold f_MO_readTexts_159
                    refine Tp_gd (ti_b (by omega) (by omega)) ?_
                    refine Tp_le (fun t3090 E3091 => ?_)
                    have ci3092 := NI_p2 ci3070 E3091 rfl (by omega) (by omega)
                    have i3093 := ti_rg x1
                    have l3094 : ((1 : Int32)).toInt = 1 := rfl
                    first | (have a3095 : (x1 + (1 : Int32)).toInt = (x1).toInt + ((1 : Int32)).toInt := ti_add (by omega) (by omega)) | (have a3096 := ti_rg (x1 + (1 : Int32)))
                    first | (have a3097 : (x2 + (1 : Int32)).toInt = (x2).toInt + ((1 : Int32)).toInt := ti_add (by omega) (by omega)) | (have a3098 := ti_rg (x2 + (1 : Int32)))
                    first | (have a3099 : (x4 + (1 : Int32)).toInt = (x4).toInt + ((1 : Int32)).toInt := ti_add (by omega) (by omega)) | (have a3100 := ti_rg (x4 + (1 : Int32)))
                    have b3101 := NI_g21 ci3092 (c := 0) (p := 48) rfl
                    have e3102 : (mz_gI t3090 0 48).toInt = (mz_gI q3063 0 48).toInt := by rw [E3091, gI_oth _ _ (by simp)]
                    have b3103 := NI_g22 ci3092 (c := 0) (p := 51) rfl
                    have e3104 : (mz_gI t3090 0 51).toInt = (mz_gI q3063 0 51).toInt := by rw [E3091, gI_oth _ _ (by simp)]
                    have b3105 := NI_13 ci3092 (c := 0) (p := 60) rfl
                    exact ih (x1 + (1 : Int32)) (x2 + (1 : Int32)) (x4 + (1 : Int32)) (x4 + (1 : Int32)) t3090 ci3092 (by omega) (by omega) (by omega) (by omega) (by omega) (by omega) (by omega) (by omega) (by omega) (by omega) (by omega) (by omega) (by omega)
                  · have g3106 := ti_nq h3088
                    refine Tp_if (fun h3107 => ?_) (fun h3107 => ?_)
                    · have g3108 := ti_l h3107
                      have l3109 : ((1 : Int32)).toInt = 1 := rfl
                      first | (have a3110 : (x2 + (1 : Int32)).toInt = (x2).toInt + ((1 : Int32)).toInt := ti_add (by omega) (by omega)) | (have a3111 := ti_rg (x2 + (1 : Int32)))
                      unfold f_MO_readTexts_158
                      unfold f_MO_readTexts_159
                      refine Tp_gd (ti_b (by omega) (by omega)) ?_
                      refine Tp_le (fun t3112 E3113 => ?_)
                      have ci3114 := NI_p2 ci3070 E3113 rfl (by omega) (by omega)
                      have i3115 := ti_rg x1
                      first | (have a3116 : (x1 + (1 : Int32)).toInt = (x1).toInt + ((1 : Int32)).toInt := ti_add (by omega) (by omega)) | (have a3117 := ti_rg (x1 + (1 : Int32)))
                      first | (have a3118 : (x4 + (1 : Int32)).toInt = (x4).toInt + ((1 : Int32)).toInt := ti_add (by omega) (by omega)) | (have a3119 := ti_rg (x4 + (1 : Int32)))
                      have b3120 := NI_g21 ci3114 (c := 0) (p := 48) rfl
                      have e3121 : (mz_gI t3112 0 48).toInt = (mz_gI q3063 0 48).toInt := by rw [E3113, gI_oth _ _ (by simp)]
                      have b3122 := NI_g22 ci3114 (c := 0) (p := 51) rfl
                      have e3123 : (mz_gI t3112 0 51).toInt = (mz_gI q3063 0 51).toInt := by rw [E3113, gI_oth _ _ (by simp)]
                      have b3124 := NI_13 ci3114 (c := 0) (p := 60) rfl
                      exact ih (x1 + (1 : Int32)) (x2 + (1 : Int32)) (x4 + (1 : Int32)) (x4 + (1 : Int32)) t3112 ci3114 (by omega) (by omega) (by omega) (by omega) (by omega) (by omega) (by omega) (by omega) (by omega) (by omega) (by omega) (by omega) (by omega)
                    · have g3125 := ti_nl h3107
                      have l3126 : ((1 : Int32)).toInt = 1 := rfl
                      first | (have a3127 : (x2 + (1 : Int32)).toInt = (x2).toInt + ((1 : Int32)).toInt := ti_add (by omega) (by omega)) | (have a3128 := ti_rg (x2 + (1 : Int32)))
                      unfold f_MO_readTexts_159
                      refine Tp_gd (ti_b (by omega) (by omega)) ?_
                      refine Tp_le (fun t3129 E3130 => ?_)
                      have ci3131 := NI_p2 ci3070 E3130 rfl (by omega) (by omega)
                      have i3132 := ti_rg x1
                      first | (have a3133 : (x1 + (1 : Int32)).toInt = (x1).toInt + ((1 : Int32)).toInt := ti_add (by omega) (by omega)) | (have a3134 := ti_rg (x1 + (1 : Int32)))
                      first | (have a3135 : (x4 + (1 : Int32)).toInt = (x4).toInt + ((1 : Int32)).toInt := ti_add (by omega) (by omega)) | (have a3136 := ti_rg (x4 + (1 : Int32)))
                      have b3137 := NI_g21 ci3131 (c := 0) (p := 48) rfl
                      have e3138 : (mz_gI t3129 0 48).toInt = (mz_gI q3063 0 48).toInt := by rw [E3130, gI_oth _ _ (by simp)]
                      have b3139 := NI_g22 ci3131 (c := 0) (p := 51) rfl
                      have e3140 : (mz_gI t3129 0 51).toInt = (mz_gI q3063 0 51).toInt := by rw [E3130, gI_oth _ _ (by simp)]
                      have b3141 := NI_13 ci3131 (c := 0) (p := 60) rfl
                      exact ih (x1 + (1 : Int32)) (x2 + (1 : Int32)) (x4 + (1 : Int32)) (x4 + (1 : Int32)) t3129 ci3131 (by omega) (by omega) (by omega) (by omega) (by omega) (by omega) (by omega) (by omega) (by omega) (by omega) (by omega) (by omega) (by omega)
                · have g3142 := ti_nq h3085
                  have l3143 : ((40 : Int32)).toInt = 40 := rfl
                  refine Tp_if (fun h3144 => ?_) (fun h3144 => ?_)
                  · have g3145 := ti_q h3144
                    have l3146 : ((41 : Int32)).toInt = 41 := rfl
                    unfold f_MO_readTexts_141
                    refine Tp_if (fun h3147 => ?_) (fun h3147 => ?_)
                    · have g3148 := ti_q h3147
                      unfold f_MO_readTexts_158
                      unfold f_MO_readTexts_159
                      refine Tp_gd (ti_b (by omega) (by omega)) ?_
                      refine Tp_le (fun t3149 E3150 => ?_)
                      have ci3151 := NI_p2 ci3070 E3150 rfl (by omega) (by omega)
                      have i3152 := ti_rg x1
                      have l3153 : ((1 : Int32)).toInt = 1 := rfl
                      first | (have a3154 : (x1 + (1 : Int32)).toInt = (x1).toInt + ((1 : Int32)).toInt := ti_add (by omega) (by omega)) | (have a3155 := ti_rg (x1 + (1 : Int32)))
                      first | (have a3156 : (x2 - (1 : Int32)).toInt = (x2).toInt - ((1 : Int32)).toInt := ti_sub (by omega) (by omega)) | (have a3157 := ti_rg (x2 - (1 : Int32)))
                      first | (have a3158 : (x4 + (1 : Int32)).toInt = (x4).toInt + ((1 : Int32)).toInt := ti_add (by omega) (by omega)) | (have a3159 := ti_rg (x4 + (1 : Int32)))
                      have b3160 := NI_g21 ci3151 (c := 0) (p := 48) rfl
                      have e3161 : (mz_gI t3149 0 48).toInt = (mz_gI q3063 0 48).toInt := by rw [E3150, gI_oth _ _ (by simp)]
                      have b3162 := NI_g22 ci3151 (c := 0) (p := 51) rfl
                      have e3163 : (mz_gI t3149 0 51).toInt = (mz_gI q3063 0 51).toInt := by rw [E3150, gI_oth _ _ (by simp)]
                      have b3164 := NI_13 ci3151 (c := 0) (p := 60) rfl
                      exact ih (x1 + (1 : Int32)) (x2 - (1 : Int32)) (x4 + (1 : Int32)) (x4 + (1 : Int32)) t3149 ci3151 (by omega) (by omega) (by omega) (by omega) (by omega) (by omega) (by omega) (by omega) (by omega) (by omega) (by omega) (by omega) (by omega)
                    · have g3165 := ti_nq h3147
                      refine Tp_if (fun h3166 => ?_) (fun h3166 => ?_)
                      · have g3167 := ti_l h3166
                        have l3168 : ((1 : Int32)).toInt = 1 := rfl
                        first | (have a3169 : (x2 - (1 : Int32)).toInt = (x2).toInt - ((1 : Int32)).toInt := ti_sub (by omega) (by omega)) | (have a3170 := ti_rg (x2 - (1 : Int32)))
                        unfold f_MO_readTexts_158
                        unfold f_MO_readTexts_159
                        refine Tp_gd (ti_b (by omega) (by omega)) ?_
                        refine Tp_le (fun t3171 E3172 => ?_)
                        have ci3173 := NI_p2 ci3070 E3172 rfl (by omega) (by omega)
                        have i3174 := ti_rg x1
                        first | (have a3175 : (x1 + (1 : Int32)).toInt = (x1).toInt + ((1 : Int32)).toInt := ti_add (by omega) (by omega)) | (have a3176 := ti_rg (x1 + (1 : Int32)))
                        first | (have a3177 : (x4 + (1 : Int32)).toInt = (x4).toInt + ((1 : Int32)).toInt := ti_add (by omega) (by omega)) | (have a3178 := ti_rg (x4 + (1 : Int32)))
                        have b3179 := NI_g21 ci3173 (c := 0) (p := 48) rfl
                        have e3180 : (mz_gI t3171 0 48).toInt = (mz_gI q3063 0 48).toInt := by rw [E3172, gI_oth _ _ (by simp)]
                        have b3181 := NI_g22 ci3173 (c := 0) (p := 51) rfl
                        have e3182 : (mz_gI t3171 0 51).toInt = (mz_gI q3063 0 51).toInt := by rw [E3172, gI_oth _ _ (by simp)]
                        have b3183 := NI_13 ci3173 (c := 0) (p := 60) rfl
                        exact ih (x1 + (1 : Int32)) (x2 - (1 : Int32)) (x4 + (1 : Int32)) (x4 + (1 : Int32)) t3171 ci3173 (by omega) (by omega) (by omega) (by omega) (by omega) (by omega) (by omega) (by omega) (by omega) (by omega) (by omega) (by omega) (by omega)
                      · have g3184 := ti_nl h3166
                        have l3185 : ((1 : Int32)).toInt = 1 := rfl
                        first | (have a3186 : (x2 - (1 : Int32)).toInt = (x2).toInt - ((1 : Int32)).toInt := ti_sub (by omega) (by omega)) | (have a3187 := ti_rg (x2 - (1 : Int32)))
                        unfold f_MO_readTexts_159
                        refine Tp_gd (ti_b (by omega) (by omega)) ?_
                        refine Tp_le (fun t3188 E3189 => ?_)
                        have ci3190 := NI_p2 ci3070 E3189 rfl (by omega) (by omega)
                        have i3191 := ti_rg x1
                        first | (have a3192 : (x1 + (1 : Int32)).toInt = (x1).toInt + ((1 : Int32)).toInt := ti_add (by omega) (by omega)) | (have a3193 := ti_rg (x1 + (1 : Int32)))
                        first | (have a3194 : (x4 + (1 : Int32)).toInt = (x4).toInt + ((1 : Int32)).toInt := ti_add (by omega) (by omega)) | (have a3195 := ti_rg (x4 + (1 : Int32)))
                        have b3196 := NI_g21 ci3190 (c := 0) (p := 48) rfl
                        have e3197 : (mz_gI t3188 0 48).toInt = (mz_gI q3063 0 48).toInt := by rw [E3189, gI_oth _ _ (by simp)]
                        have b3198 := NI_g22 ci3190 (c := 0) (p := 51) rfl
                        have e3199 : (mz_gI t3188 0 51).toInt = (mz_gI q3063 0 51).toInt := by rw [E3189, gI_oth _ _ (by simp)]
                        have b3200 := NI_13 ci3190 (c := 0) (p := 60) rfl
                        exact ih (x1 + (1 : Int32)) (x2 - (1 : Int32)) (x4 + (1 : Int32)) (x4 + (1 : Int32)) t3188 ci3190 (by omega) (by omega) (by omega) (by omega) (by omega) (by omega) (by omega) (by omega) (by omega) (by omega) (by omega) (by omega) (by omega)
                  · have g3201 := ti_nq h3144
                    have l3202 : ((41 : Int32)).toInt = 41 := rfl
                    unfold f_MO_readTexts_141
                    refine Tp_if (fun h3203 => ?_) (fun h3203 => ?_)
                    · have g3204 := ti_q h3203
                      unfold f_MO_readTexts_158
                      unfold f_MO_readTexts_159
                      refine Tp_gd (ti_b (by omega) (by omega)) ?_
                      refine Tp_le (fun t3205 E3206 => ?_)
                      have ci3207 := NI_p2 ci3070 E3206 rfl (by omega) (by omega)
                      have i3208 := ti_rg x1
                      have l3209 : ((1 : Int32)).toInt = 1 := rfl
                      first | (have a3210 : (x1 + (1 : Int32)).toInt = (x1).toInt + ((1 : Int32)).toInt := ti_add (by omega) (by omega)) | (have a3211 := ti_rg (x1 + (1 : Int32)))
                      first | (have a3212 : (x4 + (1 : Int32)).toInt = (x4).toInt + ((1 : Int32)).toInt := ti_add (by omega) (by omega)) | (have a3213 := ti_rg (x4 + (1 : Int32)))
                      have b3214 := NI_g21 ci3207 (c := 0) (p := 48) rfl
                      have e3215 : (mz_gI t3205 0 48).toInt = (mz_gI q3063 0 48).toInt := by rw [E3206, gI_oth _ _ (by simp)]
                      have b3216 := NI_g22 ci3207 (c := 0) (p := 51) rfl
                      have e3217 : (mz_gI t3205 0 51).toInt = (mz_gI q3063 0 51).toInt := by rw [E3206, gI_oth _ _ (by simp)]
                      have b3218 := NI_13 ci3207 (c := 0) (p := 60) rfl
                      exact ih (x1 + (1 : Int32)) x2 (x4 + (1 : Int32)) (x4 + (1 : Int32)) t3205 ci3207 (by omega) (by omega) (by omega) (by omega) (by omega) (by omega) (by omega) (by omega) (by omega) (by omega) (by omega) (by omega) (by omega)
                    · have g3219 := ti_nq h3203
                      refine Tp_if (fun h3220 => ?_) (fun h3220 => ?_)
                      · have g3221 := ti_l h3220
                        unfold f_MO_readTexts_158
                        unfold f_MO_readTexts_159
                        refine Tp_gd (ti_b (by omega) (by omega)) ?_
                        refine Tp_le (fun t3222 E3223 => ?_)
                        have ci3224 := NI_p2 ci3070 E3223 rfl (by omega) (by omega)
                        have i3225 := ti_rg x1
                        have l3226 : ((1 : Int32)).toInt = 1 := rfl
                        first | (have a3227 : (x1 + (1 : Int32)).toInt = (x1).toInt + ((1 : Int32)).toInt := ti_add (by omega) (by omega)) | (have a3228 := ti_rg (x1 + (1 : Int32)))
                        first | (have a3229 : (x4 + (1 : Int32)).toInt = (x4).toInt + ((1 : Int32)).toInt := ti_add (by omega) (by omega)) | (have a3230 := ti_rg (x4 + (1 : Int32)))
                        have b3231 := NI_g21 ci3224 (c := 0) (p := 48) rfl
                        have e3232 : (mz_gI t3222 0 48).toInt = (mz_gI q3063 0 48).toInt := by rw [E3223, gI_oth _ _ (by simp)]
                        have b3233 := NI_g22 ci3224 (c := 0) (p := 51) rfl
                        have e3234 : (mz_gI t3222 0 51).toInt = (mz_gI q3063 0 51).toInt := by rw [E3223, gI_oth _ _ (by simp)]
                        have b3235 := NI_13 ci3224 (c := 0) (p := 60) rfl
                        exact ih (x1 + (1 : Int32)) x2 (x4 + (1 : Int32)) (x4 + (1 : Int32)) t3222 ci3224 (by omega) (by omega) (by omega) (by omega) (by omega) (by omega) (by omega) (by omega) (by omega) (by omega) (by omega) (by omega) (by omega)
                      · have g3236 := ti_nl h3220
                        unfold f_MO_readTexts_159
                        have l3237 : ((1 : Int32)).toInt = 1 := rfl
                        refine Tp_gd (ti_b (by omega) (by omega)) ?_
                        refine Tp_le (fun t3238 E3239 => ?_)
                        have ci3240 := NI_p2 ci3070 E3239 rfl (by omega) (by omega)
                        have i3241 := ti_rg x1
                        first | (have a3242 : (x1 + (1 : Int32)).toInt = (x1).toInt + ((1 : Int32)).toInt := ti_add (by omega) (by omega)) | (have a3243 := ti_rg (x1 + (1 : Int32)))
                        first | (have a3244 : (x4 + (1 : Int32)).toInt = (x4).toInt + ((1 : Int32)).toInt := ti_add (by omega) (by omega)) | (have a3245 := ti_rg (x4 + (1 : Int32)))
                        have b3246 := NI_g21 ci3240 (c := 0) (p := 48) rfl
                        have e3247 : (mz_gI t3238 0 48).toInt = (mz_gI q3063 0 48).toInt := by rw [E3239, gI_oth _ _ (by simp)]
                        have b3248 := NI_g22 ci3240 (c := 0) (p := 51) rfl
                        have e3249 : (mz_gI t3238 0 51).toInt = (mz_gI q3063 0 51).toInt := by rw [E3239, gI_oth _ _ (by simp)]
                        have b3250 := NI_13 ci3240 (c := 0) (p := 60) rfl
                        exact ih (x1 + (1 : Int32)) x2 (x4 + (1 : Int32)) (x4 + (1 : Int32)) t3238 ci3240 (by omega) (by omega) (by omega) (by omega) (by omega) (by omega) (by omega) (by omega) (by omega) (by omega) (by omega) (by omega) (by omega)
      · have g3251 := ti_ne h228
        refine Tp_gd (ti_ix (by omega) (by omega)) ?_
        unfold f_MO_readTexts_45
        refine Tp_if (fun h3252 => ?_) (fun h3252 => ?_)
        · have g3253 := ti_q h3252
          have b3254 := NI_13 ci (c := 43) (p := x4.toNatClampNeg) rfl
          have i3255 := ti_rg (mz_gI s 43 x4.toNatClampNeg)
          have l3256 : ((44 : Int32)).toInt = 44 := rfl
          refine Tp_if (fun h3257 => ?_) (fun h3257 => ?_)
          · have g3258 := ti_q h3257
            have i3259 := ti_rg x2
            have l3260 : (0 : Int32).toInt = 0 := rfl
            unfold f_MO_readTexts_67
            unfold f_MO_readTexts_72
            refine Tp_if (fun h3261 => ?_) (fun h3261 => ?_)
            · have g3262 := ti_q h3261
              have l3263 : ((1 : Int32)).toInt = 1 := rfl
              unfold f_MO_readTexts_114
              refine Tp_if (fun h3264 => ?_) (fun h3264 => ?_)
              · have g3265 := ti_q h3264
                have l3266 : ((40 : Int32)).toInt = 40 := rfl
                unfold f_MO_readTexts_141
                refine Tp_if (fun h3267 => ?_) (fun h3267 => ?_)
                · have g3268 := ti_q h3267
                  have b3269 := NI_g2 ci (c := 0) (p := 62) rfl
                  unfold f_MO_readTexts_158
                  unfold f_MO_readTexts_159
                  have l3270 : ((0 : Int32)).toInt = 0 := rfl
                  refine Tp_gd (ti_b (by omega) (by omega)) ?_
                  refine Tp_le (fun t3271 E3272 => ?_)
                  have l3274 : (62 : Int32).toInt = 62 := rfl
                  have ci3273 := NI_p2 ci E3272 rfl (by omega) (by omega)
                  have i3275 := ti_rg x1
                  first | (have a3276 : (x2 + (1 : Int32)).toInt = (x2).toInt + ((1 : Int32)).toInt := ti_add (by omega) (by omega)) | (have a3277 := ti_rg (x2 + (1 : Int32)))
                  have i3278 := ti_rg x3
                  first | (have a3279 : (x4 + (1 : Int32)).toInt = (x4).toInt + ((1 : Int32)).toInt := ti_add (by omega) (by omega)) | (have a3280 := ti_rg (x4 + (1 : Int32)))
                  have b3281 := NI_g21 ci3273 (c := 0) (p := 48) rfl
                  have e3282 : (mz_gI t3271 0 48).toInt = (mz_gI t 0 48).toInt := by rw [E3272, gI_oth _ _ (by simp)]
                  have b3283 := NI_g22 ci3273 (c := 0) (p := 51) rfl
                  have e3284 : (mz_gI t3271 0 51).toInt = (mz_gI t 0 51).toInt := by rw [E3272, gI_oth _ _ (by simp)]
                  have b3285 := NI_13 ci3273 (c := 0) (p := 60) rfl
                  exact ih x1 (x2 + (1 : Int32)) x3 (x4 + (1 : Int32)) t3271 ci3273 (by omega) (by omega) (by omega) (by omega) (by omega) (by omega) (by omega) (by omega) (by omega) (by omega) (by omega) (by omega) (by omega)
                · have g3286 := ti_nq h3267
                  have b3287 := NI_g2 ci (c := 0) (p := 62) rfl
                  refine Tp_if (fun h3288 => ?_) (fun h3288 => ?_)
                  · have g3289 := ti_l h3288
                    first | (have a3290 : (x2 + (1 : Int32)).toInt = (x2).toInt + ((1 : Int32)).toInt := ti_add (by omega) (by omega)) | (have a3291 := ti_rg (x2 + (1 : Int32)))
                    unfold f_MO_readTexts_158
                    unfold f_MO_readTexts_159
                    have l3292 : ((0 : Int32)).toInt = 0 := rfl
                    refine Tp_gd (ti_b (by omega) (by omega)) ?_
                    refine Tp_le (fun t3293 E3294 => ?_)
                    have l3296 : (62 : Int32).toInt = 62 := rfl
                    have ci3295 := NI_p2 ci E3294 rfl (by omega) (by omega)
                    have i3297 := ti_rg x1
                    have i3298 := ti_rg x3
                    first | (have a3299 : (x4 + (1 : Int32)).toInt = (x4).toInt + ((1 : Int32)).toInt := ti_add (by omega) (by omega)) | (have a3300 := ti_rg (x4 + (1 : Int32)))
                    have b3301 := NI_g21 ci3295 (c := 0) (p := 48) rfl
                    have e3302 : (mz_gI t3293 0 48).toInt = (mz_gI t 0 48).toInt := by rw [E3294, gI_oth _ _ (by simp)]
                    have b3303 := NI_g22 ci3295 (c := 0) (p := 51) rfl
                    have e3304 : (mz_gI t3293 0 51).toInt = (mz_gI t 0 51).toInt := by rw [E3294, gI_oth _ _ (by simp)]
                    have b3305 := NI_13 ci3295 (c := 0) (p := 60) rfl
                    exact ih x1 (x2 + (1 : Int32)) x3 (x4 + (1 : Int32)) t3293 ci3295 (by omega) (by omega) (by omega) (by omega) (by omega) (by omega) (by omega) (by omega) (by omega) (by omega) (by omega) (by omega) (by omega)
                  · have g3306 := ti_nl h3288
                    first | (have a3307 : (x2 + (1 : Int32)).toInt = (x2).toInt + ((1 : Int32)).toInt := ti_add (by omega) (by omega)) | (have a3308 := ti_rg (x2 + (1 : Int32)))
                    unfold f_MO_readTexts_159
                    refine Tp_gd (ti_b (by omega) (by omega)) ?_
                    refine Tp_le (fun t3309 E3310 => ?_)
                    have l3312 : (62 : Int32).toInt = 62 := rfl
                    have ci3311 := NI_p2 ci E3310 rfl (by omega) (by omega)
                    have i3313 := ti_rg x1
                    have i3314 := ti_rg x3
                    first | (have a3315 : (x4 + (1 : Int32)).toInt = (x4).toInt + ((1 : Int32)).toInt := ti_add (by omega) (by omega)) | (have a3316 := ti_rg (x4 + (1 : Int32)))
                    have b3317 := NI_g21 ci3311 (c := 0) (p := 48) rfl
                    have e3318 : (mz_gI t3309 0 48).toInt = (mz_gI t 0 48).toInt := by rw [E3310, gI_oth _ _ (by simp)]
                    have b3319 := NI_g22 ci3311 (c := 0) (p := 51) rfl
                    have e3320 : (mz_gI t3309 0 51).toInt = (mz_gI t 0 51).toInt := by rw [E3310, gI_oth _ _ (by simp)]
                    have b3321 := NI_13 ci3311 (c := 0) (p := 60) rfl
                    exact ih x1 (x2 + (1 : Int32)) x3 (x4 + (1 : Int32)) t3309 ci3311 (by omega) (by omega) (by omega) (by omega) (by omega) (by omega) (by omega) (by omega) (by omega) (by omega) (by omega) (by omega) (by omega)
              · have g3322 := ti_nq h3264
                have l3323 : ((40 : Int32)).toInt = 40 := rfl
                refine Tp_if (fun h3324 => ?_) (fun h3324 => ?_)
                · have g3325 := ti_q h3324
                  have l3326 : ((41 : Int32)).toInt = 41 := rfl
                  unfold f_MO_readTexts_141
                  refine Tp_if (fun h3327 => ?_) (fun h3327 => ?_)
                  · have g3328 := ti_q h3327
                    have b3329 := NI_g2 ci (c := 0) (p := 62) rfl
                    unfold f_MO_readTexts_158
                    unfold f_MO_readTexts_159
                    have l3330 : ((0 : Int32)).toInt = 0 := rfl
                    refine Tp_gd (ti_b (by omega) (by omega)) ?_
                    refine Tp_le (fun t3331 E3332 => ?_)
                    have l3334 : (62 : Int32).toInt = 62 := rfl
                    have ci3333 := NI_p2 ci E3332 rfl (by omega) (by omega)
                    have i3335 := ti_rg x1
                    first | (have a3336 : (x2 - (1 : Int32)).toInt = (x2).toInt - ((1 : Int32)).toInt := ti_sub (by omega) (by omega)) | (have a3337 := ti_rg (x2 - (1 : Int32)))
                    have i3338 := ti_rg x3
                    first | (have a3339 : (x4 + (1 : Int32)).toInt = (x4).toInt + ((1 : Int32)).toInt := ti_add (by omega) (by omega)) | (have a3340 := ti_rg (x4 + (1 : Int32)))
                    have b3341 := NI_g21 ci3333 (c := 0) (p := 48) rfl
                    have e3342 : (mz_gI t3331 0 48).toInt = (mz_gI t 0 48).toInt := by rw [E3332, gI_oth _ _ (by simp)]
                    have b3343 := NI_g22 ci3333 (c := 0) (p := 51) rfl
                    have e3344 : (mz_gI t3331 0 51).toInt = (mz_gI t 0 51).toInt := by rw [E3332, gI_oth _ _ (by simp)]
                    have b3345 := NI_13 ci3333 (c := 0) (p := 60) rfl
                    exact ih x1 (x2 - (1 : Int32)) x3 (x4 + (1 : Int32)) t3331 ci3333 (by omega) (by omega) (by omega) (by omega) (by omega) (by omega) (by omega) (by omega) (by omega) (by omega) (by omega) (by omega) (by omega)
                  · have g3346 := ti_nq h3327
                    have b3347 := NI_g2 ci (c := 0) (p := 62) rfl
                    refine Tp_if (fun h3348 => ?_) (fun h3348 => ?_)
                    · have g3349 := ti_l h3348
                      first | (have a3350 : (x2 - (1 : Int32)).toInt = (x2).toInt - ((1 : Int32)).toInt := ti_sub (by omega) (by omega)) | (have a3351 := ti_rg (x2 - (1 : Int32)))
                      unfold f_MO_readTexts_158
                      unfold f_MO_readTexts_159
                      have l3352 : ((0 : Int32)).toInt = 0 := rfl
                      refine Tp_gd (ti_b (by omega) (by omega)) ?_
                      refine Tp_le (fun t3353 E3354 => ?_)
                      have l3356 : (62 : Int32).toInt = 62 := rfl
                      have ci3355 := NI_p2 ci E3354 rfl (by omega) (by omega)
                      have i3357 := ti_rg x1
                      have i3358 := ti_rg x3
                      first | (have a3359 : (x4 + (1 : Int32)).toInt = (x4).toInt + ((1 : Int32)).toInt := ti_add (by omega) (by omega)) | (have a3360 := ti_rg (x4 + (1 : Int32)))
                      have b3361 := NI_g21 ci3355 (c := 0) (p := 48) rfl
                      have e3362 : (mz_gI t3353 0 48).toInt = (mz_gI t 0 48).toInt := by rw [E3354, gI_oth _ _ (by simp)]
                      have b3363 := NI_g22 ci3355 (c := 0) (p := 51) rfl
                      have e3364 : (mz_gI t3353 0 51).toInt = (mz_gI t 0 51).toInt := by rw [E3354, gI_oth _ _ (by simp)]
                      have b3365 := NI_13 ci3355 (c := 0) (p := 60) rfl
                      exact ih x1 (x2 - (1 : Int32)) x3 (x4 + (1 : Int32)) t3353 ci3355 (by omega) (by omega) (by omega) (by omega) (by omega) (by omega) (by omega) (by omega) (by omega) (by omega) (by omega) (by omega) (by omega)
                    · have g3366 := ti_nl h3348
                      first | (have a3367 : (x2 - (1 : Int32)).toInt = (x2).toInt - ((1 : Int32)).toInt := ti_sub (by omega) (by omega)) | (have a3368 := ti_rg (x2 - (1 : Int32)))
                      unfold f_MO_readTexts_159
                      refine Tp_gd (ti_b (by omega) (by omega)) ?_
                      refine Tp_le (fun t3369 E3370 => ?_)
                      have l3372 : (62 : Int32).toInt = 62 := rfl
                      have ci3371 := NI_p2 ci E3370 rfl (by omega) (by omega)
                      have i3373 := ti_rg x1
                      have i3374 := ti_rg x3
                      first | (have a3375 : (x4 + (1 : Int32)).toInt = (x4).toInt + ((1 : Int32)).toInt := ti_add (by omega) (by omega)) | (have a3376 := ti_rg (x4 + (1 : Int32)))
                      have b3377 := NI_g21 ci3371 (c := 0) (p := 48) rfl
                      have e3378 : (mz_gI t3369 0 48).toInt = (mz_gI t 0 48).toInt := by rw [E3370, gI_oth _ _ (by simp)]
                      have b3379 := NI_g22 ci3371 (c := 0) (p := 51) rfl
                      have e3380 : (mz_gI t3369 0 51).toInt = (mz_gI t 0 51).toInt := by rw [E3370, gI_oth _ _ (by simp)]
                      have b3381 := NI_13 ci3371 (c := 0) (p := 60) rfl
                      exact ih x1 (x2 - (1 : Int32)) x3 (x4 + (1 : Int32)) t3369 ci3371 (by omega) (by omega) (by omega) (by omega) (by omega) (by omega) (by omega) (by omega) (by omega) (by omega) (by omega) (by omega) (by omega)
                · have g3382 := ti_nq h3324
                  have l3383 : ((41 : Int32)).toInt = 41 := rfl
                  unfold f_MO_readTexts_141
                  refine Tp_if (fun h3384 => ?_) (fun h3384 => ?_)
                  · have g3385 := ti_q h3384
                    have b3386 := NI_g2 ci (c := 0) (p := 62) rfl
                    unfold f_MO_readTexts_158
                    unfold f_MO_readTexts_159
                    have l3387 : ((0 : Int32)).toInt = 0 := rfl
                    refine Tp_gd (ti_b (by omega) (by omega)) ?_
                    refine Tp_le (fun t3388 E3389 => ?_)
                    have l3391 : (62 : Int32).toInt = 62 := rfl
                    have ci3390 := NI_p2 ci E3389 rfl (by omega) (by omega)
                    have i3392 := ti_rg x1
                    have i3393 := ti_rg x3
                    first | (have a3394 : (x4 + (1 : Int32)).toInt = (x4).toInt + ((1 : Int32)).toInt := ti_add (by omega) (by omega)) | (have a3395 := ti_rg (x4 + (1 : Int32)))
                    have b3396 := NI_g21 ci3390 (c := 0) (p := 48) rfl
                    have e3397 : (mz_gI t3388 0 48).toInt = (mz_gI t 0 48).toInt := by rw [E3389, gI_oth _ _ (by simp)]
                    have b3398 := NI_g22 ci3390 (c := 0) (p := 51) rfl
                    have e3399 : (mz_gI t3388 0 51).toInt = (mz_gI t 0 51).toInt := by rw [E3389, gI_oth _ _ (by simp)]
                    have b3400 := NI_13 ci3390 (c := 0) (p := 60) rfl
                    exact ih x1 x2 x3 (x4 + (1 : Int32)) t3388 ci3390 (by omega) (by omega) (by omega) (by omega) (by omega) (by omega) (by omega) (by omega) (by omega) (by omega) (by omega) (by omega) (by omega)
                  · have g3401 := ti_nq h3384
                    have b3402 := NI_g2 ci (c := 0) (p := 62) rfl
                    refine Tp_if (fun h3403 => ?_) (fun h3403 => ?_)
                    · have g3404 := ti_l h3403
                      unfold f_MO_readTexts_158
                      unfold f_MO_readTexts_159
                      have l3405 : ((0 : Int32)).toInt = 0 := rfl
                      refine Tp_gd (ti_b (by omega) (by omega)) ?_
                      refine Tp_le (fun t3406 E3407 => ?_)
                      have l3409 : (62 : Int32).toInt = 62 := rfl
                      have ci3408 := NI_p2 ci E3407 rfl (by omega) (by omega)
                      have i3410 := ti_rg x1
                      have i3411 := ti_rg x3
                      first | (have a3412 : (x4 + (1 : Int32)).toInt = (x4).toInt + ((1 : Int32)).toInt := ti_add (by omega) (by omega)) | (have a3413 := ti_rg (x4 + (1 : Int32)))
                      have b3414 := NI_g21 ci3408 (c := 0) (p := 48) rfl
                      have e3415 : (mz_gI t3406 0 48).toInt = (mz_gI t 0 48).toInt := by rw [E3407, gI_oth _ _ (by simp)]
                      have b3416 := NI_g22 ci3408 (c := 0) (p := 51) rfl
                      have e3417 : (mz_gI t3406 0 51).toInt = (mz_gI t 0 51).toInt := by rw [E3407, gI_oth _ _ (by simp)]
                      have b3418 := NI_13 ci3408 (c := 0) (p := 60) rfl
                      exact ih x1 x2 x3 (x4 + (1 : Int32)) t3406 ci3408 (by omega) (by omega) (by omega) (by omega) (by omega) (by omega) (by omega) (by omega) (by omega) (by omega) (by omega) (by omega) (by omega)
                    · have g3419 := ti_nl h3403
                      unfold f_MO_readTexts_159
                      refine Tp_gd (ti_b (by omega) (by omega)) ?_
                      refine Tp_le (fun t3420 E3421 => ?_)
                      have l3423 : (62 : Int32).toInt = 62 := rfl
                      have ci3422 := NI_p2 ci E3421 rfl (by omega) (by omega)
                      have i3424 := ti_rg x1
                      have i3425 := ti_rg x3
                      first | (have a3426 : (x4 + (1 : Int32)).toInt = (x4).toInt + ((1 : Int32)).toInt := ti_add (by omega) (by omega)) | (have a3427 := ti_rg (x4 + (1 : Int32)))
                      have b3428 := NI_g21 ci3422 (c := 0) (p := 48) rfl
                      have e3429 : (mz_gI t3420 0 48).toInt = (mz_gI t 0 48).toInt := by rw [E3421, gI_oth _ _ (by simp)]
                      have b3430 := NI_g22 ci3422 (c := 0) (p := 51) rfl
                      have e3431 : (mz_gI t3420 0 51).toInt = (mz_gI t 0 51).toInt := by rw [E3421, gI_oth _ _ (by simp)]
                      have b3432 := NI_13 ci3422 (c := 0) (p := 60) rfl
                      exact ih x1 x2 x3 (x4 + (1 : Int32)) t3420 ci3422 (by omega) (by omega) (by omega) (by omega) (by omega) (by omega) (by omega) (by omega) (by omega) (by omega) (by omega) (by omega) (by omega)
            · have g3433 := ti_nq h3261
              have l3434 : ((1 : Int32)).toInt = 1 := rfl
              refine Tp_if (fun h3435 => ?_) (fun h3435 => ?_)
              · have g3436 := ti_q h3435
                have b3437 := NI_g2 ci (c := 0) (p := 62) rfl
                unfold f_MO_readTexts_95
                unfold f_MO_readTexts_96
                have l3438 : ((0 : Int32)).toInt = 0 := rfl
                refine Tp_gd (ti_b (by omega) (by omega)) ?_
                refine Tp_le (fun t3439 E3440 => ?_)
                have l3442 : (62 : Int32).toInt = 62 := rfl
                have ci3441 := NI_p2 ci E3440 rfl (by omega) (by omega)
                have i3445 := ti_rg x3
                have b3446 := NI_g21 ci3441 (c := 0) (p := 48) rfl
                have e3447 : (mz_gI t3439 0 48).toInt = (mz_gI t 0 48).toInt := by rw [E3440, gI_oth _ _ (by simp)]
                have b3448 := NI_g22 ci3441 (c := 0) (p := 51) rfl
                have e3449 : (mz_gI t3439 0 51).toInt = (mz_gI t 0 51).toInt := by rw [E3440, gI_oth _ _ (by simp)]
                refine Tp_bi (s_MO_hold hn ci3441 (by omega) (by omega) (by omega) (by omega) (by omega) (t := t3439) (x1 := x3) (x2 := x4)) (fun q3443 h3444 => ?_)
                obtain ⟨ci3450, p3451, p3452, p3453, p3454, p3455⟩ := h3444
                have b3456 := NI_g24 ci3441 (c := 0) (p := 61) rfl
                have e3457 : (mz_gI t3439 0 61).toInt = (mz_gI t 0 61).toInt := by rw [E3440, gI_oth _ _ (by simp)]
                have b3458 := NI_g24 ci (c := 0) (p := 61) rfl
                have b3459 := NI_g2 ci3441 (c := 0) (p := 62) rfl
                have e3460 : (mz_gI t3439 0 62).toInt = ((0 : Int32)).toInt := by rw [E3440, gI_same]
                have b3461 := NI_g21 ci3450 (c := 0) (p := 48) rfl
                have b3462 := NI_g22 ci3450 (c := 0) (p := 51) rfl
                have b3463 := NI_g24 ci3450 (c := 0) (p := 61) rfl
                have b3464 := NI_g2 ci3450 (c := 0) (p := 62) rfl
                unfold f_MO_readTexts_114
                refine Tp_if (fun h3465 => ?_) (fun h3465 => ?_)
                · have g3466 := ti_q h3465
                  have l3467 : ((40 : Int32)).toInt = 40 := rfl
                  unfold f_MO_readTexts_141
                  refine Tp_if (fun h3468 => ?_) (fun h3468 => ?_)
                  · have g3469 := ti_q h3468
                    unfold f_MO_readTexts_158
                    unfold f_MO_readTexts_159
                    refine Tp_gd (ti_b (by omega) (by omega)) ?_
                    refine Tp_le (fun t3470 E3471 => ?_)
                    have ci3472 := NI_p2 ci3450 E3471 rfl (by omega) (by omega)
                    have i3473 := ti_rg x1
                    first | (have a3474 : (x1 + (1 : Int32)).toInt = (x1).toInt + ((1 : Int32)).toInt := ti_add (by omega) (by omega)) | (have a3475 := ti_rg (x1 + (1 : Int32)))
                    first | (have a3476 : (x2 + (1 : Int32)).toInt = (x2).toInt + ((1 : Int32)).toInt := ti_add (by omega) (by omega)) | (have a3477 := ti_rg (x2 + (1 : Int32)))
                    first | (have a3478 : (x4 + (1 : Int32)).toInt = (x4).toInt + ((1 : Int32)).toInt := ti_add (by omega) (by omega)) | (have a3479 := ti_rg (x4 + (1 : Int32)))
                    have b3480 := NI_g21 ci3472 (c := 0) (p := 48) rfl
                    have e3481 : (mz_gI t3470 0 48).toInt = (mz_gI q3443 0 48).toInt := by rw [E3471, gI_oth _ _ (by simp)]
                    have b3482 := NI_g22 ci3472 (c := 0) (p := 51) rfl
                    have e3483 : (mz_gI t3470 0 51).toInt = (mz_gI q3443 0 51).toInt := by rw [E3471, gI_oth _ _ (by simp)]
                    have b3484 := NI_13 ci3472 (c := 0) (p := 60) rfl
                    exact ih (x1 + (1 : Int32)) (x2 + (1 : Int32)) (x4 + (1 : Int32)) (x4 + (1 : Int32)) t3470 ci3472 (by omega) (by omega) (by omega) (by omega) (by omega) (by omega) (by omega) (by omega) (by omega) (by omega) (by omega) (by omega) (by omega)
                  · have g3485 := ti_nq h3468
                    refine Tp_if (fun h3486 => ?_) (fun h3486 => ?_)
                    · have g3487 := ti_l h3486
                      first | (have a3488 : (x2 + (1 : Int32)).toInt = (x2).toInt + ((1 : Int32)).toInt := ti_add (by omega) (by omega)) | (have a3489 := ti_rg (x2 + (1 : Int32)))
                      unfold f_MO_readTexts_158
                      unfold f_MO_readTexts_159
                      refine Tp_gd (ti_b (by omega) (by omega)) ?_
                      refine Tp_le (fun t3490 E3491 => ?_)
                      have ci3492 := NI_p2 ci3450 E3491 rfl (by omega) (by omega)
                      have i3493 := ti_rg x1
                      first | (have a3494 : (x1 + (1 : Int32)).toInt = (x1).toInt + ((1 : Int32)).toInt := ti_add (by omega) (by omega)) | (have a3495 := ti_rg (x1 + (1 : Int32)))
                      first | (have a3496 : (x4 + (1 : Int32)).toInt = (x4).toInt + ((1 : Int32)).toInt := ti_add (by omega) (by omega)) | (have a3497 := ti_rg (x4 + (1 : Int32)))
                      have b3498 := NI_g21 ci3492 (c := 0) (p := 48) rfl
                      have e3499 : (mz_gI t3490 0 48).toInt = (mz_gI q3443 0 48).toInt := by rw [E3491, gI_oth _ _ (by simp)]
                      have b3500 := NI_g22 ci3492 (c := 0) (p := 51) rfl
                      have e3501 : (mz_gI t3490 0 51).toInt = (mz_gI q3443 0 51).toInt := by rw [E3491, gI_oth _ _ (by simp)]
                      have b3502 := NI_13 ci3492 (c := 0) (p := 60) rfl
                      exact ih (x1 + (1 : Int32)) (x2 + (1 : Int32)) (x4 + (1 : Int32)) (x4 + (1 : Int32)) t3490 ci3492 (by omega) (by omega) (by omega) (by omega) (by omega) (by omega) (by omega) (by omega) (by omega) (by omega) (by omega) (by omega) (by omega)
                    · have g3503 := ti_nl h3486
                      first | (have a3504 : (x2 + (1 : Int32)).toInt = (x2).toInt + ((1 : Int32)).toInt := ti_add (by omega) (by omega)) | (have a3505 := ti_rg (x2 + (1 : Int32)))
                      unfold f_MO_readTexts_159
                      refine Tp_gd (ti_b (by omega) (by omega)) ?_
                      refine Tp_le (fun t3506 E3507 => ?_)
                      have ci3508 := NI_p2 ci3450 E3507 rfl (by omega) (by omega)
                      have i3509 := ti_rg x1
                      first | (have a3510 : (x1 + (1 : Int32)).toInt = (x1).toInt + ((1 : Int32)).toInt := ti_add (by omega) (by omega)) | (have a3511 := ti_rg (x1 + (1 : Int32)))
                      first | (have a3512 : (x4 + (1 : Int32)).toInt = (x4).toInt + ((1 : Int32)).toInt := ti_add (by omega) (by omega)) | (have a3513 := ti_rg (x4 + (1 : Int32)))
                      have b3514 := NI_g21 ci3508 (c := 0) (p := 48) rfl
                      have e3515 : (mz_gI t3506 0 48).toInt = (mz_gI q3443 0 48).toInt := by rw [E3507, gI_oth _ _ (by simp)]
                      have b3516 := NI_g22 ci3508 (c := 0) (p := 51) rfl
                      have e3517 : (mz_gI t3506 0 51).toInt = (mz_gI q3443 0 51).toInt := by rw [E3507, gI_oth _ _ (by simp)]
                      have b3518 := NI_13 ci3508 (c := 0) (p := 60) rfl
                      exact ih (x1 + (1 : Int32)) (x2 + (1 : Int32)) (x4 + (1 : Int32)) (x4 + (1 : Int32)) t3506 ci3508 (by omega) (by omega) (by omega) (by omega) (by omega) (by omega) (by omega) (by omega) (by omega) (by omega) (by omega) (by omega) (by omega)
                · have g3519 := ti_nq h3465
                  have l3520 : ((40 : Int32)).toInt = 40 := rfl
                  refine Tp_if (fun h3521 => ?_) (fun h3521 => ?_)
                  · have g3522 := ti_q h3521
                    have l3523 : ((41 : Int32)).toInt = 41 := rfl
                    unfold f_MO_readTexts_141
                    refine Tp_if (fun h3524 => ?_) (fun h3524 => ?_)
                    · have g3525 := ti_q h3524
                      unfold f_MO_readTexts_158
                      unfold f_MO_readTexts_159
                      refine Tp_gd (ti_b (by omega) (by omega)) ?_
                      refine Tp_le (fun t3526 E3527 => ?_)
                      have ci3528 := NI_p2 ci3450 E3527 rfl (by omega) (by omega)
                      have i3529 := ti_rg x1
                      first | (have a3530 : (x1 + (1 : Int32)).toInt = (x1).toInt + ((1 : Int32)).toInt := ti_add (by omega) (by omega)) | (have a3531 := ti_rg (x1 + (1 : Int32)))
                      first | (have a3532 : (x2 - (1 : Int32)).toInt = (x2).toInt - ((1 : Int32)).toInt := ti_sub (by omega) (by omega)) | (have a3533 := ti_rg (x2 - (1 : Int32)))
                      first | (have a3534 : (x4 + (1 : Int32)).toInt = (x4).toInt + ((1 : Int32)).toInt := ti_add (by omega) (by omega)) | (have a3535 := ti_rg (x4 + (1 : Int32)))
                      have b3536 := NI_g21 ci3528 (c := 0) (p := 48) rfl
                      have e3537 : (mz_gI t3526 0 48).toInt = (mz_gI q3443 0 48).toInt := by rw [E3527, gI_oth _ _ (by simp)]
                      have b3538 := NI_g22 ci3528 (c := 0) (p := 51) rfl
                      have e3539 : (mz_gI t3526 0 51).toInt = (mz_gI q3443 0 51).toInt := by rw [E3527, gI_oth _ _ (by simp)]
                      have b3540 := NI_13 ci3528 (c := 0) (p := 60) rfl
                      exact ih (x1 + (1 : Int32)) (x2 - (1 : Int32)) (x4 + (1 : Int32)) (x4 + (1 : Int32)) t3526 ci3528 (by omega) (by omega) (by omega) (by omega) (by omega) (by omega) (by omega) (by omega) (by omega) (by omega) (by omega) (by omega) (by omega)
                    · have g3541 := ti_nq h3524
                      refine Tp_if (fun h3542 => ?_) (fun h3542 => ?_)
                      · have g3543 := ti_l h3542
                        first | (have a3544 : (x2 - (1 : Int32)).toInt = (x2).toInt - ((1 : Int32)).toInt := ti_sub (by omega) (by omega)) | (have a3545 := ti_rg (x2 - (1 : Int32)))
                        unfold f_MO_readTexts_158
                        unfold f_MO_readTexts_159
                        refine Tp_gd (ti_b (by omega) (by omega)) ?_
                        refine Tp_le (fun t3546 E3547 => ?_)
                        have ci3548 := NI_p2 ci3450 E3547 rfl (by omega) (by omega)
                        have i3549 := ti_rg x1
                        first | (have a3550 : (x1 + (1 : Int32)).toInt = (x1).toInt + ((1 : Int32)).toInt := ti_add (by omega) (by omega)) | (have a3551 := ti_rg (x1 + (1 : Int32)))
                        first | (have a3552 : (x4 + (1 : Int32)).toInt = (x4).toInt + ((1 : Int32)).toInt := ti_add (by omega) (by omega)) | (have a3553 := ti_rg (x4 + (1 : Int32)))
                        have b3554 := NI_g21 ci3548 (c := 0) (p := 48) rfl
                        have e3555 : (mz_gI t3546 0 48).toInt = (mz_gI q3443 0 48).toInt := by rw [E3547, gI_oth _ _ (by simp)]
                        have b3556 := NI_g22 ci3548 (c := 0) (p := 51) rfl
                        have e3557 : (mz_gI t3546 0 51).toInt = (mz_gI q3443 0 51).toInt := by rw [E3547, gI_oth _ _ (by simp)]
                        have b3558 := NI_13 ci3548 (c := 0) (p := 60) rfl
                        exact ih (x1 + (1 : Int32)) (x2 - (1 : Int32)) (x4 + (1 : Int32)) (x4 + (1 : Int32)) t3546 ci3548 (by omega) (by omega) (by omega) (by omega) (by omega) (by omega) (by omega) (by omega) (by omega) (by omega) (by omega) (by omega) (by omega)
                      · have g3559 := ti_nl h3542
                        first | (have a3560 : (x2 - (1 : Int32)).toInt = (x2).toInt - ((1 : Int32)).toInt := ti_sub (by omega) (by omega)) | (have a3561 := ti_rg (x2 - (1 : Int32)))
                        unfold f_MO_readTexts_159
                        refine Tp_gd (ti_b (by omega) (by omega)) ?_
                        refine Tp_le (fun t3562 E3563 => ?_)
                        have ci3564 := NI_p2 ci3450 E3563 rfl (by omega) (by omega)
                        have i3565 := ti_rg x1
                        first | (have a3566 : (x1 + (1 : Int32)).toInt = (x1).toInt + ((1 : Int32)).toInt := ti_add (by omega) (by omega)) | (have a3567 := ti_rg (x1 + (1 : Int32)))
                        first | (have a3568 : (x4 + (1 : Int32)).toInt = (x4).toInt + ((1 : Int32)).toInt := ti_add (by omega) (by omega)) | (have a3569 := ti_rg (x4 + (1 : Int32)))
                        have b3570 := NI_g21 ci3564 (c := 0) (p := 48) rfl
                        have e3571 : (mz_gI t3562 0 48).toInt = (mz_gI q3443 0 48).toInt := by rw [E3563, gI_oth _ _ (by simp)]
                        have b3572 := NI_g22 ci3564 (c := 0) (p := 51) rfl
                        have e3573 : (mz_gI t3562 0 51).toInt = (mz_gI q3443 0 51).toInt := by rw [E3563, gI_oth _ _ (by simp)]
                        have b3574 := NI_13 ci3564 (c := 0) (p := 60) rfl
                        exact ih (x1 + (1 : Int32)) (x2 - (1 : Int32)) (x4 + (1 : Int32)) (x4 + (1 : Int32)) t3562 ci3564 (by omega) (by omega) (by omega) (by omega) (by omega) (by omega) (by omega) (by omega) (by omega) (by omega) (by omega) (by omega) (by omega)
                  · have g3575 := ti_nq h3521
                    have l3576 : ((41 : Int32)).toInt = 41 := rfl
                    unfold f_MO_readTexts_141
                    refine Tp_if (fun h3577 => ?_) (fun h3577 => ?_)
                    · have g3578 := ti_q h3577
                      unfold f_MO_readTexts_158
                      unfold f_MO_readTexts_159
                      refine Tp_gd (ti_b (by omega) (by omega)) ?_
                      refine Tp_le (fun t3579 E3580 => ?_)
                      have ci3581 := NI_p2 ci3450 E3580 rfl (by omega) (by omega)
                      have i3582 := ti_rg x1
                      first | (have a3583 : (x1 + (1 : Int32)).toInt = (x1).toInt + ((1 : Int32)).toInt := ti_add (by omega) (by omega)) | (have a3584 := ti_rg (x1 + (1 : Int32)))
                      first | (have a3585 : (x4 + (1 : Int32)).toInt = (x4).toInt + ((1 : Int32)).toInt := ti_add (by omega) (by omega)) | (have a3586 := ti_rg (x4 + (1 : Int32)))
                      have b3587 := NI_g21 ci3581 (c := 0) (p := 48) rfl
                      have e3588 : (mz_gI t3579 0 48).toInt = (mz_gI q3443 0 48).toInt := by rw [E3580, gI_oth _ _ (by simp)]
                      have b3589 := NI_g22 ci3581 (c := 0) (p := 51) rfl
                      have e3590 : (mz_gI t3579 0 51).toInt = (mz_gI q3443 0 51).toInt := by rw [E3580, gI_oth _ _ (by simp)]
                      have b3591 := NI_13 ci3581 (c := 0) (p := 60) rfl
                      exact ih (x1 + (1 : Int32)) x2 (x4 + (1 : Int32)) (x4 + (1 : Int32)) t3579 ci3581 (by omega) (by omega) (by omega) (by omega) (by omega) (by omega) (by omega) (by omega) (by omega) (by omega) (by omega) (by omega) (by omega)
                    · have g3592 := ti_nq h3577
                      refine Tp_if (fun h3593 => ?_) (fun h3593 => ?_)
                      · have g3594 := ti_l h3593
                        unfold f_MO_readTexts_158
                        unfold f_MO_readTexts_159
                        refine Tp_gd (ti_b (by omega) (by omega)) ?_
                        refine Tp_le (fun t3595 E3596 => ?_)
                        have ci3597 := NI_p2 ci3450 E3596 rfl (by omega) (by omega)
                        have i3598 := ti_rg x1
                        first | (have a3599 : (x1 + (1 : Int32)).toInt = (x1).toInt + ((1 : Int32)).toInt := ti_add (by omega) (by omega)) | (have a3600 := ti_rg (x1 + (1 : Int32)))
                        first | (have a3601 : (x4 + (1 : Int32)).toInt = (x4).toInt + ((1 : Int32)).toInt := ti_add (by omega) (by omega)) | (have a3602 := ti_rg (x4 + (1 : Int32)))
                        have b3603 := NI_g21 ci3597 (c := 0) (p := 48) rfl
                        have e3604 : (mz_gI t3595 0 48).toInt = (mz_gI q3443 0 48).toInt := by rw [E3596, gI_oth _ _ (by simp)]
                        have b3605 := NI_g22 ci3597 (c := 0) (p := 51) rfl
                        have e3606 : (mz_gI t3595 0 51).toInt = (mz_gI q3443 0 51).toInt := by rw [E3596, gI_oth _ _ (by simp)]
                        have b3607 := NI_13 ci3597 (c := 0) (p := 60) rfl
                        exact ih (x1 + (1 : Int32)) x2 (x4 + (1 : Int32)) (x4 + (1 : Int32)) t3595 ci3597 (by omega) (by omega) (by omega) (by omega) (by omega) (by omega) (by omega) (by omega) (by omega) (by omega) (by omega) (by omega) (by omega)
                      · have g3608 := ti_nl h3593
                        unfold f_MO_readTexts_159
                        refine Tp_gd (ti_b (by omega) (by omega)) ?_
                        refine Tp_le (fun t3609 E3610 => ?_)
                        have ci3611 := NI_p2 ci3450 E3610 rfl (by omega) (by omega)
                        have i3612 := ti_rg x1
                        first | (have a3613 : (x1 + (1 : Int32)).toInt = (x1).toInt + ((1 : Int32)).toInt := ti_add (by omega) (by omega)) | (have a3614 := ti_rg (x1 + (1 : Int32)))
                        first | (have a3615 : (x4 + (1 : Int32)).toInt = (x4).toInt + ((1 : Int32)).toInt := ti_add (by omega) (by omega)) | (have a3616 := ti_rg (x4 + (1 : Int32)))
                        have b3617 := NI_g21 ci3611 (c := 0) (p := 48) rfl
                        have e3618 : (mz_gI t3609 0 48).toInt = (mz_gI q3443 0 48).toInt := by rw [E3610, gI_oth _ _ (by simp)]
                        have b3619 := NI_g22 ci3611 (c := 0) (p := 51) rfl
                        have e3620 : (mz_gI t3609 0 51).toInt = (mz_gI q3443 0 51).toInt := by rw [E3610, gI_oth _ _ (by simp)]
                        have b3621 := NI_13 ci3611 (c := 0) (p := 60) rfl
                        exact ih (x1 + (1 : Int32)) x2 (x4 + (1 : Int32)) (x4 + (1 : Int32)) t3609 ci3611 (by omega) (by omega) (by omega) (by omega) (by omega) (by omega) (by omega) (by omega) (by omega) (by omega) (by omega) (by omega) (by omega)
              · have g3622 := ti_nq h3435
                have b3623 := NI_g2 ci (c := 0) (p := 62) rfl
                refine Tp_if (fun h3624 => ?_) (fun h3624 => ?_)
                · have g3625 := ti_q h3624
                  unfold f_MO_readTexts_96
                  refine Tp_gd (ti_b (by omega) (by omega)) ?_
                  refine Tp_le (fun t3626 E3627 => ?_)
                  have l3629 : (62 : Int32).toInt = 62 := rfl
                  have ci3628 := NI_p2 ci E3627 rfl (by omega) (by omega)
                  have i3632 := ti_rg x3
                  have b3633 := NI_g21 ci3628 (c := 0) (p := 48) rfl
                  have e3634 : (mz_gI t3626 0 48).toInt = (mz_gI t 0 48).toInt := by rw [E3627, gI_oth _ _ (by simp)]
                  have b3635 := NI_g22 ci3628 (c := 0) (p := 51) rfl
                  have e3636 : (mz_gI t3626 0 51).toInt = (mz_gI t 0 51).toInt := by rw [E3627, gI_oth _ _ (by simp)]
                  refine Tp_bi (s_MO_hold hn ci3628 (by omega) (by omega) (by omega) (by omega) (by omega) (t := t3626) (x1 := x3) (x2 := x4)) (fun q3630 h3631 => ?_)
                  obtain ⟨ci3637, p3638, p3639, p3640, p3641, p3642⟩ := h3631
                  have b3643 := NI_g24 ci3628 (c := 0) (p := 61) rfl
                  have e3644 : (mz_gI t3626 0 61).toInt = (mz_gI t 0 61).toInt := by rw [E3627, gI_oth _ _ (by simp)]
                  have b3645 := NI_g24 ci (c := 0) (p := 61) rfl
                  have b3646 := NI_g2 ci3628 (c := 0) (p := 62) rfl
                  have e3647 : (mz_gI t3626 0 62).toInt = ((1 : Int32)).toInt := by rw [E3627, gI_same]
                  have b3648 := NI_g21 ci3637 (c := 0) (p := 48) rfl
                  have b3649 := NI_g22 ci3637 (c := 0) (p := 51) rfl
                  have b3650 := NI_g24 ci3637 (c := 0) (p := 61) rfl
                  have b3651 := NI_g2 ci3637 (c := 0) (p := 62) rfl
                  unfold f_MO_readTexts_114
                  refine Tp_if (fun h3652 => ?_) (fun h3652 => ?_)
                  · have g3653 := ti_q h3652
                    have l3654 : ((40 : Int32)).toInt = 40 := rfl
                    unfold f_MO_readTexts_141
                    refine Tp_if (fun h3655 => ?_) (fun h3655 => ?_)
                    · have g3656 := ti_q h3655
                      unfold f_MO_readTexts_158
                      unfold f_MO_readTexts_159
                      have l3657 : ((0 : Int32)).toInt = 0 := rfl
                      refine Tp_gd (ti_b (by omega) (by omega)) ?_
                      refine Tp_le (fun t3658 E3659 => ?_)
                      have ci3660 := NI_p2 ci3637 E3659 rfl (by omega) (by omega)
                      have i3661 := ti_rg x1
                      first | (have a3662 : (x1 + (1 : Int32)).toInt = (x1).toInt + ((1 : Int32)).toInt := ti_add (by omega) (by omega)) | (have a3663 := ti_rg (x1 + (1 : Int32)))
                      first | (have a3664 : (x2 + (1 : Int32)).toInt = (x2).toInt + ((1 : Int32)).toInt := ti_add (by omega) (by omega)) | (have a3665 := ti_rg (x2 + (1 : Int32)))
                      first | (have a3666 : (x4 + (1 : Int32)).toInt = (x4).toInt + ((1 : Int32)).toInt := ti_add (by omega) (by omega)) | (have a3667 := ti_rg (x4 + (1 : Int32)))
                      have b3668 := NI_g21 ci3660 (c := 0) (p := 48) rfl
                      have e3669 : (mz_gI t3658 0 48).toInt = (mz_gI q3630 0 48).toInt := by rw [E3659, gI_oth _ _ (by simp)]
                      have b3670 := NI_g22 ci3660 (c := 0) (p := 51) rfl
                      have e3671 : (mz_gI t3658 0 51).toInt = (mz_gI q3630 0 51).toInt := by rw [E3659, gI_oth _ _ (by simp)]
                      have b3672 := NI_13 ci3660 (c := 0) (p := 60) rfl
                      exact ih (x1 + (1 : Int32)) (x2 + (1 : Int32)) (x4 + (1 : Int32)) (x4 + (1 : Int32)) t3658 ci3660 (by omega) (by omega) (by omega) (by omega) (by omega) (by omega) (by omega) (by omega) (by omega) (by omega) (by omega) (by omega) (by omega)
                    · have g3673 := ti_nq h3655
                      refine Tp_if (fun h3674 => ?_) (fun h3674 => ?_)
                      · have g3675 := ti_l h3674
                        first | (have a3676 : (x2 + (1 : Int32)).toInt = (x2).toInt + ((1 : Int32)).toInt := ti_add (by omega) (by omega)) | (have a3677 := ti_rg (x2 + (1 : Int32)))
                        unfold f_MO_readTexts_158
                        unfold f_MO_readTexts_159
                        have l3678 : ((0 : Int32)).toInt = 0 := rfl
                        refine Tp_gd (ti_b (by omega) (by omega)) ?_
                        refine Tp_le (fun t3679 E3680 => ?_)
                        have ci3681 := NI_p2 ci3637 E3680 rfl (by omega) (by omega)
                        have i3682 := ti_rg x1
                        first | (have a3683 : (x1 + (1 : Int32)).toInt = (x1).toInt + ((1 : Int32)).toInt := ti_add (by omega) (by omega)) | (have a3684 := ti_rg (x1 + (1 : Int32)))
                        first | (have a3685 : (x4 + (1 : Int32)).toInt = (x4).toInt + ((1 : Int32)).toInt := ti_add (by omega) (by omega)) | (have a3686 := ti_rg (x4 + (1 : Int32)))
                        have b3687 := NI_g21 ci3681 (c := 0) (p := 48) rfl
                        have e3688 : (mz_gI t3679 0 48).toInt = (mz_gI q3630 0 48).toInt := by rw [E3680, gI_oth _ _ (by simp)]
                        have b3689 := NI_g22 ci3681 (c := 0) (p := 51) rfl
                        have e3690 : (mz_gI t3679 0 51).toInt = (mz_gI q3630 0 51).toInt := by rw [E3680, gI_oth _ _ (by simp)]
                        have b3691 := NI_13 ci3681 (c := 0) (p := 60) rfl
                        exact ih (x1 + (1 : Int32)) (x2 + (1 : Int32)) (x4 + (1 : Int32)) (x4 + (1 : Int32)) t3679 ci3681 (by omega) (by omega) (by omega) (by omega) (by omega) (by omega) (by omega) (by omega) (by omega) (by omega) (by omega) (by omega) (by omega)
                      · have g3692 := ti_nl h3674
                        first | (have a3693 : (x2 + (1 : Int32)).toInt = (x2).toInt + ((1 : Int32)).toInt := ti_add (by omega) (by omega)) | (have a3694 := ti_rg (x2 + (1 : Int32)))
                        unfold f_MO_readTexts_159
                        refine Tp_gd (ti_b (by omega) (by omega)) ?_
                        refine Tp_le (fun t3695 E3696 => ?_)
                        have ci3697 := NI_p2 ci3637 E3696 rfl (by omega) (by omega)
                        have i3698 := ti_rg x1
                        first | (have a3699 : (x1 + (1 : Int32)).toInt = (x1).toInt + ((1 : Int32)).toInt := ti_add (by omega) (by omega)) | (have a3700 := ti_rg (x1 + (1 : Int32)))
                        first | (have a3701 : (x4 + (1 : Int32)).toInt = (x4).toInt + ((1 : Int32)).toInt := ti_add (by omega) (by omega)) | (have a3702 := ti_rg (x4 + (1 : Int32)))
                        have b3703 := NI_g21 ci3697 (c := 0) (p := 48) rfl
                        have e3704 : (mz_gI t3695 0 48).toInt = (mz_gI q3630 0 48).toInt := by rw [E3696, gI_oth _ _ (by simp)]
                        have b3705 := NI_g22 ci3697 (c := 0) (p := 51) rfl
                        have e3706 : (mz_gI t3695 0 51).toInt = (mz_gI q3630 0 51).toInt := by rw [E3696, gI_oth _ _ (by simp)]
                        have b3707 := NI_13 ci3697 (c := 0) (p := 60) rfl
                        exact ih (x1 + (1 : Int32)) (x2 + (1 : Int32)) (x4 + (1 : Int32)) (x4 + (1 : Int32)) t3695 ci3697 (by omega) (by omega) (by omega) (by omega) (by omega) (by omega) (by omega) (by omega) (by omega) (by omega) (by omega) (by omega) (by omega)
                  · have g3708 := ti_nq h3652
                    have l3709 : ((40 : Int32)).toInt = 40 := rfl
                    refine Tp_if (fun h3710 => ?_) (fun h3710 => ?_)
                    · have g3711 := ti_q h3710
                      have l3712 : ((41 : Int32)).toInt = 41 := rfl
                      unfold f_MO_readTexts_141
                      refine Tp_if (fun h3713 => ?_) (fun h3713 => ?_)
                      · have g3714 := ti_q h3713
                        unfold f_MO_readTexts_158
                        unfold f_MO_readTexts_159
                        have l3715 : ((0 : Int32)).toInt = 0 := rfl
                        refine Tp_gd (ti_b (by omega) (by omega)) ?_
                        refine Tp_le (fun t3716 E3717 => ?_)
                        have ci3718 := NI_p2 ci3637 E3717 rfl (by omega) (by omega)
                        have i3719 := ti_rg x1
                        first | (have a3720 : (x1 + (1 : Int32)).toInt = (x1).toInt + ((1 : Int32)).toInt := ti_add (by omega) (by omega)) | (have a3721 := ti_rg (x1 + (1 : Int32)))
                        first | (have a3722 : (x2 - (1 : Int32)).toInt = (x2).toInt - ((1 : Int32)).toInt := ti_sub (by omega) (by omega)) | (have a3723 := ti_rg (x2 - (1 : Int32)))
                        first | (have a3724 : (x4 + (1 : Int32)).toInt = (x4).toInt + ((1 : Int32)).toInt := ti_add (by omega) (by omega)) | (have a3725 := ti_rg (x4 + (1 : Int32)))
                        have b3726 := NI_g21 ci3718 (c := 0) (p := 48) rfl
                        have e3727 : (mz_gI t3716 0 48).toInt = (mz_gI q3630 0 48).toInt := by rw [E3717, gI_oth _ _ (by simp)]
                        have b3728 := NI_g22 ci3718 (c := 0) (p := 51) rfl
                        have e3729 : (mz_gI t3716 0 51).toInt = (mz_gI q3630 0 51).toInt := by rw [E3717, gI_oth _ _ (by simp)]
                        have b3730 := NI_13 ci3718 (c := 0) (p := 60) rfl
                        exact ih (x1 + (1 : Int32)) (x2 - (1 : Int32)) (x4 + (1 : Int32)) (x4 + (1 : Int32)) t3716 ci3718 (by omega) (by omega) (by omega) (by omega) (by omega) (by omega) (by omega) (by omega) (by omega) (by omega) (by omega) (by omega) (by omega)
                      · have g3731 := ti_nq h3713
                        refine Tp_if (fun h3732 => ?_) (fun h3732 => ?_)
                        · have g3733 := ti_l h3732
                          first | (have a3734 : (x2 - (1 : Int32)).toInt = (x2).toInt - ((1 : Int32)).toInt := ti_sub (by omega) (by omega)) | (have a3735 := ti_rg (x2 - (1 : Int32)))
                          unfold f_MO_readTexts_158
                          unfold f_MO_readTexts_159
                          have l3736 : ((0 : Int32)).toInt = 0 := rfl
                          refine Tp_gd (ti_b (by omega) (by omega)) ?_
                          refine Tp_le (fun t3737 E3738 => ?_)
                          have ci3739 := NI_p2 ci3637 E3738 rfl (by omega) (by omega)
                          have i3740 := ti_rg x1
                          first | (have a3741 : (x1 + (1 : Int32)).toInt = (x1).toInt + ((1 : Int32)).toInt := ti_add (by omega) (by omega)) | (have a3742 := ti_rg (x1 + (1 : Int32)))
                          first | (have a3743 : (x4 + (1 : Int32)).toInt = (x4).toInt + ((1 : Int32)).toInt := ti_add (by omega) (by omega)) | (have a3744 := ti_rg (x4 + (1 : Int32)))
                          have b3745 := NI_g21 ci3739 (c := 0) (p := 48) rfl
                          have e3746 : (mz_gI t3737 0 48).toInt = (mz_gI q3630 0 48).toInt := by rw [E3738, gI_oth _ _ (by simp)]
                          have b3747 := NI_g22 ci3739 (c := 0) (p := 51) rfl
                          have e3748 : (mz_gI t3737 0 51).toInt = (mz_gI q3630 0 51).toInt := by rw [E3738, gI_oth _ _ (by simp)]
                          have b3749 := NI_13 ci3739 (c := 0) (p := 60) rfl
                          exact ih (x1 + (1 : Int32)) (x2 - (1 : Int32)) (x4 + (1 : Int32)) (x4 + (1 : Int32)) t3737 ci3739 (by omega) (by omega) (by omega) (by omega) (by omega) (by omega) (by omega) (by omega) (by omega) (by omega) (by omega) (by omega) (by omega)
                        · have g3750 := ti_nl h3732
                          first | (have a3751 : (x2 - (1 : Int32)).toInt = (x2).toInt - ((1 : Int32)).toInt := ti_sub (by omega) (by omega)) | (have a3752 := ti_rg (x2 - (1 : Int32)))
                          unfold f_MO_readTexts_159
                          refine Tp_gd (ti_b (by omega) (by omega)) ?_
                          refine Tp_le (fun t3753 E3754 => ?_)
                          have ci3755 := NI_p2 ci3637 E3754 rfl (by omega) (by omega)
                          have i3756 := ti_rg x1
                          first | (have a3757 : (x1 + (1 : Int32)).toInt = (x1).toInt + ((1 : Int32)).toInt := ti_add (by omega) (by omega)) | (have a3758 := ti_rg (x1 + (1 : Int32)))
                          first | (have a3759 : (x4 + (1 : Int32)).toInt = (x4).toInt + ((1 : Int32)).toInt := ti_add (by omega) (by omega)) | (have a3760 := ti_rg (x4 + (1 : Int32)))
                          have b3761 := NI_g21 ci3755 (c := 0) (p := 48) rfl
                          have e3762 : (mz_gI t3753 0 48).toInt = (mz_gI q3630 0 48).toInt := by rw [E3754, gI_oth _ _ (by simp)]
                          have b3763 := NI_g22 ci3755 (c := 0) (p := 51) rfl
                          have e3764 : (mz_gI t3753 0 51).toInt = (mz_gI q3630 0 51).toInt := by rw [E3754, gI_oth _ _ (by simp)]
                          have b3765 := NI_13 ci3755 (c := 0) (p := 60) rfl
                          exact ih (x1 + (1 : Int32)) (x2 - (1 : Int32)) (x4 + (1 : Int32)) (x4 + (1 : Int32)) t3753 ci3755 (by omega) (by omega) (by omega) (by omega) (by omega) (by omega) (by omega) (by omega) (by omega) (by omega) (by omega) (by omega) (by omega)
                    · have g3766 := ti_nq h3710
                      have l3767 : ((41 : Int32)).toInt = 41 := rfl
                      unfold f_MO_readTexts_141
                      refine Tp_if (fun h3768 => ?_) (fun h3768 => ?_)
                      · have g3769 := ti_q h3768
                        unfold f_MO_readTexts_158
                        unfold f_MO_readTexts_159
                        have l3770 : ((0 : Int32)).toInt = 0 := rfl
                        refine Tp_gd (ti_b (by omega) (by omega)) ?_
                        refine Tp_le (fun t3771 E3772 => ?_)
                        have ci3773 := NI_p2 ci3637 E3772 rfl (by omega) (by omega)
                        have i3774 := ti_rg x1
                        first | (have a3775 : (x1 + (1 : Int32)).toInt = (x1).toInt + ((1 : Int32)).toInt := ti_add (by omega) (by omega)) | (have a3776 := ti_rg (x1 + (1 : Int32)))
                        first | (have a3777 : (x4 + (1 : Int32)).toInt = (x4).toInt + ((1 : Int32)).toInt := ti_add (by omega) (by omega)) | (have a3778 := ti_rg (x4 + (1 : Int32)))
                        have b3779 := NI_g21 ci3773 (c := 0) (p := 48) rfl
                        have e3780 : (mz_gI t3771 0 48).toInt = (mz_gI q3630 0 48).toInt := by rw [E3772, gI_oth _ _ (by simp)]
                        have b3781 := NI_g22 ci3773 (c := 0) (p := 51) rfl
                        have e3782 : (mz_gI t3771 0 51).toInt = (mz_gI q3630 0 51).toInt := by rw [E3772, gI_oth _ _ (by simp)]
                        have b3783 := NI_13 ci3773 (c := 0) (p := 60) rfl
                        exact ih (x1 + (1 : Int32)) x2 (x4 + (1 : Int32)) (x4 + (1 : Int32)) t3771 ci3773 (by omega) (by omega) (by omega) (by omega) (by omega) (by omega) (by omega) (by omega) (by omega) (by omega) (by omega) (by omega) (by omega)
                      · have g3784 := ti_nq h3768
                        refine Tp_if (fun h3785 => ?_) (fun h3785 => ?_)
                        · have g3786 := ti_l h3785
                          unfold f_MO_readTexts_158
                          unfold f_MO_readTexts_159
                          have l3787 : ((0 : Int32)).toInt = 0 := rfl
                          refine Tp_gd (ti_b (by omega) (by omega)) ?_
                          refine Tp_le (fun t3788 E3789 => ?_)
                          have ci3790 := NI_p2 ci3637 E3789 rfl (by omega) (by omega)
                          have i3791 := ti_rg x1
                          first | (have a3792 : (x1 + (1 : Int32)).toInt = (x1).toInt + ((1 : Int32)).toInt := ti_add (by omega) (by omega)) | (have a3793 := ti_rg (x1 + (1 : Int32)))
                          first | (have a3794 : (x4 + (1 : Int32)).toInt = (x4).toInt + ((1 : Int32)).toInt := ti_add (by omega) (by omega)) | (have a3795 := ti_rg (x4 + (1 : Int32)))
                          have b3796 := NI_g21 ci3790 (c := 0) (p := 48) rfl
                          have e3797 : (mz_gI t3788 0 48).toInt = (mz_gI q3630 0 48).toInt := by rw [E3789, gI_oth _ _ (by simp)]
                          have b3798 := NI_g22 ci3790 (c := 0) (p := 51) rfl
                          have e3799 : (mz_gI t3788 0 51).toInt = (mz_gI q3630 0 51).toInt := by rw [E3789, gI_oth _ _ (by simp)]
                          have b3800 := NI_13 ci3790 (c := 0) (p := 60) rfl
                          exact ih (x1 + (1 : Int32)) x2 (x4 + (1 : Int32)) (x4 + (1 : Int32)) t3788 ci3790 (by omega) (by omega) (by omega) (by omega) (by omega) (by omega) (by omega) (by omega) (by omega) (by omega) (by omega) (by omega) (by omega)
                        · have g3801 := ti_nl h3785
                          unfold f_MO_readTexts_159
                          refine Tp_gd (ti_b (by omega) (by omega)) ?_
                          refine Tp_le (fun t3802 E3803 => ?_)
                          have ci3804 := NI_p2 ci3637 E3803 rfl (by omega) (by omega)
                          have i3805 := ti_rg x1
                          first | (have a3806 : (x1 + (1 : Int32)).toInt = (x1).toInt + ((1 : Int32)).toInt := ti_add (by omega) (by omega)) | (have a3807 := ti_rg (x1 + (1 : Int32)))
                          first | (have a3808 : (x4 + (1 : Int32)).toInt = (x4).toInt + ((1 : Int32)).toInt := ti_add (by omega) (by omega)) | (have a3809 := ti_rg (x4 + (1 : Int32)))
                          have b3810 := NI_g21 ci3804 (c := 0) (p := 48) rfl
                          have e3811 : (mz_gI t3802 0 48).toInt = (mz_gI q3630 0 48).toInt := by rw [E3803, gI_oth _ _ (by simp)]
                          have b3812 := NI_g22 ci3804 (c := 0) (p := 51) rfl
                          have e3813 : (mz_gI t3802 0 51).toInt = (mz_gI q3630 0 51).toInt := by rw [E3803, gI_oth _ _ (by simp)]
                          have b3814 := NI_13 ci3804 (c := 0) (p := 60) rfl
                          exact ih (x1 + (1 : Int32)) x2 (x4 + (1 : Int32)) (x4 + (1 : Int32)) t3802 ci3804 (by omega) (by omega) (by omega) (by omega) (by omega) (by omega) (by omega) (by omega) (by omega) (by omega) (by omega) (by omega) (by omega)
                · have g3815 := ti_nq h3624
                  unfold f_MO_readTexts_95
                  unfold f_MO_readTexts_96
                  have l3816 : ((0 : Int32)).toInt = 0 := rfl
                  refine Tp_gd (ti_b (by omega) (by omega)) ?_
                  refine Tp_le (fun t3817 E3818 => ?_)
                  have l3820 : (62 : Int32).toInt = 62 := rfl
                  have ci3819 := NI_p2 ci E3818 rfl (by omega) (by omega)
                  have i3823 := ti_rg x3
                  have b3824 := NI_g21 ci3819 (c := 0) (p := 48) rfl
                  have e3825 : (mz_gI t3817 0 48).toInt = (mz_gI t 0 48).toInt := by rw [E3818, gI_oth _ _ (by simp)]
                  have b3826 := NI_g22 ci3819 (c := 0) (p := 51) rfl
                  have e3827 : (mz_gI t3817 0 51).toInt = (mz_gI t 0 51).toInt := by rw [E3818, gI_oth _ _ (by simp)]
                  refine Tp_bi (s_MO_hold hn ci3819 (by omega) (by omega) (by omega) (by omega) (by omega) (t := t3817) (x1 := x3) (x2 := x4)) (fun q3821 h3822 => ?_)
                  obtain ⟨ci3828, p3829, p3830, p3831, p3832, p3833⟩ := h3822
                  have b3834 := NI_g24 ci3819 (c := 0) (p := 61) rfl
                  have e3835 : (mz_gI t3817 0 61).toInt = (mz_gI t 0 61).toInt := by rw [E3818, gI_oth _ _ (by simp)]
                  have b3836 := NI_g24 ci (c := 0) (p := 61) rfl
                  have b3837 := NI_g2 ci3819 (c := 0) (p := 62) rfl
                  have e3838 : (mz_gI t3817 0 62).toInt = ((0 : Int32)).toInt := by rw [E3818, gI_same]
                  have b3839 := NI_g21 ci3828 (c := 0) (p := 48) rfl
                  have b3840 := NI_g22 ci3828 (c := 0) (p := 51) rfl
                  have b3841 := NI_g24 ci3828 (c := 0) (p := 61) rfl
                  have b3842 := NI_g2 ci3828 (c := 0) (p := 62) rfl
                  unfold f_MO_readTexts_114
                  refine Tp_if (fun h3843 => ?_) (fun h3843 => ?_)
                  · have g3844 := ti_q h3843
                    have l3845 : ((40 : Int32)).toInt = 40 := rfl
                    unfold f_MO_readTexts_141
                    refine Tp_if (fun h3846 => ?_) (fun h3846 => ?_)
                    · have g3847 := ti_q h3846
                      unfold f_MO_readTexts_158
                      unfold f_MO_readTexts_159
                      refine Tp_gd (ti_b (by omega) (by omega)) ?_
                      refine Tp_le (fun t3848 E3849 => ?_)
                      have ci3850 := NI_p2 ci3828 E3849 rfl (by omega) (by omega)
                      have i3851 := ti_rg x1
                      first | (have a3852 : (x1 + (1 : Int32)).toInt = (x1).toInt + ((1 : Int32)).toInt := ti_add (by omega) (by omega)) | (have a3853 := ti_rg (x1 + (1 : Int32)))
                      first | (have a3854 : (x2 + (1 : Int32)).toInt = (x2).toInt + ((1 : Int32)).toInt := ti_add (by omega) (by omega)) | (have a3855 := ti_rg (x2 + (1 : Int32)))
                      first | (have a3856 : (x4 + (1 : Int32)).toInt = (x4).toInt + ((1 : Int32)).toInt := ti_add (by omega) (by omega)) | (have a3857 := ti_rg (x4 + (1 : Int32)))
                      have b3858 := NI_g21 ci3850 (c := 0) (p := 48) rfl
                      have e3859 : (mz_gI t3848 0 48).toInt = (mz_gI q3821 0 48).toInt := by rw [E3849, gI_oth _ _ (by simp)]
                      have b3860 := NI_g22 ci3850 (c := 0) (p := 51) rfl
                      have e3861 : (mz_gI t3848 0 51).toInt = (mz_gI q3821 0 51).toInt := by rw [E3849, gI_oth _ _ (by simp)]
                      have b3862 := NI_13 ci3850 (c := 0) (p := 60) rfl
                      exact ih (x1 + (1 : Int32)) (x2 + (1 : Int32)) (x4 + (1 : Int32)) (x4 + (1 : Int32)) t3848 ci3850 (by omega) (by omega) (by omega) (by omega) (by omega) (by omega) (by omega) (by omega) (by omega) (by omega) (by omega) (by omega) (by omega)
                    · have g3863 := ti_nq h3846
                      refine Tp_if (fun h3864 => ?_) (fun h3864 => ?_)
                      · have g3865 := ti_l h3864
                        first | (have a3866 : (x2 + (1 : Int32)).toInt = (x2).toInt + ((1 : Int32)).toInt := ti_add (by omega) (by omega)) | (have a3867 := ti_rg (x2 + (1 : Int32)))
                        unfold f_MO_readTexts_158
                        unfold f_MO_readTexts_159
                        refine Tp_gd (ti_b (by omega) (by omega)) ?_
                        refine Tp_le (fun t3868 E3869 => ?_)
                        have ci3870 := NI_p2 ci3828 E3869 rfl (by omega) (by omega)
                        have i3871 := ti_rg x1
                        first | (have a3872 : (x1 + (1 : Int32)).toInt = (x1).toInt + ((1 : Int32)).toInt := ti_add (by omega) (by omega)) | (have a3873 := ti_rg (x1 + (1 : Int32)))
                        first | (have a3874 : (x4 + (1 : Int32)).toInt = (x4).toInt + ((1 : Int32)).toInt := ti_add (by omega) (by omega)) | (have a3875 := ti_rg (x4 + (1 : Int32)))
                        have b3876 := NI_g21 ci3870 (c := 0) (p := 48) rfl
                        have e3877 : (mz_gI t3868 0 48).toInt = (mz_gI q3821 0 48).toInt := by rw [E3869, gI_oth _ _ (by simp)]
                        have b3878 := NI_g22 ci3870 (c := 0) (p := 51) rfl
                        have e3879 : (mz_gI t3868 0 51).toInt = (mz_gI q3821 0 51).toInt := by rw [E3869, gI_oth _ _ (by simp)]
                        have b3880 := NI_13 ci3870 (c := 0) (p := 60) rfl
                        exact ih (x1 + (1 : Int32)) (x2 + (1 : Int32)) (x4 + (1 : Int32)) (x4 + (1 : Int32)) t3868 ci3870 (by omega) (by omega) (by omega) (by omega) (by omega) (by omega) (by omega) (by omega) (by omega) (by omega) (by omega) (by omega) (by omega)
                      · have g3881 := ti_nl h3864
                        first | (have a3882 : (x2 + (1 : Int32)).toInt = (x2).toInt + ((1 : Int32)).toInt := ti_add (by omega) (by omega)) | (have a3883 := ti_rg (x2 + (1 : Int32)))
                        unfold f_MO_readTexts_159
                        refine Tp_gd (ti_b (by omega) (by omega)) ?_
                        refine Tp_le (fun t3884 E3885 => ?_)
                        have ci3886 := NI_p2 ci3828 E3885 rfl (by omega) (by omega)
                        have i3887 := ti_rg x1
                        first | (have a3888 : (x1 + (1 : Int32)).toInt = (x1).toInt + ((1 : Int32)).toInt := ti_add (by omega) (by omega)) | (have a3889 := ti_rg (x1 + (1 : Int32)))
                        first | (have a3890 : (x4 + (1 : Int32)).toInt = (x4).toInt + ((1 : Int32)).toInt := ti_add (by omega) (by omega)) | (have a3891 := ti_rg (x4 + (1 : Int32)))
                        have b3892 := NI_g21 ci3886 (c := 0) (p := 48) rfl
                        have e3893 : (mz_gI t3884 0 48).toInt = (mz_gI q3821 0 48).toInt := by rw [E3885, gI_oth _ _ (by simp)]
                        have b3894 := NI_g22 ci3886 (c := 0) (p := 51) rfl
                        have e3895 : (mz_gI t3884 0 51).toInt = (mz_gI q3821 0 51).toInt := by rw [E3885, gI_oth _ _ (by simp)]
                        have b3896 := NI_13 ci3886 (c := 0) (p := 60) rfl
                        exact ih (x1 + (1 : Int32)) (x2 + (1 : Int32)) (x4 + (1 : Int32)) (x4 + (1 : Int32)) t3884 ci3886 (by omega) (by omega) (by omega) (by omega) (by omega) (by omega) (by omega) (by omega) (by omega) (by omega) (by omega) (by omega) (by omega)
                  · have g3897 := ti_nq h3843
                    have l3898 : ((40 : Int32)).toInt = 40 := rfl
                    refine Tp_if (fun h3899 => ?_) (fun h3899 => ?_)
                    · have g3900 := ti_q h3899
                      have l3901 : ((41 : Int32)).toInt = 41 := rfl
                      unfold f_MO_readTexts_141
                      refine Tp_if (fun h3902 => ?_) (fun h3902 => ?_)
                      · have g3903 := ti_q h3902
                        unfold f_MO_readTexts_158
                        unfold f_MO_readTexts_159
                        refine Tp_gd (ti_b (by omega) (by omega)) ?_
                        refine Tp_le (fun t3904 E3905 => ?_)
                        have ci3906 := NI_p2 ci3828 E3905 rfl (by omega) (by omega)
                        have i3907 := ti_rg x1
                        first | (have a3908 : (x1 + (1 : Int32)).toInt = (x1).toInt + ((1 : Int32)).toInt := ti_add (by omega) (by omega)) | (have a3909 := ti_rg (x1 + (1 : Int32)))
                        first | (have a3910 : (x2 - (1 : Int32)).toInt = (x2).toInt - ((1 : Int32)).toInt := ti_sub (by omega) (by omega)) | (have a3911 := ti_rg (x2 - (1 : Int32)))
                        first | (have a3912 : (x4 + (1 : Int32)).toInt = (x4).toInt + ((1 : Int32)).toInt := ti_add (by omega) (by omega)) | (have a3913 := ti_rg (x4 + (1 : Int32)))
                        have b3914 := NI_g21 ci3906 (c := 0) (p := 48) rfl
                        have e3915 : (mz_gI t3904 0 48).toInt = (mz_gI q3821 0 48).toInt := by rw [E3905, gI_oth _ _ (by simp)]
                        have b3916 := NI_g22 ci3906 (c := 0) (p := 51) rfl
                        have e3917 : (mz_gI t3904 0 51).toInt = (mz_gI q3821 0 51).toInt := by rw [E3905, gI_oth _ _ (by simp)]
                        have b3918 := NI_13 ci3906 (c := 0) (p := 60) rfl
                        exact ih (x1 + (1 : Int32)) (x2 - (1 : Int32)) (x4 + (1 : Int32)) (x4 + (1 : Int32)) t3904 ci3906 (by omega) (by omega) (by omega) (by omega) (by omega) (by omega) (by omega) (by omega) (by omega) (by omega) (by omega) (by omega) (by omega)
                      · have g3919 := ti_nq h3902
                        refine Tp_if (fun h3920 => ?_) (fun h3920 => ?_)
                        · have g3921 := ti_l h3920
                          first | (have a3922 : (x2 - (1 : Int32)).toInt = (x2).toInt - ((1 : Int32)).toInt := ti_sub (by omega) (by omega)) | (have a3923 := ti_rg (x2 - (1 : Int32)))
                          unfold f_MO_readTexts_158
                          unfold f_MO_readTexts_159
                          refine Tp_gd (ti_b (by omega) (by omega)) ?_
                          refine Tp_le (fun t3924 E3925 => ?_)
                          have ci3926 := NI_p2 ci3828 E3925 rfl (by omega) (by omega)
                          have i3927 := ti_rg x1
                          first | (have a3928 : (x1 + (1 : Int32)).toInt = (x1).toInt + ((1 : Int32)).toInt := ti_add (by omega) (by omega)) | (have a3929 := ti_rg (x1 + (1 : Int32)))
                          first | (have a3930 : (x4 + (1 : Int32)).toInt = (x4).toInt + ((1 : Int32)).toInt := ti_add (by omega) (by omega)) | (have a3931 := ti_rg (x4 + (1 : Int32)))
                          have b3932 := NI_g21 ci3926 (c := 0) (p := 48) rfl
                          have e3933 : (mz_gI t3924 0 48).toInt = (mz_gI q3821 0 48).toInt := by rw [E3925, gI_oth _ _ (by simp)]
                          have b3934 := NI_g22 ci3926 (c := 0) (p := 51) rfl
                          have e3935 : (mz_gI t3924 0 51).toInt = (mz_gI q3821 0 51).toInt := by rw [E3925, gI_oth _ _ (by simp)]
                          have b3936 := NI_13 ci3926 (c := 0) (p := 60) rfl
                          exact ih (x1 + (1 : Int32)) (x2 - (1 : Int32)) (x4 + (1 : Int32)) (x4 + (1 : Int32)) t3924 ci3926 (by omega) (by omega) (by omega) (by omega) (by omega) (by omega) (by omega) (by omega) (by omega) (by omega) (by omega) (by omega) (by omega)
                        · have g3937 := ti_nl h3920
                          first | (have a3938 : (x2 - (1 : Int32)).toInt = (x2).toInt - ((1 : Int32)).toInt := ti_sub (by omega) (by omega)) | (have a3939 := ti_rg (x2 - (1 : Int32)))
                          unfold f_MO_readTexts_159
                          refine Tp_gd (ti_b (by omega) (by omega)) ?_
                          refine Tp_le (fun t3940 E3941 => ?_)
                          have ci3942 := NI_p2 ci3828 E3941 rfl (by omega) (by omega)
                          have i3943 := ti_rg x1
                          first | (have a3944 : (x1 + (1 : Int32)).toInt = (x1).toInt + ((1 : Int32)).toInt := ti_add (by omega) (by omega)) | (have a3945 := ti_rg (x1 + (1 : Int32)))
                          first | (have a3946 : (x4 + (1 : Int32)).toInt = (x4).toInt + ((1 : Int32)).toInt := ti_add (by omega) (by omega)) | (have a3947 := ti_rg (x4 + (1 : Int32)))
                          have b3948 := NI_g21 ci3942 (c := 0) (p := 48) rfl
                          have e3949 : (mz_gI t3940 0 48).toInt = (mz_gI q3821 0 48).toInt := by rw [E3941, gI_oth _ _ (by simp)]
                          have b3950 := NI_g22 ci3942 (c := 0) (p := 51) rfl
                          have e3951 : (mz_gI t3940 0 51).toInt = (mz_gI q3821 0 51).toInt := by rw [E3941, gI_oth _ _ (by simp)]
                          have b3952 := NI_13 ci3942 (c := 0) (p := 60) rfl
                          exact ih (x1 + (1 : Int32)) (x2 - (1 : Int32)) (x4 + (1 : Int32)) (x4 + (1 : Int32)) t3940 ci3942 (by omega) (by omega) (by omega) (by omega) (by omega) (by omega) (by omega) (by omega) (by omega) (by omega) (by omega) (by omega) (by omega)
                    · have g3953 := ti_nq h3899
                      have l3954 : ((41 : Int32)).toInt = 41 := rfl
                      unfold f_MO_readTexts_141
                      refine Tp_if (fun h3955 => ?_) (fun h3955 => ?_)
                      · have g3956 := ti_q h3955
                        unfold f_MO_readTexts_158
                        unfold f_MO_readTexts_159
                        refine Tp_gd (ti_b (by omega) (by omega)) ?_
                        refine Tp_le (fun t3957 E3958 => ?_)
                        have ci3959 := NI_p2 ci3828 E3958 rfl (by omega) (by omega)
                        have i3960 := ti_rg x1
                        first | (have a3961 : (x1 + (1 : Int32)).toInt = (x1).toInt + ((1 : Int32)).toInt := ti_add (by omega) (by omega)) | (have a3962 := ti_rg (x1 + (1 : Int32)))
                        first | (have a3963 : (x4 + (1 : Int32)).toInt = (x4).toInt + ((1 : Int32)).toInt := ti_add (by omega) (by omega)) | (have a3964 := ti_rg (x4 + (1 : Int32)))
                        have b3965 := NI_g21 ci3959 (c := 0) (p := 48) rfl
                        have e3966 : (mz_gI t3957 0 48).toInt = (mz_gI q3821 0 48).toInt := by rw [E3958, gI_oth _ _ (by simp)]
                        have b3967 := NI_g22 ci3959 (c := 0) (p := 51) rfl
                        have e3968 : (mz_gI t3957 0 51).toInt = (mz_gI q3821 0 51).toInt := by rw [E3958, gI_oth _ _ (by simp)]
                        have b3969 := NI_13 ci3959 (c := 0) (p := 60) rfl
                        exact ih (x1 + (1 : Int32)) x2 (x4 + (1 : Int32)) (x4 + (1 : Int32)) t3957 ci3959 (by omega) (by omega) (by omega) (by omega) (by omega) (by omega) (by omega) (by omega) (by omega) (by omega) (by omega) (by omega) (by omega)
                      · have g3970 := ti_nq h3955
                        refine Tp_if (fun h3971 => ?_) (fun h3971 => ?_)
                        · have g3972 := ti_l h3971
                          unfold f_MO_readTexts_158
                          unfold f_MO_readTexts_159
                          refine Tp_gd (ti_b (by omega) (by omega)) ?_
                          refine Tp_le (fun t3973 E3974 => ?_)
                          have ci3975 := NI_p2 ci3828 E3974 rfl (by omega) (by omega)
                          have i3976 := ti_rg x1
                          first | (have a3977 : (x1 + (1 : Int32)).toInt = (x1).toInt + ((1 : Int32)).toInt := ti_add (by omega) (by omega)) | (have a3978 := ti_rg (x1 + (1 : Int32)))
                          first | (have a3979 : (x4 + (1 : Int32)).toInt = (x4).toInt + ((1 : Int32)).toInt := ti_add (by omega) (by omega)) | (have a3980 := ti_rg (x4 + (1 : Int32)))
                          have b3981 := NI_g21 ci3975 (c := 0) (p := 48) rfl
                          have e3982 : (mz_gI t3973 0 48).toInt = (mz_gI q3821 0 48).toInt := by rw [E3974, gI_oth _ _ (by simp)]
                          have b3983 := NI_g22 ci3975 (c := 0) (p := 51) rfl
                          have e3984 : (mz_gI t3973 0 51).toInt = (mz_gI q3821 0 51).toInt := by rw [E3974, gI_oth _ _ (by simp)]
                          have b3985 := NI_13 ci3975 (c := 0) (p := 60) rfl
                          exact ih (x1 + (1 : Int32)) x2 (x4 + (1 : Int32)) (x4 + (1 : Int32)) t3973 ci3975 (by omega) (by omega) (by omega) (by omega) (by omega) (by omega) (by omega) (by omega) (by omega) (by omega) (by omega) (by omega) (by omega)
                        · have g3986 := ti_nl h3971
                          unfold f_MO_readTexts_159
                          refine Tp_gd (ti_b (by omega) (by omega)) ?_
                          refine Tp_le (fun t3987 E3988 => ?_)
                          have ci3989 := NI_p2 ci3828 E3988 rfl (by omega) (by omega)
                          have i3990 := ti_rg x1
                          first | (have a3991 : (x1 + (1 : Int32)).toInt = (x1).toInt + ((1 : Int32)).toInt := ti_add (by omega) (by omega)) | (have a3992 := ti_rg (x1 + (1 : Int32)))
                          first | (have a3993 : (x4 + (1 : Int32)).toInt = (x4).toInt + ((1 : Int32)).toInt := ti_add (by omega) (by omega)) | (have a3994 := ti_rg (x4 + (1 : Int32)))
                          have b3995 := NI_g21 ci3989 (c := 0) (p := 48) rfl
                          have e3996 : (mz_gI t3987 0 48).toInt = (mz_gI q3821 0 48).toInt := by rw [E3988, gI_oth _ _ (by simp)]
                          have b3997 := NI_g22 ci3989 (c := 0) (p := 51) rfl
                          have e3998 : (mz_gI t3987 0 51).toInt = (mz_gI q3821 0 51).toInt := by rw [E3988, gI_oth _ _ (by simp)]
                          have b3999 := NI_13 ci3989 (c := 0) (p := 60) rfl
                          exact ih (x1 + (1 : Int32)) x2 (x4 + (1 : Int32)) (x4 + (1 : Int32)) t3987 ci3989 (by omega) (by omega) (by omega) (by omega) (by omega) (by omega) (by omega) (by omega) (by omega) (by omega) (by omega) (by omega) (by omega)
          · have g4000 := ti_nq h3257
            have i4001 := ti_rg x2
            have l4002 : (0 : Int32).toInt = 0 := rfl
            refine Tp_if (fun h4003 => ?_) (fun h4003 => ?_)
            · have g4004 := ti_q h4003
              unfold f_MO_readTexts_67
              unfold f_MO_readTexts_72
              refine Tp_if (fun h4005 => ?_) (fun h4005 => ?_)
              · have g4006 := ti_q h4005
                have l4007 : ((1 : Int32)).toInt = 1 := rfl
                unfold f_MO_readTexts_114
                refine Tp_if (fun h4008 => ?_) (fun h4008 => ?_)
                · have g4009 := ti_q h4008
                  have l4010 : ((40 : Int32)).toInt = 40 := rfl
                  unfold f_MO_readTexts_141
                  refine Tp_if (fun h4011 => ?_) (fun h4011 => ?_)
                  · have g4012 := ti_q h4011
                    have b4013 := NI_g2 ci (c := 0) (p := 62) rfl
                    unfold f_MO_readTexts_158
                    unfold f_MO_readTexts_159
                    have l4014 : ((0 : Int32)).toInt = 0 := rfl
                    refine Tp_gd (ti_b (by omega) (by omega)) ?_
                    refine Tp_le (fun t4015 E4016 => ?_)
                    have l4018 : (62 : Int32).toInt = 62 := rfl
                    have ci4017 := NI_p2 ci E4016 rfl (by omega) (by omega)
                    have i4019 := ti_rg x1
                    first | (have a4020 : (x2 + (1 : Int32)).toInt = (x2).toInt + ((1 : Int32)).toInt := ti_add (by omega) (by omega)) | (have a4021 := ti_rg (x2 + (1 : Int32)))
                    have i4022 := ti_rg x3
                    first | (have a4023 : (x4 + (1 : Int32)).toInt = (x4).toInt + ((1 : Int32)).toInt := ti_add (by omega) (by omega)) | (have a4024 := ti_rg (x4 + (1 : Int32)))
                    have b4025 := NI_g21 ci4017 (c := 0) (p := 48) rfl
                    have e4026 : (mz_gI t4015 0 48).toInt = (mz_gI t 0 48).toInt := by rw [E4016, gI_oth _ _ (by simp)]
                    have b4027 := NI_g22 ci4017 (c := 0) (p := 51) rfl
                    have e4028 : (mz_gI t4015 0 51).toInt = (mz_gI t 0 51).toInt := by rw [E4016, gI_oth _ _ (by simp)]
                    have b4029 := NI_13 ci4017 (c := 0) (p := 60) rfl
                    exact ih x1 (x2 + (1 : Int32)) x3 (x4 + (1 : Int32)) t4015 ci4017 (by omega) (by omega) (by omega) (by omega) (by omega) (by omega) (by omega) (by omega) (by omega) (by omega) (by omega) (by omega) (by omega)
                  · have g4030 := ti_nq h4011
                    have b4031 := NI_g2 ci (c := 0) (p := 62) rfl
                    refine Tp_if (fun h4032 => ?_) (fun h4032 => ?_)
                    · have g4033 := ti_l h4032
                      first | (have a4034 : (x2 + (1 : Int32)).toInt = (x2).toInt + ((1 : Int32)).toInt := ti_add (by omega) (by omega)) | (have a4035 := ti_rg (x2 + (1 : Int32)))
                      unfold f_MO_readTexts_158
                      unfold f_MO_readTexts_159
                      have l4036 : ((0 : Int32)).toInt = 0 := rfl
                      refine Tp_gd (ti_b (by omega) (by omega)) ?_
                      refine Tp_le (fun t4037 E4038 => ?_)
                      have l4040 : (62 : Int32).toInt = 62 := rfl
                      have ci4039 := NI_p2 ci E4038 rfl (by omega) (by omega)
                      have i4041 := ti_rg x1
                      have i4042 := ti_rg x3
                      first | (have a4043 : (x4 + (1 : Int32)).toInt = (x4).toInt + ((1 : Int32)).toInt := ti_add (by omega) (by omega)) | (have a4044 := ti_rg (x4 + (1 : Int32)))
                      have b4045 := NI_g21 ci4039 (c := 0) (p := 48) rfl
                      have e4046 : (mz_gI t4037 0 48).toInt = (mz_gI t 0 48).toInt := by rw [E4038, gI_oth _ _ (by simp)]
                      have b4047 := NI_g22 ci4039 (c := 0) (p := 51) rfl
                      have e4048 : (mz_gI t4037 0 51).toInt = (mz_gI t 0 51).toInt := by rw [E4038, gI_oth _ _ (by simp)]
                      have b4049 := NI_13 ci4039 (c := 0) (p := 60) rfl
                      exact ih x1 (x2 + (1 : Int32)) x3 (x4 + (1 : Int32)) t4037 ci4039 (by omega) (by omega) (by omega) (by omega) (by omega) (by omega) (by omega) (by omega) (by omega) (by omega) (by omega) (by omega) (by omega)
                    · have g4050 := ti_nl h4032
                      first | (have a4051 : (x2 + (1 : Int32)).toInt = (x2).toInt + ((1 : Int32)).toInt := ti_add (by omega) (by omega)) | (have a4052 := ti_rg (x2 + (1 : Int32)))
                      unfold f_MO_readTexts_159
                      refine Tp_gd (ti_b (by omega) (by omega)) ?_
                      refine Tp_le (fun t4053 E4054 => ?_)
                      have l4056 : (62 : Int32).toInt = 62 := rfl
                      have ci4055 := NI_p2 ci E4054 rfl (by omega) (by omega)
                      have i4057 := ti_rg x1
                      have i4058 := ti_rg x3
                      first | (have a4059 : (x4 + (1 : Int32)).toInt = (x4).toInt + ((1 : Int32)).toInt := ti_add (by omega) (by omega)) | (have a4060 := ti_rg (x4 + (1 : Int32)))
                      have b4061 := NI_g21 ci4055 (c := 0) (p := 48) rfl
                      have e4062 : (mz_gI t4053 0 48).toInt = (mz_gI t 0 48).toInt := by rw [E4054, gI_oth _ _ (by simp)]
                      have b4063 := NI_g22 ci4055 (c := 0) (p := 51) rfl
                      have e4064 : (mz_gI t4053 0 51).toInt = (mz_gI t 0 51).toInt := by rw [E4054, gI_oth _ _ (by simp)]
                      have b4065 := NI_13 ci4055 (c := 0) (p := 60) rfl
                      exact ih x1 (x2 + (1 : Int32)) x3 (x4 + (1 : Int32)) t4053 ci4055 (by omega) (by omega) (by omega) (by omega) (by omega) (by omega) (by omega) (by omega) (by omega) (by omega) (by omega) (by omega) (by omega)
                · have g4066 := ti_nq h4008
                  have l4067 : ((40 : Int32)).toInt = 40 := rfl
                  refine Tp_if (fun h4068 => ?_) (fun h4068 => ?_)
                  · have g4069 := ti_q h4068
                    have l4070 : ((41 : Int32)).toInt = 41 := rfl
                    unfold f_MO_readTexts_141
                    refine Tp_if (fun h4071 => ?_) (fun h4071 => ?_)
                    · have g4072 := ti_q h4071
                      have b4073 := NI_g2 ci (c := 0) (p := 62) rfl
                      unfold f_MO_readTexts_158
                      unfold f_MO_readTexts_159
                      have l4074 : ((0 : Int32)).toInt = 0 := rfl
                      refine Tp_gd (ti_b (by omega) (by omega)) ?_
                      refine Tp_le (fun t4075 E4076 => ?_)
                      have l4078 : (62 : Int32).toInt = 62 := rfl
                      have ci4077 := NI_p2 ci E4076 rfl (by omega) (by omega)
                      have i4079 := ti_rg x1
                      first | (have a4080 : (x2 - (1 : Int32)).toInt = (x2).toInt - ((1 : Int32)).toInt := ti_sub (by omega) (by omega)) | (have a4081 := ti_rg (x2 - (1 : Int32)))
                      have i4082 := ti_rg x3
                      first | (have a4083 : (x4 + (1 : Int32)).toInt = (x4).toInt + ((1 : Int32)).toInt := ti_add (by omega) (by omega)) | (have a4084 := ti_rg (x4 + (1 : Int32)))
                      have b4085 := NI_g21 ci4077 (c := 0) (p := 48) rfl
                      have e4086 : (mz_gI t4075 0 48).toInt = (mz_gI t 0 48).toInt := by rw [E4076, gI_oth _ _ (by simp)]
                      have b4087 := NI_g22 ci4077 (c := 0) (p := 51) rfl
                      have e4088 : (mz_gI t4075 0 51).toInt = (mz_gI t 0 51).toInt := by rw [E4076, gI_oth _ _ (by simp)]
                      have b4089 := NI_13 ci4077 (c := 0) (p := 60) rfl
                      exact ih x1 (x2 - (1 : Int32)) x3 (x4 + (1 : Int32)) t4075 ci4077 (by omega) (by omega) (by omega) (by omega) (by omega) (by omega) (by omega) (by omega) (by omega) (by omega) (by omega) (by omega) (by omega)
                    · have g4090 := ti_nq h4071
                      have b4091 := NI_g2 ci (c := 0) (p := 62) rfl
                      refine Tp_if (fun h4092 => ?_) (fun h4092 => ?_)
                      · have g4093 := ti_l h4092
                        first | (have a4094 : (x2 - (1 : Int32)).toInt = (x2).toInt - ((1 : Int32)).toInt := ti_sub (by omega) (by omega)) | (have a4095 := ti_rg (x2 - (1 : Int32)))
                        unfold f_MO_readTexts_158
                        unfold f_MO_readTexts_159
                        have l4096 : ((0 : Int32)).toInt = 0 := rfl
                        refine Tp_gd (ti_b (by omega) (by omega)) ?_
                        refine Tp_le (fun t4097 E4098 => ?_)
                        have l4100 : (62 : Int32).toInt = 62 := rfl
                        have ci4099 := NI_p2 ci E4098 rfl (by omega) (by omega)
                        have i4101 := ti_rg x1
                        have i4102 := ti_rg x3
                        first | (have a4103 : (x4 + (1 : Int32)).toInt = (x4).toInt + ((1 : Int32)).toInt := ti_add (by omega) (by omega)) | (have a4104 := ti_rg (x4 + (1 : Int32)))
                        have b4105 := NI_g21 ci4099 (c := 0) (p := 48) rfl
                        have e4106 : (mz_gI t4097 0 48).toInt = (mz_gI t 0 48).toInt := by rw [E4098, gI_oth _ _ (by simp)]
                        have b4107 := NI_g22 ci4099 (c := 0) (p := 51) rfl
                        have e4108 : (mz_gI t4097 0 51).toInt = (mz_gI t 0 51).toInt := by rw [E4098, gI_oth _ _ (by simp)]
                        have b4109 := NI_13 ci4099 (c := 0) (p := 60) rfl
                        exact ih x1 (x2 - (1 : Int32)) x3 (x4 + (1 : Int32)) t4097 ci4099 (by omega) (by omega) (by omega) (by omega) (by omega) (by omega) (by omega) (by omega) (by omega) (by omega) (by omega) (by omega) (by omega)
                      · have g4110 := ti_nl h4092
                        first | (have a4111 : (x2 - (1 : Int32)).toInt = (x2).toInt - ((1 : Int32)).toInt := ti_sub (by omega) (by omega)) | (have a4112 := ti_rg (x2 - (1 : Int32)))
                        unfold f_MO_readTexts_159
                        refine Tp_gd (ti_b (by omega) (by omega)) ?_
                        refine Tp_le (fun t4113 E4114 => ?_)
                        have l4116 : (62 : Int32).toInt = 62 := rfl
                        have ci4115 := NI_p2 ci E4114 rfl (by omega) (by omega)
                        have i4117 := ti_rg x1
                        have i4118 := ti_rg x3
                        first | (have a4119 : (x4 + (1 : Int32)).toInt = (x4).toInt + ((1 : Int32)).toInt := ti_add (by omega) (by omega)) | (have a4120 := ti_rg (x4 + (1 : Int32)))
                        have b4121 := NI_g21 ci4115 (c := 0) (p := 48) rfl
                        have e4122 : (mz_gI t4113 0 48).toInt = (mz_gI t 0 48).toInt := by rw [E4114, gI_oth _ _ (by simp)]
                        have b4123 := NI_g22 ci4115 (c := 0) (p := 51) rfl
                        have e4124 : (mz_gI t4113 0 51).toInt = (mz_gI t 0 51).toInt := by rw [E4114, gI_oth _ _ (by simp)]
                        have b4125 := NI_13 ci4115 (c := 0) (p := 60) rfl
                        exact ih x1 (x2 - (1 : Int32)) x3 (x4 + (1 : Int32)) t4113 ci4115 (by omega) (by omega) (by omega) (by omega) (by omega) (by omega) (by omega) (by omega) (by omega) (by omega) (by omega) (by omega) (by omega)
                  · have g4126 := ti_nq h4068
                    have l4127 : ((41 : Int32)).toInt = 41 := rfl
                    unfold f_MO_readTexts_141
                    refine Tp_if (fun h4128 => ?_) (fun h4128 => ?_)
                    · have g4129 := ti_q h4128
                      have b4130 := NI_g2 ci (c := 0) (p := 62) rfl
                      unfold f_MO_readTexts_158
                      unfold f_MO_readTexts_159
                      have l4131 : ((0 : Int32)).toInt = 0 := rfl
                      refine Tp_gd (ti_b (by omega) (by omega)) ?_
                      refine Tp_le (fun t4132 E4133 => ?_)
                      have l4135 : (62 : Int32).toInt = 62 := rfl
                      have ci4134 := NI_p2 ci E4133 rfl (by omega) (by omega)
                      have i4136 := ti_rg x1
                      have i4137 := ti_rg x3
                      first | (have a4138 : (x4 + (1 : Int32)).toInt = (x4).toInt + ((1 : Int32)).toInt := ti_add (by omega) (by omega)) | (have a4139 := ti_rg (x4 + (1 : Int32)))
                      have b4140 := NI_g21 ci4134 (c := 0) (p := 48) rfl
                      have e4141 : (mz_gI t4132 0 48).toInt = (mz_gI t 0 48).toInt := by rw [E4133, gI_oth _ _ (by simp)]
                      have b4142 := NI_g22 ci4134 (c := 0) (p := 51) rfl
                      have e4143 : (mz_gI t4132 0 51).toInt = (mz_gI t 0 51).toInt := by rw [E4133, gI_oth _ _ (by simp)]
                      have b4144 := NI_13 ci4134 (c := 0) (p := 60) rfl
                      exact ih x1 x2 x3 (x4 + (1 : Int32)) t4132 ci4134 (by omega) (by omega) (by omega) (by omega) (by omega) (by omega) (by omega) (by omega) (by omega) (by omega) (by omega) (by omega) (by omega)
                    · have g4145 := ti_nq h4128
                      have b4146 := NI_g2 ci (c := 0) (p := 62) rfl
                      refine Tp_if (fun h4147 => ?_) (fun h4147 => ?_)
                      · have g4148 := ti_l h4147
                        unfold f_MO_readTexts_158
                        unfold f_MO_readTexts_159
                        have l4149 : ((0 : Int32)).toInt = 0 := rfl
                        refine Tp_gd (ti_b (by omega) (by omega)) ?_
                        refine Tp_le (fun t4150 E4151 => ?_)
                        have l4153 : (62 : Int32).toInt = 62 := rfl
                        have ci4152 := NI_p2 ci E4151 rfl (by omega) (by omega)
                        have i4154 := ti_rg x1
                        have i4155 := ti_rg x3
                        first | (have a4156 : (x4 + (1 : Int32)).toInt = (x4).toInt + ((1 : Int32)).toInt := ti_add (by omega) (by omega)) | (have a4157 := ti_rg (x4 + (1 : Int32)))
                        have b4158 := NI_g21 ci4152 (c := 0) (p := 48) rfl
                        have e4159 : (mz_gI t4150 0 48).toInt = (mz_gI t 0 48).toInt := by rw [E4151, gI_oth _ _ (by simp)]
                        have b4160 := NI_g22 ci4152 (c := 0) (p := 51) rfl
                        have e4161 : (mz_gI t4150 0 51).toInt = (mz_gI t 0 51).toInt := by rw [E4151, gI_oth _ _ (by simp)]
                        have b4162 := NI_13 ci4152 (c := 0) (p := 60) rfl
                        exact ih x1 x2 x3 (x4 + (1 : Int32)) t4150 ci4152 (by omega) (by omega) (by omega) (by omega) (by omega) (by omega) (by omega) (by omega) (by omega) (by omega) (by omega) (by omega) (by omega)
                      · have g4163 := ti_nl h4147
                        unfold f_MO_readTexts_159
                        refine Tp_gd (ti_b (by omega) (by omega)) ?_
                        refine Tp_le (fun t4164 E4165 => ?_)
                        have l4167 : (62 : Int32).toInt = 62 := rfl
                        have ci4166 := NI_p2 ci E4165 rfl (by omega) (by omega)
                        have i4168 := ti_rg x1
                        have i4169 := ti_rg x3
                        first | (have a4170 : (x4 + (1 : Int32)).toInt = (x4).toInt + ((1 : Int32)).toInt := ti_add (by omega) (by omega)) | (have a4171 := ti_rg (x4 + (1 : Int32)))
                        have b4172 := NI_g21 ci4166 (c := 0) (p := 48) rfl
                        have e4173 : (mz_gI t4164 0 48).toInt = (mz_gI t 0 48).toInt := by rw [E4165, gI_oth _ _ (by simp)]
                        have b4174 := NI_g22 ci4166 (c := 0) (p := 51) rfl
                        have e4175 : (mz_gI t4164 0 51).toInt = (mz_gI t 0 51).toInt := by rw [E4165, gI_oth _ _ (by simp)]
                        have b4176 := NI_13 ci4166 (c := 0) (p := 60) rfl
                        exact ih x1 x2 x3 (x4 + (1 : Int32)) t4164 ci4166 (by omega) (by omega) (by omega) (by omega) (by omega) (by omega) (by omega) (by omega) (by omega) (by omega) (by omega) (by omega) (by omega)
              · have g4177 := ti_nq h4005
                have l4178 : ((1 : Int32)).toInt = 1 := rfl
                refine Tp_if (fun h4179 => ?_) (fun h4179 => ?_)
                · have g4180 := ti_q h4179
                  have b4181 := NI_g2 ci (c := 0) (p := 62) rfl
                  unfold f_MO_readTexts_95
                  unfold f_MO_readTexts_96
                  have l4182 : ((0 : Int32)).toInt = 0 := rfl
                  refine Tp_gd (ti_b (by omega) (by omega)) ?_
                  refine Tp_le (fun t4183 E4184 => ?_)
                  have l4186 : (62 : Int32).toInt = 62 := rfl
                  have ci4185 := NI_p2 ci E4184 rfl (by omega) (by omega)
                  have i4189 := ti_rg x3
                  have b4190 := NI_g21 ci4185 (c := 0) (p := 48) rfl
                  have e4191 : (mz_gI t4183 0 48).toInt = (mz_gI t 0 48).toInt := by rw [E4184, gI_oth _ _ (by simp)]
                  have b4192 := NI_g22 ci4185 (c := 0) (p := 51) rfl
                  have e4193 : (mz_gI t4183 0 51).toInt = (mz_gI t 0 51).toInt := by rw [E4184, gI_oth _ _ (by simp)]
                  refine Tp_bi (s_MO_hold hn ci4185 (by omega) (by omega) (by omega) (by omega) (by omega) (t := t4183) (x1 := x3) (x2 := x4)) (fun q4187 h4188 => ?_)
                  obtain ⟨ci4194, p4195, p4196, p4197, p4198, p4199⟩ := h4188
                  have b4200 := NI_g24 ci4185 (c := 0) (p := 61) rfl
                  have e4201 : (mz_gI t4183 0 61).toInt = (mz_gI t 0 61).toInt := by rw [E4184, gI_oth _ _ (by simp)]
                  have b4202 := NI_g24 ci (c := 0) (p := 61) rfl
                  have b4203 := NI_g2 ci4185 (c := 0) (p := 62) rfl
                  have e4204 : (mz_gI t4183 0 62).toInt = ((0 : Int32)).toInt := by rw [E4184, gI_same]
                  have b4205 := NI_g21 ci4194 (c := 0) (p := 48) rfl
                  have b4206 := NI_g22 ci4194 (c := 0) (p := 51) rfl
                  have b4207 := NI_g24 ci4194 (c := 0) (p := 61) rfl
                  have b4208 := NI_g2 ci4194 (c := 0) (p := 62) rfl
                  unfold f_MO_readTexts_114
                  refine Tp_if (fun h4209 => ?_) (fun h4209 => ?_)
                  · have g4210 := ti_q h4209
                    have l4211 : ((40 : Int32)).toInt = 40 := rfl
                    unfold f_MO_readTexts_141
                    refine Tp_if (fun h4212 => ?_) (fun h4212 => ?_)
                    · have g4213 := ti_q h4212
                      unfold f_MO_readTexts_158
                      unfold f_MO_readTexts_159
                      refine Tp_gd (ti_b (by omega) (by omega)) ?_
                      refine Tp_le (fun t4214 E4215 => ?_)
                      have ci4216 := NI_p2 ci4194 E4215 rfl (by omega) (by omega)
                      have i4217 := ti_rg x1
                      first | (have a4218 : (x1 + (1 : Int32)).toInt = (x1).toInt + ((1 : Int32)).toInt := ti_add (by omega) (by omega)) | (have a4219 := ti_rg (x1 + (1 : Int32)))
                      first | (have a4220 : (x2 + (1 : Int32)).toInt = (x2).toInt + ((1 : Int32)).toInt := ti_add (by omega) (by omega)) | (have a4221 := ti_rg (x2 + (1 : Int32)))
                      first | (have a4222 : (x4 + (1 : Int32)).toInt = (x4).toInt + ((1 : Int32)).toInt := ti_add (by omega) (by omega)) | (have a4223 := ti_rg (x4 + (1 : Int32)))
                      have b4224 := NI_g21 ci4216 (c := 0) (p := 48) rfl
                      have e4225 : (mz_gI t4214 0 48).toInt = (mz_gI q4187 0 48).toInt := by rw [E4215, gI_oth _ _ (by simp)]
                      have b4226 := NI_g22 ci4216 (c := 0) (p := 51) rfl
                      have e4227 : (mz_gI t4214 0 51).toInt = (mz_gI q4187 0 51).toInt := by rw [E4215, gI_oth _ _ (by simp)]
                      have b4228 := NI_13 ci4216 (c := 0) (p := 60) rfl
                      exact ih (x1 + (1 : Int32)) (x2 + (1 : Int32)) (x4 + (1 : Int32)) (x4 + (1 : Int32)) t4214 ci4216 (by omega) (by omega) (by omega) (by omega) (by omega) (by omega) (by omega) (by omega) (by omega) (by omega) (by omega) (by omega) (by omega)
                    · have g4229 := ti_nq h4212
                      refine Tp_if (fun h4230 => ?_) (fun h4230 => ?_)
                      · have g4231 := ti_l h4230
                        first | (have a4232 : (x2 + (1 : Int32)).toInt = (x2).toInt + ((1 : Int32)).toInt := ti_add (by omega) (by omega)) | (have a4233 := ti_rg (x2 + (1 : Int32)))
                        unfold f_MO_readTexts_158
                        unfold f_MO_readTexts_159
                        refine Tp_gd (ti_b (by omega) (by omega)) ?_
                        refine Tp_le (fun t4234 E4235 => ?_)
                        have ci4236 := NI_p2 ci4194 E4235 rfl (by omega) (by omega)
                        have i4237 := ti_rg x1
                        first | (have a4238 : (x1 + (1 : Int32)).toInt = (x1).toInt + ((1 : Int32)).toInt := ti_add (by omega) (by omega)) | (have a4239 := ti_rg (x1 + (1 : Int32)))
                        first | (have a4240 : (x4 + (1 : Int32)).toInt = (x4).toInt + ((1 : Int32)).toInt := ti_add (by omega) (by omega)) | (have a4241 := ti_rg (x4 + (1 : Int32)))
                        have b4242 := NI_g21 ci4236 (c := 0) (p := 48) rfl
                        have e4243 : (mz_gI t4234 0 48).toInt = (mz_gI q4187 0 48).toInt := by rw [E4235, gI_oth _ _ (by simp)]
                        have b4244 := NI_g22 ci4236 (c := 0) (p := 51) rfl
                        have e4245 : (mz_gI t4234 0 51).toInt = (mz_gI q4187 0 51).toInt := by rw [E4235, gI_oth _ _ (by simp)]
                        have b4246 := NI_13 ci4236 (c := 0) (p := 60) rfl
                        exact ih (x1 + (1 : Int32)) (x2 + (1 : Int32)) (x4 + (1 : Int32)) (x4 + (1 : Int32)) t4234 ci4236 (by omega) (by omega) (by omega) (by omega) (by omega) (by omega) (by omega) (by omega) (by omega) (by omega) (by omega) (by omega) (by omega)
                      · have g4247 := ti_nl h4230
                        first | (have a4248 : (x2 + (1 : Int32)).toInt = (x2).toInt + ((1 : Int32)).toInt := ti_add (by omega) (by omega)) | (have a4249 := ti_rg (x2 + (1 : Int32)))
                        unfold f_MO_readTexts_159
                        refine Tp_gd (ti_b (by omega) (by omega)) ?_
                        refine Tp_le (fun t4250 E4251 => ?_)
                        have ci4252 := NI_p2 ci4194 E4251 rfl (by omega) (by omega)
                        have i4253 := ti_rg x1
                        first | (have a4254 : (x1 + (1 : Int32)).toInt = (x1).toInt + ((1 : Int32)).toInt := ti_add (by omega) (by omega)) | (have a4255 := ti_rg (x1 + (1 : Int32)))
                        first | (have a4256 : (x4 + (1 : Int32)).toInt = (x4).toInt + ((1 : Int32)).toInt := ti_add (by omega) (by omega)) | (have a4257 := ti_rg (x4 + (1 : Int32)))
                        have b4258 := NI_g21 ci4252 (c := 0) (p := 48) rfl
                        have e4259 : (mz_gI t4250 0 48).toInt = (mz_gI q4187 0 48).toInt := by rw [E4251, gI_oth _ _ (by simp)]
                        have b4260 := NI_g22 ci4252 (c := 0) (p := 51) rfl
                        have e4261 : (mz_gI t4250 0 51).toInt = (mz_gI q4187 0 51).toInt := by rw [E4251, gI_oth _ _ (by simp)]
                        have b4262 := NI_13 ci4252 (c := 0) (p := 60) rfl
                        exact ih (x1 + (1 : Int32)) (x2 + (1 : Int32)) (x4 + (1 : Int32)) (x4 + (1 : Int32)) t4250 ci4252 (by omega) (by omega) (by omega) (by omega) (by omega) (by omega) (by omega) (by omega) (by omega) (by omega) (by omega) (by omega) (by omega)
                  · have g4263 := ti_nq h4209
                    have l4264 : ((40 : Int32)).toInt = 40 := rfl
                    refine Tp_if (fun h4265 => ?_) (fun h4265 => ?_)
                    · have g4266 := ti_q h4265
                      have l4267 : ((41 : Int32)).toInt = 41 := rfl
                      unfold f_MO_readTexts_141
                      refine Tp_if (fun h4268 => ?_) (fun h4268 => ?_)
                      · have g4269 := ti_q h4268
                        unfold f_MO_readTexts_158
                        unfold f_MO_readTexts_159
                        refine Tp_gd (ti_b (by omega) (by omega)) ?_
                        refine Tp_le (fun t4270 E4271 => ?_)
                        have ci4272 := NI_p2 ci4194 E4271 rfl (by omega) (by omega)
                        have i4273 := ti_rg x1
                        first | (have a4274 : (x1 + (1 : Int32)).toInt = (x1).toInt + ((1 : Int32)).toInt := ti_add (by omega) (by omega)) | (have a4275 := ti_rg (x1 + (1 : Int32)))
                        first | (have a4276 : (x2 - (1 : Int32)).toInt = (x2).toInt - ((1 : Int32)).toInt := ti_sub (by omega) (by omega)) | (have a4277 := ti_rg (x2 - (1 : Int32)))
                        first | (have a4278 : (x4 + (1 : Int32)).toInt = (x4).toInt + ((1 : Int32)).toInt := ti_add (by omega) (by omega)) | (have a4279 := ti_rg (x4 + (1 : Int32)))
                        have b4280 := NI_g21 ci4272 (c := 0) (p := 48) rfl
                        have e4281 : (mz_gI t4270 0 48).toInt = (mz_gI q4187 0 48).toInt := by rw [E4271, gI_oth _ _ (by simp)]
                        have b4282 := NI_g22 ci4272 (c := 0) (p := 51) rfl
                        have e4283 : (mz_gI t4270 0 51).toInt = (mz_gI q4187 0 51).toInt := by rw [E4271, gI_oth _ _ (by simp)]
                        have b4284 := NI_13 ci4272 (c := 0) (p := 60) rfl
                        exact ih (x1 + (1 : Int32)) (x2 - (1 : Int32)) (x4 + (1 : Int32)) (x4 + (1 : Int32)) t4270 ci4272 (by omega) (by omega) (by omega) (by omega) (by omega) (by omega) (by omega) (by omega) (by omega) (by omega) (by omega) (by omega) (by omega)
                      · have g4285 := ti_nq h4268
                        refine Tp_if (fun h4286 => ?_) (fun h4286 => ?_)
                        · have g4287 := ti_l h4286
                          first | (have a4288 : (x2 - (1 : Int32)).toInt = (x2).toInt - ((1 : Int32)).toInt := ti_sub (by omega) (by omega)) | (have a4289 := ti_rg (x2 - (1 : Int32)))
                          unfold f_MO_readTexts_158
                          unfold f_MO_readTexts_159
                          refine Tp_gd (ti_b (by omega) (by omega)) ?_
                          refine Tp_le (fun t4290 E4291 => ?_)
                          have ci4292 := NI_p2 ci4194 E4291 rfl (by omega) (by omega)
                          have i4293 := ti_rg x1
                          first | (have a4294 : (x1 + (1 : Int32)).toInt = (x1).toInt + ((1 : Int32)).toInt := ti_add (by omega) (by omega)) | (have a4295 := ti_rg (x1 + (1 : Int32)))
                          first | (have a4296 : (x4 + (1 : Int32)).toInt = (x4).toInt + ((1 : Int32)).toInt := ti_add (by omega) (by omega)) | (have a4297 := ti_rg (x4 + (1 : Int32)))
                          have b4298 := NI_g21 ci4292 (c := 0) (p := 48) rfl
                          have e4299 : (mz_gI t4290 0 48).toInt = (mz_gI q4187 0 48).toInt := by rw [E4291, gI_oth _ _ (by simp)]
                          have b4300 := NI_g22 ci4292 (c := 0) (p := 51) rfl
                          have e4301 : (mz_gI t4290 0 51).toInt = (mz_gI q4187 0 51).toInt := by rw [E4291, gI_oth _ _ (by simp)]
                          have b4302 := NI_13 ci4292 (c := 0) (p := 60) rfl
                          exact ih (x1 + (1 : Int32)) (x2 - (1 : Int32)) (x4 + (1 : Int32)) (x4 + (1 : Int32)) t4290 ci4292 (by omega) (by omega) (by omega) (by omega) (by omega) (by omega) (by omega) (by omega) (by omega) (by omega) (by omega) (by omega) (by omega)
                        · have g4303 := ti_nl h4286
                          first | (have a4304 : (x2 - (1 : Int32)).toInt = (x2).toInt - ((1 : Int32)).toInt := ti_sub (by omega) (by omega)) | (have a4305 := ti_rg (x2 - (1 : Int32)))
                          unfold f_MO_readTexts_159
                          refine Tp_gd (ti_b (by omega) (by omega)) ?_
                          refine Tp_le (fun t4306 E4307 => ?_)
                          have ci4308 := NI_p2 ci4194 E4307 rfl (by omega) (by omega)
                          have i4309 := ti_rg x1
                          first | (have a4310 : (x1 + (1 : Int32)).toInt = (x1).toInt + ((1 : Int32)).toInt := ti_add (by omega) (by omega)) | (have a4311 := ti_rg (x1 + (1 : Int32)))
                          first | (have a4312 : (x4 + (1 : Int32)).toInt = (x4).toInt + ((1 : Int32)).toInt := ti_add (by omega) (by omega)) | (have a4313 := ti_rg (x4 + (1 : Int32)))
                          have b4314 := NI_g21 ci4308 (c := 0) (p := 48) rfl
                          have e4315 : (mz_gI t4306 0 48).toInt = (mz_gI q4187 0 48).toInt := by rw [E4307, gI_oth _ _ (by simp)]
                          have b4316 := NI_g22 ci4308 (c := 0) (p := 51) rfl
                          have e4317 : (mz_gI t4306 0 51).toInt = (mz_gI q4187 0 51).toInt := by rw [E4307, gI_oth _ _ (by simp)]
                          have b4318 := NI_13 ci4308 (c := 0) (p := 60) rfl
                          exact ih (x1 + (1 : Int32)) (x2 - (1 : Int32)) (x4 + (1 : Int32)) (x4 + (1 : Int32)) t4306 ci4308 (by omega) (by omega) (by omega) (by omega) (by omega) (by omega) (by omega) (by omega) (by omega) (by omega) (by omega) (by omega) (by omega)
                    · have g4319 := ti_nq h4265
                      have l4320 : ((41 : Int32)).toInt = 41 := rfl
                      unfold f_MO_readTexts_141
                      refine Tp_if (fun h4321 => ?_) (fun h4321 => ?_)
                      · have g4322 := ti_q h4321
                        unfold f_MO_readTexts_158
                        unfold f_MO_readTexts_159
                        refine Tp_gd (ti_b (by omega) (by omega)) ?_
                        refine Tp_le (fun t4323 E4324 => ?_)
                        have ci4325 := NI_p2 ci4194 E4324 rfl (by omega) (by omega)
                        have i4326 := ti_rg x1
                        first | (have a4327 : (x1 + (1 : Int32)).toInt = (x1).toInt + ((1 : Int32)).toInt := ti_add (by omega) (by omega)) | (have a4328 := ti_rg (x1 + (1 : Int32)))
                        first | (have a4329 : (x4 + (1 : Int32)).toInt = (x4).toInt + ((1 : Int32)).toInt := ti_add (by omega) (by omega)) | (have a4330 := ti_rg (x4 + (1 : Int32)))
                        have b4331 := NI_g21 ci4325 (c := 0) (p := 48) rfl
                        have e4332 : (mz_gI t4323 0 48).toInt = (mz_gI q4187 0 48).toInt := by rw [E4324, gI_oth _ _ (by simp)]
                        have b4333 := NI_g22 ci4325 (c := 0) (p := 51) rfl
                        have e4334 : (mz_gI t4323 0 51).toInt = (mz_gI q4187 0 51).toInt := by rw [E4324, gI_oth _ _ (by simp)]
                        have b4335 := NI_13 ci4325 (c := 0) (p := 60) rfl
                        exact ih (x1 + (1 : Int32)) x2 (x4 + (1 : Int32)) (x4 + (1 : Int32)) t4323 ci4325 (by omega) (by omega) (by omega) (by omega) (by omega) (by omega) (by omega) (by omega) (by omega) (by omega) (by omega) (by omega) (by omega)
                      · have g4336 := ti_nq h4321
                        refine Tp_if (fun h4337 => ?_) (fun h4337 => ?_)
                        · have g4338 := ti_l h4337
                          unfold f_MO_readTexts_158
                          unfold f_MO_readTexts_159
                          refine Tp_gd (ti_b (by omega) (by omega)) ?_
                          refine Tp_le (fun t4339 E4340 => ?_)
                          have ci4341 := NI_p2 ci4194 E4340 rfl (by omega) (by omega)
                          have i4342 := ti_rg x1
                          first | (have a4343 : (x1 + (1 : Int32)).toInt = (x1).toInt + ((1 : Int32)).toInt := ti_add (by omega) (by omega)) | (have a4344 := ti_rg (x1 + (1 : Int32)))
                          first | (have a4345 : (x4 + (1 : Int32)).toInt = (x4).toInt + ((1 : Int32)).toInt := ti_add (by omega) (by omega)) | (have a4346 := ti_rg (x4 + (1 : Int32)))
                          have b4347 := NI_g21 ci4341 (c := 0) (p := 48) rfl
                          have e4348 : (mz_gI t4339 0 48).toInt = (mz_gI q4187 0 48).toInt := by rw [E4340, gI_oth _ _ (by simp)]
                          have b4349 := NI_g22 ci4341 (c := 0) (p := 51) rfl
                          have e4350 : (mz_gI t4339 0 51).toInt = (mz_gI q4187 0 51).toInt := by rw [E4340, gI_oth _ _ (by simp)]
                          have b4351 := NI_13 ci4341 (c := 0) (p := 60) rfl
                          exact ih (x1 + (1 : Int32)) x2 (x4 + (1 : Int32)) (x4 + (1 : Int32)) t4339 ci4341 (by omega) (by omega) (by omega) (by omega) (by omega) (by omega) (by omega) (by omega) (by omega) (by omega) (by omega) (by omega) (by omega)
                        · have g4352 := ti_nl h4337
                          unfold f_MO_readTexts_159
                          refine Tp_gd (ti_b (by omega) (by omega)) ?_
                          refine Tp_le (fun t4353 E4354 => ?_)
                          have ci4355 := NI_p2 ci4194 E4354 rfl (by omega) (by omega)
                          have i4356 := ti_rg x1
                          first | (have a4357 : (x1 + (1 : Int32)).toInt = (x1).toInt + ((1 : Int32)).toInt := ti_add (by omega) (by omega)) | (have a4358 := ti_rg (x1 + (1 : Int32)))
                          first | (have a4359 : (x4 + (1 : Int32)).toInt = (x4).toInt + ((1 : Int32)).toInt := ti_add (by omega) (by omega)) | (have a4360 := ti_rg (x4 + (1 : Int32)))
                          have b4361 := NI_g21 ci4355 (c := 0) (p := 48) rfl
                          have e4362 : (mz_gI t4353 0 48).toInt = (mz_gI q4187 0 48).toInt := by rw [E4354, gI_oth _ _ (by simp)]
                          have b4363 := NI_g22 ci4355 (c := 0) (p := 51) rfl
                          have e4364 : (mz_gI t4353 0 51).toInt = (mz_gI q4187 0 51).toInt := by rw [E4354, gI_oth _ _ (by simp)]
                          have b4365 := NI_13 ci4355 (c := 0) (p := 60) rfl
                          exact ih (x1 + (1 : Int32)) x2 (x4 + (1 : Int32)) (x4 + (1 : Int32)) t4353 ci4355 (by omega) (by omega) (by omega) (by omega) (by omega) (by omega) (by omega) (by omega) (by omega) (by omega) (by omega) (by omega) (by omega)
                · have g4366 := ti_nq h4179
                  have b4367 := NI_g2 ci (c := 0) (p := 62) rfl
                  refine Tp_if (fun h4368 => ?_) (fun h4368 => ?_)
                  · have g4369 := ti_q h4368
                    unfold f_MO_readTexts_96
                    refine Tp_gd (ti_b (by omega) (by omega)) ?_
                    refine Tp_le (fun t4370 E4371 => ?_)
                    have l4373 : (62 : Int32).toInt = 62 := rfl
                    have ci4372 := NI_p2 ci E4371 rfl (by omega) (by omega)
                    have i4376 := ti_rg x3
                    have b4377 := NI_g21 ci4372 (c := 0) (p := 48) rfl
                    have e4378 : (mz_gI t4370 0 48).toInt = (mz_gI t 0 48).toInt := by rw [E4371, gI_oth _ _ (by simp)]
                    have b4379 := NI_g22 ci4372 (c := 0) (p := 51) rfl
                    have e4380 : (mz_gI t4370 0 51).toInt = (mz_gI t 0 51).toInt := by rw [E4371, gI_oth _ _ (by simp)]
                    refine Tp_bi (s_MO_hold hn ci4372 (by omega) (by omega) (by omega) (by omega) (by omega) (t := t4370) (x1 := x3) (x2 := x4)) (fun q4374 h4375 => ?_)
                    obtain ⟨ci4381, p4382, p4383, p4384, p4385, p4386⟩ := h4375
                    have b4387 := NI_g24 ci4372 (c := 0) (p := 61) rfl
                    have e4388 : (mz_gI t4370 0 61).toInt = (mz_gI t 0 61).toInt := by rw [E4371, gI_oth _ _ (by simp)]
                    have b4389 := NI_g24 ci (c := 0) (p := 61) rfl
                    have b4390 := NI_g2 ci4372 (c := 0) (p := 62) rfl
                    have e4391 : (mz_gI t4370 0 62).toInt = ((1 : Int32)).toInt := by rw [E4371, gI_same]
                    have b4392 := NI_g21 ci4381 (c := 0) (p := 48) rfl
                    have b4393 := NI_g22 ci4381 (c := 0) (p := 51) rfl
                    have b4394 := NI_g24 ci4381 (c := 0) (p := 61) rfl
                    have b4395 := NI_g2 ci4381 (c := 0) (p := 62) rfl
                    unfold f_MO_readTexts_114
                    refine Tp_if (fun h4396 => ?_) (fun h4396 => ?_)
                    · have g4397 := ti_q h4396
                      have l4398 : ((40 : Int32)).toInt = 40 := rfl
                      unfold f_MO_readTexts_141
                      refine Tp_if (fun h4399 => ?_) (fun h4399 => ?_)
                      · have g4400 := ti_q h4399
                        unfold f_MO_readTexts_158
                        unfold f_MO_readTexts_159
                        have l4401 : ((0 : Int32)).toInt = 0 := rfl
                        refine Tp_gd (ti_b (by omega) (by omega)) ?_
                        refine Tp_le (fun t4402 E4403 => ?_)
                        have ci4404 := NI_p2 ci4381 E4403 rfl (by omega) (by omega)
                        have i4405 := ti_rg x1
                        first | (have a4406 : (x1 + (1 : Int32)).toInt = (x1).toInt + ((1 : Int32)).toInt := ti_add (by omega) (by omega)) | (have a4407 := ti_rg (x1 + (1 : Int32)))
                        first | (have a4408 : (x2 + (1 : Int32)).toInt = (x2).toInt + ((1 : Int32)).toInt := ti_add (by omega) (by omega)) | (have a4409 := ti_rg (x2 + (1 : Int32)))
                        first | (have a4410 : (x4 + (1 : Int32)).toInt = (x4).toInt + ((1 : Int32)).toInt := ti_add (by omega) (by omega)) | (have a4411 := ti_rg (x4 + (1 : Int32)))
                        have b4412 := NI_g21 ci4404 (c := 0) (p := 48) rfl
                        have e4413 : (mz_gI t4402 0 48).toInt = (mz_gI q4374 0 48).toInt := by rw [E4403, gI_oth _ _ (by simp)]
                        have b4414 := NI_g22 ci4404 (c := 0) (p := 51) rfl
                        have e4415 : (mz_gI t4402 0 51).toInt = (mz_gI q4374 0 51).toInt := by rw [E4403, gI_oth _ _ (by simp)]
                        have b4416 := NI_13 ci4404 (c := 0) (p := 60) rfl
                        exact ih (x1 + (1 : Int32)) (x2 + (1 : Int32)) (x4 + (1 : Int32)) (x4 + (1 : Int32)) t4402 ci4404 (by omega) (by omega) (by omega) (by omega) (by omega) (by omega) (by omega) (by omega) (by omega) (by omega) (by omega) (by omega) (by omega)
                      · have g4417 := ti_nq h4399
                        refine Tp_if (fun h4418 => ?_) (fun h4418 => ?_)
                        · have g4419 := ti_l h4418
                          first | (have a4420 : (x2 + (1 : Int32)).toInt = (x2).toInt + ((1 : Int32)).toInt := ti_add (by omega) (by omega)) | (have a4421 := ti_rg (x2 + (1 : Int32)))
                          unfold f_MO_readTexts_158
                          unfold f_MO_readTexts_159
                          have l4422 : ((0 : Int32)).toInt = 0 := rfl
                          refine Tp_gd (ti_b (by omega) (by omega)) ?_
                          refine Tp_le (fun t4423 E4424 => ?_)
                          have ci4425 := NI_p2 ci4381 E4424 rfl (by omega) (by omega)
                          have i4426 := ti_rg x1
                          first | (have a4427 : (x1 + (1 : Int32)).toInt = (x1).toInt + ((1 : Int32)).toInt := ti_add (by omega) (by omega)) | (have a4428 := ti_rg (x1 + (1 : Int32)))
                          first | (have a4429 : (x4 + (1 : Int32)).toInt = (x4).toInt + ((1 : Int32)).toInt := ti_add (by omega) (by omega)) | (have a4430 := ti_rg (x4 + (1 : Int32)))
                          have b4431 := NI_g21 ci4425 (c := 0) (p := 48) rfl
                          have e4432 : (mz_gI t4423 0 48).toInt = (mz_gI q4374 0 48).toInt := by rw [E4424, gI_oth _ _ (by simp)]
                          have b4433 := NI_g22 ci4425 (c := 0) (p := 51) rfl
                          have e4434 : (mz_gI t4423 0 51).toInt = (mz_gI q4374 0 51).toInt := by rw [E4424, gI_oth _ _ (by simp)]
                          have b4435 := NI_13 ci4425 (c := 0) (p := 60) rfl
                          exact ih (x1 + (1 : Int32)) (x2 + (1 : Int32)) (x4 + (1 : Int32)) (x4 + (1 : Int32)) t4423 ci4425 (by omega) (by omega) (by omega) (by omega) (by omega) (by omega) (by omega) (by omega) (by omega) (by omega) (by omega) (by omega) (by omega)
                        · have g4436 := ti_nl h4418
                          first | (have a4437 : (x2 + (1 : Int32)).toInt = (x2).toInt + ((1 : Int32)).toInt := ti_add (by omega) (by omega)) | (have a4438 := ti_rg (x2 + (1 : Int32)))
                          unfold f_MO_readTexts_159
                          refine Tp_gd (ti_b (by omega) (by omega)) ?_
                          refine Tp_le (fun t4439 E4440 => ?_)
                          have ci4441 := NI_p2 ci4381 E4440 rfl (by omega) (by omega)
                          have i4442 := ti_rg x1
                          first | (have a4443 : (x1 + (1 : Int32)).toInt = (x1).toInt + ((1 : Int32)).toInt := ti_add (by omega) (by omega)) | (have a4444 := ti_rg (x1 + (1 : Int32)))
                          first | (have a4445 : (x4 + (1 : Int32)).toInt = (x4).toInt + ((1 : Int32)).toInt := ti_add (by omega) (by omega)) | (have a4446 := ti_rg (x4 + (1 : Int32)))
                          have b4447 := NI_g21 ci4441 (c := 0) (p := 48) rfl
                          have e4448 : (mz_gI t4439 0 48).toInt = (mz_gI q4374 0 48).toInt := by rw [E4440, gI_oth _ _ (by simp)]
                          have b4449 := NI_g22 ci4441 (c := 0) (p := 51) rfl
                          have e4450 : (mz_gI t4439 0 51).toInt = (mz_gI q4374 0 51).toInt := by rw [E4440, gI_oth _ _ (by simp)]
                          have b4451 := NI_13 ci4441 (c := 0) (p := 60) rfl
                          exact ih (x1 + (1 : Int32)) (x2 + (1 : Int32)) (x4 + (1 : Int32)) (x4 + (1 : Int32)) t4439 ci4441 (by omega) (by omega) (by omega) (by omega) (by omega) (by omega) (by omega) (by omega) (by omega) (by omega) (by omega) (by omega) (by omega)
                    · have g4452 := ti_nq h4396
                      have l4453 : ((40 : Int32)).toInt = 40 := rfl
                      refine Tp_if (fun h4454 => ?_) (fun h4454 => ?_)
                      · have g4455 := ti_q h4454
                        have l4456 : ((41 : Int32)).toInt = 41 := rfl
                        unfold f_MO_readTexts_141
                        refine Tp_if (fun h4457 => ?_) (fun h4457 => ?_)
                        · have g4458 := ti_q h4457
                          unfold f_MO_readTexts_158
                          unfold f_MO_readTexts_159
                          have l4459 : ((0 : Int32)).toInt = 0 := rfl
                          refine Tp_gd (ti_b (by omega) (by omega)) ?_
                          refine Tp_le (fun t4460 E4461 => ?_)
                          have ci4462 := NI_p2 ci4381 E4461 rfl (by omega) (by omega)
                          have i4463 := ti_rg x1
                          first | (have a4464 : (x1 + (1 : Int32)).toInt = (x1).toInt + ((1 : Int32)).toInt := ti_add (by omega) (by omega)) | (have a4465 := ti_rg (x1 + (1 : Int32)))
                          first | (have a4466 : (x2 - (1 : Int32)).toInt = (x2).toInt - ((1 : Int32)).toInt := ti_sub (by omega) (by omega)) | (have a4467 := ti_rg (x2 - (1 : Int32)))
                          first | (have a4468 : (x4 + (1 : Int32)).toInt = (x4).toInt + ((1 : Int32)).toInt := ti_add (by omega) (by omega)) | (have a4469 := ti_rg (x4 + (1 : Int32)))
                          have b4470 := NI_g21 ci4462 (c := 0) (p := 48) rfl
                          have e4471 : (mz_gI t4460 0 48).toInt = (mz_gI q4374 0 48).toInt := by rw [E4461, gI_oth _ _ (by simp)]
                          have b4472 := NI_g22 ci4462 (c := 0) (p := 51) rfl
                          have e4473 : (mz_gI t4460 0 51).toInt = (mz_gI q4374 0 51).toInt := by rw [E4461, gI_oth _ _ (by simp)]
                          have b4474 := NI_13 ci4462 (c := 0) (p := 60) rfl
                          exact ih (x1 + (1 : Int32)) (x2 - (1 : Int32)) (x4 + (1 : Int32)) (x4 + (1 : Int32)) t4460 ci4462 (by omega) (by omega) (by omega) (by omega) (by omega) (by omega) (by omega) (by omega) (by omega) (by omega) (by omega) (by omega) (by omega)
                        · have g4475 := ti_nq h4457
                          refine Tp_if (fun h4476 => ?_) (fun h4476 => ?_)
                          · have g4477 := ti_l h4476
                            first | (have a4478 : (x2 - (1 : Int32)).toInt = (x2).toInt - ((1 : Int32)).toInt := ti_sub (by omega) (by omega)) | (have a4479 := ti_rg (x2 - (1 : Int32)))
                            unfold f_MO_readTexts_158
                            unfold f_MO_readTexts_159
                            have l4480 : ((0 : Int32)).toInt = 0 := rfl
                            refine Tp_gd (ti_b (by omega) (by omega)) ?_
                            refine Tp_le (fun t4481 E4482 => ?_)
                            have ci4483 := NI_p2 ci4381 E4482 rfl (by omega) (by omega)
                            have i4484 := ti_rg x1
                            first | (have a4485 : (x1 + (1 : Int32)).toInt = (x1).toInt + ((1 : Int32)).toInt := ti_add (by omega) (by omega)) | (have a4486 := ti_rg (x1 + (1 : Int32)))
                            first | (have a4487 : (x4 + (1 : Int32)).toInt = (x4).toInt + ((1 : Int32)).toInt := ti_add (by omega) (by omega)) | (have a4488 := ti_rg (x4 + (1 : Int32)))
                            have b4489 := NI_g21 ci4483 (c := 0) (p := 48) rfl
                            have e4490 : (mz_gI t4481 0 48).toInt = (mz_gI q4374 0 48).toInt := by rw [E4482, gI_oth _ _ (by simp)]
                            have b4491 := NI_g22 ci4483 (c := 0) (p := 51) rfl
                            have e4492 : (mz_gI t4481 0 51).toInt = (mz_gI q4374 0 51).toInt := by rw [E4482, gI_oth _ _ (by simp)]
                            have b4493 := NI_13 ci4483 (c := 0) (p := 60) rfl
                            exact ih (x1 + (1 : Int32)) (x2 - (1 : Int32)) (x4 + (1 : Int32)) (x4 + (1 : Int32)) t4481 ci4483 (by omega) (by omega) (by omega) (by omega) (by omega) (by omega) (by omega) (by omega) (by omega) (by omega) (by omega) (by omega) (by omega)
                          · have g4494 := ti_nl h4476
                            first | (have a4495 : (x2 - (1 : Int32)).toInt = (x2).toInt - ((1 : Int32)).toInt := ti_sub (by omega) (by omega)) | (have a4496 := ti_rg (x2 - (1 : Int32)))
                            unfold f_MO_readTexts_159
                            refine Tp_gd (ti_b (by omega) (by omega)) ?_
                            refine Tp_le (fun t4497 E4498 => ?_)
                            have ci4499 := NI_p2 ci4381 E4498 rfl (by omega) (by omega)
                            have i4500 := ti_rg x1
                            first | (have a4501 : (x1 + (1 : Int32)).toInt = (x1).toInt + ((1 : Int32)).toInt := ti_add (by omega) (by omega)) | (have a4502 := ti_rg (x1 + (1 : Int32)))
                            first | (have a4503 : (x4 + (1 : Int32)).toInt = (x4).toInt + ((1 : Int32)).toInt := ti_add (by omega) (by omega)) | (have a4504 := ti_rg (x4 + (1 : Int32)))
                            have b4505 := NI_g21 ci4499 (c := 0) (p := 48) rfl
                            have e4506 : (mz_gI t4497 0 48).toInt = (mz_gI q4374 0 48).toInt := by rw [E4498, gI_oth _ _ (by simp)]
                            have b4507 := NI_g22 ci4499 (c := 0) (p := 51) rfl
                            have e4508 : (mz_gI t4497 0 51).toInt = (mz_gI q4374 0 51).toInt := by rw [E4498, gI_oth _ _ (by simp)]
                            have b4509 := NI_13 ci4499 (c := 0) (p := 60) rfl
                            exact ih (x1 + (1 : Int32)) (x2 - (1 : Int32)) (x4 + (1 : Int32)) (x4 + (1 : Int32)) t4497 ci4499 (by omega) (by omega) (by omega) (by omega) (by omega) (by omega) (by omega) (by omega) (by omega) (by omega) (by omega) (by omega) (by omega)
                      · have g4510 := ti_nq h4454
                        have l4511 : ((41 : Int32)).toInt = 41 := rfl
                        unfold f_MO_readTexts_141
                        refine Tp_if (fun h4512 => ?_) (fun h4512 => ?_)
                        · have g4513 := ti_q h4512
                          unfold f_MO_readTexts_158
                          unfold f_MO_readTexts_159
                          have l4514 : ((0 : Int32)).toInt = 0 := rfl
                          refine Tp_gd (ti_b (by omega) (by omega)) ?_
                          refine Tp_le (fun t4515 E4516 => ?_)
                          have ci4517 := NI_p2 ci4381 E4516 rfl (by omega) (by omega)
                          have i4518 := ti_rg x1
                          first | (have a4519 : (x1 + (1 : Int32)).toInt = (x1).toInt + ((1 : Int32)).toInt := ti_add (by omega) (by omega)) | (have a4520 := ti_rg (x1 + (1 : Int32)))
                          first | (have a4521 : (x4 + (1 : Int32)).toInt = (x4).toInt + ((1 : Int32)).toInt := ti_add (by omega) (by omega)) | (have a4522 := ti_rg (x4 + (1 : Int32)))
                          have b4523 := NI_g21 ci4517 (c := 0) (p := 48) rfl
                          have e4524 : (mz_gI t4515 0 48).toInt = (mz_gI q4374 0 48).toInt := by rw [E4516, gI_oth _ _ (by simp)]
                          have b4525 := NI_g22 ci4517 (c := 0) (p := 51) rfl
                          have e4526 : (mz_gI t4515 0 51).toInt = (mz_gI q4374 0 51).toInt := by rw [E4516, gI_oth _ _ (by simp)]
                          have b4527 := NI_13 ci4517 (c := 0) (p := 60) rfl
                          exact ih (x1 + (1 : Int32)) x2 (x4 + (1 : Int32)) (x4 + (1 : Int32)) t4515 ci4517 (by omega) (by omega) (by omega) (by omega) (by omega) (by omega) (by omega) (by omega) (by omega) (by omega) (by omega) (by omega) (by omega)
                        · have g4528 := ti_nq h4512
                          refine Tp_if (fun h4529 => ?_) (fun h4529 => ?_)
                          · have g4530 := ti_l h4529
                            unfold f_MO_readTexts_158
                            unfold f_MO_readTexts_159
                            have l4531 : ((0 : Int32)).toInt = 0 := rfl
                            refine Tp_gd (ti_b (by omega) (by omega)) ?_
                            refine Tp_le (fun t4532 E4533 => ?_)
                            have ci4534 := NI_p2 ci4381 E4533 rfl (by omega) (by omega)
                            have i4535 := ti_rg x1
                            first | (have a4536 : (x1 + (1 : Int32)).toInt = (x1).toInt + ((1 : Int32)).toInt := ti_add (by omega) (by omega)) | (have a4537 := ti_rg (x1 + (1 : Int32)))
                            first | (have a4538 : (x4 + (1 : Int32)).toInt = (x4).toInt + ((1 : Int32)).toInt := ti_add (by omega) (by omega)) | (have a4539 := ti_rg (x4 + (1 : Int32)))
                            have b4540 := NI_g21 ci4534 (c := 0) (p := 48) rfl
                            have e4541 : (mz_gI t4532 0 48).toInt = (mz_gI q4374 0 48).toInt := by rw [E4533, gI_oth _ _ (by simp)]
                            have b4542 := NI_g22 ci4534 (c := 0) (p := 51) rfl
                            have e4543 : (mz_gI t4532 0 51).toInt = (mz_gI q4374 0 51).toInt := by rw [E4533, gI_oth _ _ (by simp)]
                            have b4544 := NI_13 ci4534 (c := 0) (p := 60) rfl
                            exact ih (x1 + (1 : Int32)) x2 (x4 + (1 : Int32)) (x4 + (1 : Int32)) t4532 ci4534 (by omega) (by omega) (by omega) (by omega) (by omega) (by omega) (by omega) (by omega) (by omega) (by omega) (by omega) (by omega) (by omega)
                          · have g4545 := ti_nl h4529
                            unfold f_MO_readTexts_159
                            refine Tp_gd (ti_b (by omega) (by omega)) ?_
                            refine Tp_le (fun t4546 E4547 => ?_)
                            have ci4548 := NI_p2 ci4381 E4547 rfl (by omega) (by omega)
                            have i4549 := ti_rg x1
                            first | (have a4550 : (x1 + (1 : Int32)).toInt = (x1).toInt + ((1 : Int32)).toInt := ti_add (by omega) (by omega)) | (have a4551 := ti_rg (x1 + (1 : Int32)))
                            first | (have a4552 : (x4 + (1 : Int32)).toInt = (x4).toInt + ((1 : Int32)).toInt := ti_add (by omega) (by omega)) | (have a4553 := ti_rg (x4 + (1 : Int32)))
                            have b4554 := NI_g21 ci4548 (c := 0) (p := 48) rfl
                            have e4555 : (mz_gI t4546 0 48).toInt = (mz_gI q4374 0 48).toInt := by rw [E4547, gI_oth _ _ (by simp)]
                            have b4556 := NI_g22 ci4548 (c := 0) (p := 51) rfl
                            have e4557 : (mz_gI t4546 0 51).toInt = (mz_gI q4374 0 51).toInt := by rw [E4547, gI_oth _ _ (by simp)]
                            have b4558 := NI_13 ci4548 (c := 0) (p := 60) rfl
                            exact ih (x1 + (1 : Int32)) x2 (x4 + (1 : Int32)) (x4 + (1 : Int32)) t4546 ci4548 (by omega) (by omega) (by omega) (by omega) (by omega) (by omega) (by omega) (by omega) (by omega) (by omega) (by omega) (by omega) (by omega)
                  · have g4559 := ti_nq h4368
                    unfold f_MO_readTexts_95
                    unfold f_MO_readTexts_96
                    have l4560 : ((0 : Int32)).toInt = 0 := rfl
                    refine Tp_gd (ti_b (by omega) (by omega)) ?_
                    refine Tp_le (fun t4561 E4562 => ?_)
                    have l4564 : (62 : Int32).toInt = 62 := rfl
                    have ci4563 := NI_p2 ci E4562 rfl (by omega) (by omega)
                    have i4567 := ti_rg x3
                    have b4568 := NI_g21 ci4563 (c := 0) (p := 48) rfl
                    have e4569 : (mz_gI t4561 0 48).toInt = (mz_gI t 0 48).toInt := by rw [E4562, gI_oth _ _ (by simp)]
                    have b4570 := NI_g22 ci4563 (c := 0) (p := 51) rfl
                    have e4571 : (mz_gI t4561 0 51).toInt = (mz_gI t 0 51).toInt := by rw [E4562, gI_oth _ _ (by simp)]
                    refine Tp_bi (s_MO_hold hn ci4563 (by omega) (by omega) (by omega) (by omega) (by omega) (t := t4561) (x1 := x3) (x2 := x4)) (fun q4565 h4566 => ?_)
                    obtain ⟨ci4572, p4573, p4574, p4575, p4576, p4577⟩ := h4566
                    have b4578 := NI_g24 ci4563 (c := 0) (p := 61) rfl
                    have e4579 : (mz_gI t4561 0 61).toInt = (mz_gI t 0 61).toInt := by rw [E4562, gI_oth _ _ (by simp)]
                    have b4580 := NI_g24 ci (c := 0) (p := 61) rfl
                    have b4581 := NI_g2 ci4563 (c := 0) (p := 62) rfl
                    have e4582 : (mz_gI t4561 0 62).toInt = ((0 : Int32)).toInt := by rw [E4562, gI_same]
                    have b4583 := NI_g21 ci4572 (c := 0) (p := 48) rfl
                    have b4584 := NI_g22 ci4572 (c := 0) (p := 51) rfl
                    have b4585 := NI_g24 ci4572 (c := 0) (p := 61) rfl
                    have b4586 := NI_g2 ci4572 (c := 0) (p := 62) rfl
                    unfold f_MO_readTexts_114
                    refine Tp_if (fun h4587 => ?_) (fun h4587 => ?_)
                    · have g4588 := ti_q h4587
                      have l4589 : ((40 : Int32)).toInt = 40 := rfl
                      unfold f_MO_readTexts_141
                      refine Tp_if (fun h4590 => ?_) (fun h4590 => ?_)
                      · have g4591 := ti_q h4590
                        unfold f_MO_readTexts_158
                        unfold f_MO_readTexts_159
                        refine Tp_gd (ti_b (by omega) (by omega)) ?_
                        refine Tp_le (fun t4592 E4593 => ?_)
                        have ci4594 := NI_p2 ci4572 E4593 rfl (by omega) (by omega)
                        have i4595 := ti_rg x1
                        first | (have a4596 : (x1 + (1 : Int32)).toInt = (x1).toInt + ((1 : Int32)).toInt := ti_add (by omega) (by omega)) | (have a4597 := ti_rg (x1 + (1 : Int32)))
                        first | (have a4598 : (x2 + (1 : Int32)).toInt = (x2).toInt + ((1 : Int32)).toInt := ti_add (by omega) (by omega)) | (have a4599 := ti_rg (x2 + (1 : Int32)))
                        first | (have a4600 : (x4 + (1 : Int32)).toInt = (x4).toInt + ((1 : Int32)).toInt := ti_add (by omega) (by omega)) | (have a4601 := ti_rg (x4 + (1 : Int32)))
                        have b4602 := NI_g21 ci4594 (c := 0) (p := 48) rfl
                        have e4603 : (mz_gI t4592 0 48).toInt = (mz_gI q4565 0 48).toInt := by rw [E4593, gI_oth _ _ (by simp)]
                        have b4604 := NI_g22 ci4594 (c := 0) (p := 51) rfl
                        have e4605 : (mz_gI t4592 0 51).toInt = (mz_gI q4565 0 51).toInt := by rw [E4593, gI_oth _ _ (by simp)]
                        have b4606 := NI_13 ci4594 (c := 0) (p := 60) rfl
                        exact ih (x1 + (1 : Int32)) (x2 + (1 : Int32)) (x4 + (1 : Int32)) (x4 + (1 : Int32)) t4592 ci4594 (by omega) (by omega) (by omega) (by omega) (by omega) (by omega) (by omega) (by omega) (by omega) (by omega) (by omega) (by omega) (by omega)
                      · have g4607 := ti_nq h4590
                        refine Tp_if (fun h4608 => ?_) (fun h4608 => ?_)
                        · have g4609 := ti_l h4608
                          first | (have a4610 : (x2 + (1 : Int32)).toInt = (x2).toInt + ((1 : Int32)).toInt := ti_add (by omega) (by omega)) | (have a4611 := ti_rg (x2 + (1 : Int32)))
                          unfold f_MO_readTexts_158
                          unfold f_MO_readTexts_159
                          refine Tp_gd (ti_b (by omega) (by omega)) ?_
                          refine Tp_le (fun t4612 E4613 => ?_)
                          have ci4614 := NI_p2 ci4572 E4613 rfl (by omega) (by omega)
                          have i4615 := ti_rg x1
                          first | (have a4616 : (x1 + (1 : Int32)).toInt = (x1).toInt + ((1 : Int32)).toInt := ti_add (by omega) (by omega)) | (have a4617 := ti_rg (x1 + (1 : Int32)))
                          first | (have a4618 : (x4 + (1 : Int32)).toInt = (x4).toInt + ((1 : Int32)).toInt := ti_add (by omega) (by omega)) | (have a4619 := ti_rg (x4 + (1 : Int32)))
                          have b4620 := NI_g21 ci4614 (c := 0) (p := 48) rfl
                          have e4621 : (mz_gI t4612 0 48).toInt = (mz_gI q4565 0 48).toInt := by rw [E4613, gI_oth _ _ (by simp)]
                          have b4622 := NI_g22 ci4614 (c := 0) (p := 51) rfl
                          have e4623 : (mz_gI t4612 0 51).toInt = (mz_gI q4565 0 51).toInt := by rw [E4613, gI_oth _ _ (by simp)]
                          have b4624 := NI_13 ci4614 (c := 0) (p := 60) rfl
                          exact ih (x1 + (1 : Int32)) (x2 + (1 : Int32)) (x4 + (1 : Int32)) (x4 + (1 : Int32)) t4612 ci4614 (by omega) (by omega) (by omega) (by omega) (by omega) (by omega) (by omega) (by omega) (by omega) (by omega) (by omega) (by omega) (by omega)
                        · have g4625 := ti_nl h4608
                          first | (have a4626 : (x2 + (1 : Int32)).toInt = (x2).toInt + ((1 : Int32)).toInt := ti_add (by omega) (by omega)) | (have a4627 := ti_rg (x2 + (1 : Int32)))
                          unfold f_MO_readTexts_159
                          refine Tp_gd (ti_b (by omega) (by omega)) ?_
                          refine Tp_le (fun t4628 E4629 => ?_)
                          have ci4630 := NI_p2 ci4572 E4629 rfl (by omega) (by omega)
                          have i4631 := ti_rg x1
                          first | (have a4632 : (x1 + (1 : Int32)).toInt = (x1).toInt + ((1 : Int32)).toInt := ti_add (by omega) (by omega)) | (have a4633 := ti_rg (x1 + (1 : Int32)))
                          first | (have a4634 : (x4 + (1 : Int32)).toInt = (x4).toInt + ((1 : Int32)).toInt := ti_add (by omega) (by omega)) | (have a4635 := ti_rg (x4 + (1 : Int32)))
                          have b4636 := NI_g21 ci4630 (c := 0) (p := 48) rfl
                          have e4637 : (mz_gI t4628 0 48).toInt = (mz_gI q4565 0 48).toInt := by rw [E4629, gI_oth _ _ (by simp)]
                          have b4638 := NI_g22 ci4630 (c := 0) (p := 51) rfl
                          have e4639 : (mz_gI t4628 0 51).toInt = (mz_gI q4565 0 51).toInt := by rw [E4629, gI_oth _ _ (by simp)]
                          have b4640 := NI_13 ci4630 (c := 0) (p := 60) rfl
                          exact ih (x1 + (1 : Int32)) (x2 + (1 : Int32)) (x4 + (1 : Int32)) (x4 + (1 : Int32)) t4628 ci4630 (by omega) (by omega) (by omega) (by omega) (by omega) (by omega) (by omega) (by omega) (by omega) (by omega) (by omega) (by omega) (by omega)
                    · have g4641 := ti_nq h4587
                      have l4642 : ((40 : Int32)).toInt = 40 := rfl
                      refine Tp_if (fun h4643 => ?_) (fun h4643 => ?_)
                      · have g4644 := ti_q h4643
                        have l4645 : ((41 : Int32)).toInt = 41 := rfl
                        unfold f_MO_readTexts_141
                        refine Tp_if (fun h4646 => ?_) (fun h4646 => ?_)
                        · have g4647 := ti_q h4646
                          unfold f_MO_readTexts_158
                          unfold f_MO_readTexts_159
                          refine Tp_gd (ti_b (by omega) (by omega)) ?_
                          refine Tp_le (fun t4648 E4649 => ?_)
                          have ci4650 := NI_p2 ci4572 E4649 rfl (by omega) (by omega)
                          have i4651 := ti_rg x1
                          first | (have a4652 : (x1 + (1 : Int32)).toInt = (x1).toInt + ((1 : Int32)).toInt := ti_add (by omega) (by omega)) | (have a4653 := ti_rg (x1 + (1 : Int32)))
                          first | (have a4654 : (x2 - (1 : Int32)).toInt = (x2).toInt - ((1 : Int32)).toInt := ti_sub (by omega) (by omega)) | (have a4655 := ti_rg (x2 - (1 : Int32)))
                          first | (have a4656 : (x4 + (1 : Int32)).toInt = (x4).toInt + ((1 : Int32)).toInt := ti_add (by omega) (by omega)) | (have a4657 := ti_rg (x4 + (1 : Int32)))
                          have b4658 := NI_g21 ci4650 (c := 0) (p := 48) rfl
                          have e4659 : (mz_gI t4648 0 48).toInt = (mz_gI q4565 0 48).toInt := by rw [E4649, gI_oth _ _ (by simp)]
                          have b4660 := NI_g22 ci4650 (c := 0) (p := 51) rfl
                          have e4661 : (mz_gI t4648 0 51).toInt = (mz_gI q4565 0 51).toInt := by rw [E4649, gI_oth _ _ (by simp)]
                          have b4662 := NI_13 ci4650 (c := 0) (p := 60) rfl
                          exact ih (x1 + (1 : Int32)) (x2 - (1 : Int32)) (x4 + (1 : Int32)) (x4 + (1 : Int32)) t4648 ci4650 (by omega) (by omega) (by omega) (by omega) (by omega) (by omega) (by omega) (by omega) (by omega) (by omega) (by omega) (by omega) (by omega)
                        · have g4663 := ti_nq h4646
                          refine Tp_if (fun h4664 => ?_) (fun h4664 => ?_)
                          · have g4665 := ti_l h4664
                            first | (have a4666 : (x2 - (1 : Int32)).toInt = (x2).toInt - ((1 : Int32)).toInt := ti_sub (by omega) (by omega)) | (have a4667 := ti_rg (x2 - (1 : Int32)))
                            unfold f_MO_readTexts_158
                            unfold f_MO_readTexts_159
                            refine Tp_gd (ti_b (by omega) (by omega)) ?_
                            refine Tp_le (fun t4668 E4669 => ?_)
                            have ci4670 := NI_p2 ci4572 E4669 rfl (by omega) (by omega)
                            have i4671 := ti_rg x1
                            first | (have a4672 : (x1 + (1 : Int32)).toInt = (x1).toInt + ((1 : Int32)).toInt := ti_add (by omega) (by omega)) | (have a4673 := ti_rg (x1 + (1 : Int32)))
                            first | (have a4674 : (x4 + (1 : Int32)).toInt = (x4).toInt + ((1 : Int32)).toInt := ti_add (by omega) (by omega)) | (have a4675 := ti_rg (x4 + (1 : Int32)))
                            have b4676 := NI_g21 ci4670 (c := 0) (p := 48) rfl
                            have e4677 : (mz_gI t4668 0 48).toInt = (mz_gI q4565 0 48).toInt := by rw [E4669, gI_oth _ _ (by simp)]
                            have b4678 := NI_g22 ci4670 (c := 0) (p := 51) rfl
                            have e4679 : (mz_gI t4668 0 51).toInt = (mz_gI q4565 0 51).toInt := by rw [E4669, gI_oth _ _ (by simp)]
                            have b4680 := NI_13 ci4670 (c := 0) (p := 60) rfl
                            exact ih (x1 + (1 : Int32)) (x2 - (1 : Int32)) (x4 + (1 : Int32)) (x4 + (1 : Int32)) t4668 ci4670 (by omega) (by omega) (by omega) (by omega) (by omega) (by omega) (by omega) (by omega) (by omega) (by omega) (by omega) (by omega) (by omega)
                          · have g4681 := ti_nl h4664
                            first | (have a4682 : (x2 - (1 : Int32)).toInt = (x2).toInt - ((1 : Int32)).toInt := ti_sub (by omega) (by omega)) | (have a4683 := ti_rg (x2 - (1 : Int32)))
                            unfold f_MO_readTexts_159
                            refine Tp_gd (ti_b (by omega) (by omega)) ?_
                            refine Tp_le (fun t4684 E4685 => ?_)
                            have ci4686 := NI_p2 ci4572 E4685 rfl (by omega) (by omega)
                            have i4687 := ti_rg x1
                            first | (have a4688 : (x1 + (1 : Int32)).toInt = (x1).toInt + ((1 : Int32)).toInt := ti_add (by omega) (by omega)) | (have a4689 := ti_rg (x1 + (1 : Int32)))
                            first | (have a4690 : (x4 + (1 : Int32)).toInt = (x4).toInt + ((1 : Int32)).toInt := ti_add (by omega) (by omega)) | (have a4691 := ti_rg (x4 + (1 : Int32)))
                            have b4692 := NI_g21 ci4686 (c := 0) (p := 48) rfl
                            have e4693 : (mz_gI t4684 0 48).toInt = (mz_gI q4565 0 48).toInt := by rw [E4685, gI_oth _ _ (by simp)]
                            have b4694 := NI_g22 ci4686 (c := 0) (p := 51) rfl
                            have e4695 : (mz_gI t4684 0 51).toInt = (mz_gI q4565 0 51).toInt := by rw [E4685, gI_oth _ _ (by simp)]
                            have b4696 := NI_13 ci4686 (c := 0) (p := 60) rfl
                            exact ih (x1 + (1 : Int32)) (x2 - (1 : Int32)) (x4 + (1 : Int32)) (x4 + (1 : Int32)) t4684 ci4686 (by omega) (by omega) (by omega) (by omega) (by omega) (by omega) (by omega) (by omega) (by omega) (by omega) (by omega) (by omega) (by omega)
                      · have g4697 := ti_nq h4643
                        have l4698 : ((41 : Int32)).toInt = 41 := rfl
                        unfold f_MO_readTexts_141
                        refine Tp_if (fun h4699 => ?_) (fun h4699 => ?_)
                        · have g4700 := ti_q h4699
                          unfold f_MO_readTexts_158
                          unfold f_MO_readTexts_159
                          refine Tp_gd (ti_b (by omega) (by omega)) ?_
                          refine Tp_le (fun t4701 E4702 => ?_)
                          have ci4703 := NI_p2 ci4572 E4702 rfl (by omega) (by omega)
                          have i4704 := ti_rg x1
                          first | (have a4705 : (x1 + (1 : Int32)).toInt = (x1).toInt + ((1 : Int32)).toInt := ti_add (by omega) (by omega)) | (have a4706 := ti_rg (x1 + (1 : Int32)))
                          first | (have a4707 : (x4 + (1 : Int32)).toInt = (x4).toInt + ((1 : Int32)).toInt := ti_add (by omega) (by omega)) | (have a4708 := ti_rg (x4 + (1 : Int32)))
                          have b4709 := NI_g21 ci4703 (c := 0) (p := 48) rfl
                          have e4710 : (mz_gI t4701 0 48).toInt = (mz_gI q4565 0 48).toInt := by rw [E4702, gI_oth _ _ (by simp)]
                          have b4711 := NI_g22 ci4703 (c := 0) (p := 51) rfl
                          have e4712 : (mz_gI t4701 0 51).toInt = (mz_gI q4565 0 51).toInt := by rw [E4702, gI_oth _ _ (by simp)]
                          have b4713 := NI_13 ci4703 (c := 0) (p := 60) rfl
                          exact ih (x1 + (1 : Int32)) x2 (x4 + (1 : Int32)) (x4 + (1 : Int32)) t4701 ci4703 (by omega) (by omega) (by omega) (by omega) (by omega) (by omega) (by omega) (by omega) (by omega) (by omega) (by omega) (by omega) (by omega)
                        · have g4714 := ti_nq h4699
                          refine Tp_if (fun h4715 => ?_) (fun h4715 => ?_)
                          · have g4716 := ti_l h4715
                            unfold f_MO_readTexts_158
                            unfold f_MO_readTexts_159
                            refine Tp_gd (ti_b (by omega) (by omega)) ?_
                            refine Tp_le (fun t4717 E4718 => ?_)
                            have ci4719 := NI_p2 ci4572 E4718 rfl (by omega) (by omega)
                            have i4720 := ti_rg x1
                            first | (have a4721 : (x1 + (1 : Int32)).toInt = (x1).toInt + ((1 : Int32)).toInt := ti_add (by omega) (by omega)) | (have a4722 := ti_rg (x1 + (1 : Int32)))
                            first | (have a4723 : (x4 + (1 : Int32)).toInt = (x4).toInt + ((1 : Int32)).toInt := ti_add (by omega) (by omega)) | (have a4724 := ti_rg (x4 + (1 : Int32)))
                            have b4725 := NI_g21 ci4719 (c := 0) (p := 48) rfl
                            have e4726 : (mz_gI t4717 0 48).toInt = (mz_gI q4565 0 48).toInt := by rw [E4718, gI_oth _ _ (by simp)]
                            have b4727 := NI_g22 ci4719 (c := 0) (p := 51) rfl
                            have e4728 : (mz_gI t4717 0 51).toInt = (mz_gI q4565 0 51).toInt := by rw [E4718, gI_oth _ _ (by simp)]
                            have b4729 := NI_13 ci4719 (c := 0) (p := 60) rfl
                            exact ih (x1 + (1 : Int32)) x2 (x4 + (1 : Int32)) (x4 + (1 : Int32)) t4717 ci4719 (by omega) (by omega) (by omega) (by omega) (by omega) (by omega) (by omega) (by omega) (by omega) (by omega) (by omega) (by omega) (by omega)
                          · have g4730 := ti_nl h4715
                            unfold f_MO_readTexts_159
                            refine Tp_gd (ti_b (by omega) (by omega)) ?_
                            refine Tp_le (fun t4731 E4732 => ?_)
                            have ci4733 := NI_p2 ci4572 E4732 rfl (by omega) (by omega)
                            have i4734 := ti_rg x1
                            first | (have a4735 : (x1 + (1 : Int32)).toInt = (x1).toInt + ((1 : Int32)).toInt := ti_add (by omega) (by omega)) | (have a4736 := ti_rg (x1 + (1 : Int32)))
                            first | (have a4737 : (x4 + (1 : Int32)).toInt = (x4).toInt + ((1 : Int32)).toInt := ti_add (by omega) (by omega)) | (have a4738 := ti_rg (x4 + (1 : Int32)))
                            have b4739 := NI_g21 ci4733 (c := 0) (p := 48) rfl
                            have e4740 : (mz_gI t4731 0 48).toInt = (mz_gI q4565 0 48).toInt := by rw [E4732, gI_oth _ _ (by simp)]
                            have b4741 := NI_g22 ci4733 (c := 0) (p := 51) rfl
                            have e4742 : (mz_gI t4731 0 51).toInt = (mz_gI q4565 0 51).toInt := by rw [E4732, gI_oth _ _ (by simp)]
                            have b4743 := NI_13 ci4733 (c := 0) (p := 60) rfl
                            exact ih (x1 + (1 : Int32)) x2 (x4 + (1 : Int32)) (x4 + (1 : Int32)) t4731 ci4733 (by omega) (by omega) (by omega) (by omega) (by omega) (by omega) (by omega) (by omega) (by omega) (by omega) (by omega) (by omega) (by omega)
            · have g4744 := ti_nq h4003
              unfold f_MO_readTexts_71
              unfold f_MO_readTexts_72
              refine Tp_if (fun h4745 => ?_) (fun h4745 => ?_)
              · have g4746 := ti_q h4745
                have l4747 : ((0 : Int32)).toInt = 0 := rfl
                unfold f_MO_readTexts_114
                refine Tp_if (fun h4748 => ?_) (fun h4748 => ?_)
                · have g4749 := ti_q h4748
                  have l4750 : ((40 : Int32)).toInt = 40 := rfl
                  unfold f_MO_readTexts_141
                  refine Tp_if (fun h4751 => ?_) (fun h4751 => ?_)
                  · have g4752 := ti_q h4751
                    have b4753 := NI_g2 ci (c := 0) (p := 62) rfl
                    unfold f_MO_readTexts_158
                    unfold f_MO_readTexts_159
                    refine Tp_gd (ti_b (by omega) (by omega)) ?_
                    refine Tp_le (fun t4754 E4755 => ?_)
                    have l4757 : (62 : Int32).toInt = 62 := rfl
                    have ci4756 := NI_p2 ci E4755 rfl (by omega) (by omega)
                    have i4758 := ti_rg x1
                    have l4759 : ((1 : Int32)).toInt = 1 := rfl
                    first | (have a4760 : (x2 + (1 : Int32)).toInt = (x2).toInt + ((1 : Int32)).toInt := ti_add (by omega) (by omega)) | (have a4761 := ti_rg (x2 + (1 : Int32)))
                    have i4762 := ti_rg x3
                    first | (have a4763 : (x4 + (1 : Int32)).toInt = (x4).toInt + ((1 : Int32)).toInt := ti_add (by omega) (by omega)) | (have a4764 := ti_rg (x4 + (1 : Int32)))
                    have b4765 := NI_g21 ci4756 (c := 0) (p := 48) rfl
                    have e4766 : (mz_gI t4754 0 48).toInt = (mz_gI t 0 48).toInt := by rw [E4755, gI_oth _ _ (by simp)]
                    have b4767 := NI_g22 ci4756 (c := 0) (p := 51) rfl
                    have e4768 : (mz_gI t4754 0 51).toInt = (mz_gI t 0 51).toInt := by rw [E4755, gI_oth _ _ (by simp)]
                    have b4769 := NI_13 ci4756 (c := 0) (p := 60) rfl
                    exact ih x1 (x2 + (1 : Int32)) x3 (x4 + (1 : Int32)) t4754 ci4756 (by omega) (by omega) (by omega) (by omega) (by omega) (by omega) (by omega) (by omega) (by omega) (by omega) (by omega) (by omega) (by omega)
                  · have g4770 := ti_nq h4751
                    have b4771 := NI_g2 ci (c := 0) (p := 62) rfl
                    refine Tp_if (fun h4772 => ?_) (fun h4772 => ?_)
                    · have g4773 := ti_l h4772
                      have l4774 : ((1 : Int32)).toInt = 1 := rfl
                      first | (have a4775 : (x2 + (1 : Int32)).toInt = (x2).toInt + ((1 : Int32)).toInt := ti_add (by omega) (by omega)) | (have a4776 := ti_rg (x2 + (1 : Int32)))
                      unfold f_MO_readTexts_158
                      unfold f_MO_readTexts_159
                      refine Tp_gd (ti_b (by omega) (by omega)) ?_
                      refine Tp_le (fun t4777 E4778 => ?_)
                      have l4780 : (62 : Int32).toInt = 62 := rfl
                      have ci4779 := NI_p2 ci E4778 rfl (by omega) (by omega)
                      have i4781 := ti_rg x1
                      have i4782 := ti_rg x3
                      first | (have a4783 : (x4 + (1 : Int32)).toInt = (x4).toInt + ((1 : Int32)).toInt := ti_add (by omega) (by omega)) | (have a4784 := ti_rg (x4 + (1 : Int32)))
                      have b4785 := NI_g21 ci4779 (c := 0) (p := 48) rfl
                      have e4786 : (mz_gI t4777 0 48).toInt = (mz_gI t 0 48).toInt := by rw [E4778, gI_oth _ _ (by simp)]
                      have b4787 := NI_g22 ci4779 (c := 0) (p := 51) rfl
                      have e4788 : (mz_gI t4777 0 51).toInt = (mz_gI t 0 51).toInt := by rw [E4778, gI_oth _ _ (by simp)]
                      have b4789 := NI_13 ci4779 (c := 0) (p := 60) rfl
                      exact ih x1 (x2 + (1 : Int32)) x3 (x4 + (1 : Int32)) t4777 ci4779 (by omega) (by omega) (by omega) (by omega) (by omega) (by omega) (by omega) (by omega) (by omega) (by omega) (by omega) (by omega) (by omega)
                    · have g4790 := ti_nl h4772
                      have l4791 : ((1 : Int32)).toInt = 1 := rfl
                      first | (have a4792 : (x2 + (1 : Int32)).toInt = (x2).toInt + ((1 : Int32)).toInt := ti_add (by omega) (by omega)) | (have a4793 := ti_rg (x2 + (1 : Int32)))
                      unfold f_MO_readTexts_159
                      refine Tp_gd (ti_b (by omega) (by omega)) ?_
                      refine Tp_le (fun t4794 E4795 => ?_)
                      have l4797 : (62 : Int32).toInt = 62 := rfl
                      have ci4796 := NI_p2 ci E4795 rfl (by omega) (by omega)
                      have i4798 := ti_rg x1
                      have i4799 := ti_rg x3
                      first | (have a4800 : (x4 + (1 : Int32)).toInt = (x4).toInt + ((1 : Int32)).toInt := ti_add (by omega) (by omega)) | (have a4801 := ti_rg (x4 + (1 : Int32)))
                      have b4802 := NI_g21 ci4796 (c := 0) (p := 48) rfl
                      have e4803 : (mz_gI t4794 0 48).toInt = (mz_gI t 0 48).toInt := by rw [E4795, gI_oth _ _ (by simp)]
                      have b4804 := NI_g22 ci4796 (c := 0) (p := 51) rfl
                      have e4805 : (mz_gI t4794 0 51).toInt = (mz_gI t 0 51).toInt := by rw [E4795, gI_oth _ _ (by simp)]
                      have b4806 := NI_13 ci4796 (c := 0) (p := 60) rfl
                      exact ih x1 (x2 + (1 : Int32)) x3 (x4 + (1 : Int32)) t4794 ci4796 (by omega) (by omega) (by omega) (by omega) (by omega) (by omega) (by omega) (by omega) (by omega) (by omega) (by omega) (by omega) (by omega)
                · have g4807 := ti_nq h4748
                  have l4808 : ((40 : Int32)).toInt = 40 := rfl
                  refine Tp_if (fun h4809 => ?_) (fun h4809 => ?_)
                  · have g4810 := ti_q h4809
                    have l4811 : ((41 : Int32)).toInt = 41 := rfl
                    unfold f_MO_readTexts_141
                    refine Tp_if (fun h4812 => ?_) (fun h4812 => ?_)
                    · have g4813 := ti_q h4812
                      have b4814 := NI_g2 ci (c := 0) (p := 62) rfl
                      unfold f_MO_readTexts_158
                      unfold f_MO_readTexts_159
                      refine Tp_gd (ti_b (by omega) (by omega)) ?_
                      refine Tp_le (fun t4815 E4816 => ?_)
                      have l4818 : (62 : Int32).toInt = 62 := rfl
                      have ci4817 := NI_p2 ci E4816 rfl (by omega) (by omega)
                      have i4819 := ti_rg x1
                      have l4820 : ((1 : Int32)).toInt = 1 := rfl
                      first | (have a4821 : (x2 - (1 : Int32)).toInt = (x2).toInt - ((1 : Int32)).toInt := ti_sub (by omega) (by omega)) | (have a4822 := ti_rg (x2 - (1 : Int32)))
                      have i4823 := ti_rg x3
                      first | (have a4824 : (x4 + (1 : Int32)).toInt = (x4).toInt + ((1 : Int32)).toInt := ti_add (by omega) (by omega)) | (have a4825 := ti_rg (x4 + (1 : Int32)))
                      have b4826 := NI_g21 ci4817 (c := 0) (p := 48) rfl
                      have e4827 : (mz_gI t4815 0 48).toInt = (mz_gI t 0 48).toInt := by rw [E4816, gI_oth _ _ (by simp)]
                      have b4828 := NI_g22 ci4817 (c := 0) (p := 51) rfl
                      have e4829 : (mz_gI t4815 0 51).toInt = (mz_gI t 0 51).toInt := by rw [E4816, gI_oth _ _ (by simp)]
                      have b4830 := NI_13 ci4817 (c := 0) (p := 60) rfl
                      exact ih x1 (x2 - (1 : Int32)) x3 (x4 + (1 : Int32)) t4815 ci4817 (by omega) (by omega) (by omega) (by omega) (by omega) (by omega) (by omega) (by omega) (by omega) (by omega) (by omega) (by omega) (by omega)
                    · have g4831 := ti_nq h4812
                      have b4832 := NI_g2 ci (c := 0) (p := 62) rfl
                      refine Tp_if (fun h4833 => ?_) (fun h4833 => ?_)
                      · have g4834 := ti_l h4833
                        have l4835 : ((1 : Int32)).toInt = 1 := rfl
                        first | (have a4836 : (x2 - (1 : Int32)).toInt = (x2).toInt - ((1 : Int32)).toInt := ti_sub (by omega) (by omega)) | (have a4837 := ti_rg (x2 - (1 : Int32)))
                        unfold f_MO_readTexts_158
                        unfold f_MO_readTexts_159
                        refine Tp_gd (ti_b (by omega) (by omega)) ?_
                        refine Tp_le (fun t4838 E4839 => ?_)
                        have l4841 : (62 : Int32).toInt = 62 := rfl
                        have ci4840 := NI_p2 ci E4839 rfl (by omega) (by omega)
                        have i4842 := ti_rg x1
                        have i4843 := ti_rg x3
                        first | (have a4844 : (x4 + (1 : Int32)).toInt = (x4).toInt + ((1 : Int32)).toInt := ti_add (by omega) (by omega)) | (have a4845 := ti_rg (x4 + (1 : Int32)))
                        have b4846 := NI_g21 ci4840 (c := 0) (p := 48) rfl
                        have e4847 : (mz_gI t4838 0 48).toInt = (mz_gI t 0 48).toInt := by rw [E4839, gI_oth _ _ (by simp)]
                        have b4848 := NI_g22 ci4840 (c := 0) (p := 51) rfl
                        have e4849 : (mz_gI t4838 0 51).toInt = (mz_gI t 0 51).toInt := by rw [E4839, gI_oth _ _ (by simp)]
                        have b4850 := NI_13 ci4840 (c := 0) (p := 60) rfl
                        exact ih x1 (x2 - (1 : Int32)) x3 (x4 + (1 : Int32)) t4838 ci4840 (by omega) (by omega) (by omega) (by omega) (by omega) (by omega) (by omega) (by omega) (by omega) (by omega) (by omega) (by omega) (by omega)
                      · have g4851 := ti_nl h4833
                        have l4852 : ((1 : Int32)).toInt = 1 := rfl
                        first | (have a4853 : (x2 - (1 : Int32)).toInt = (x2).toInt - ((1 : Int32)).toInt := ti_sub (by omega) (by omega)) | (have a4854 := ti_rg (x2 - (1 : Int32)))
                        unfold f_MO_readTexts_159
                        refine Tp_gd (ti_b (by omega) (by omega)) ?_
                        refine Tp_le (fun t4855 E4856 => ?_)
                        have l4858 : (62 : Int32).toInt = 62 := rfl
                        have ci4857 := NI_p2 ci E4856 rfl (by omega) (by omega)
                        have i4859 := ti_rg x1
                        have i4860 := ti_rg x3
                        first | (have a4861 : (x4 + (1 : Int32)).toInt = (x4).toInt + ((1 : Int32)).toInt := ti_add (by omega) (by omega)) | (have a4862 := ti_rg (x4 + (1 : Int32)))
                        have b4863 := NI_g21 ci4857 (c := 0) (p := 48) rfl
                        have e4864 : (mz_gI t4855 0 48).toInt = (mz_gI t 0 48).toInt := by rw [E4856, gI_oth _ _ (by simp)]
                        have b4865 := NI_g22 ci4857 (c := 0) (p := 51) rfl
                        have e4866 : (mz_gI t4855 0 51).toInt = (mz_gI t 0 51).toInt := by rw [E4856, gI_oth _ _ (by simp)]
                        have b4867 := NI_13 ci4857 (c := 0) (p := 60) rfl
                        exact ih x1 (x2 - (1 : Int32)) x3 (x4 + (1 : Int32)) t4855 ci4857 (by omega) (by omega) (by omega) (by omega) (by omega) (by omega) (by omega) (by omega) (by omega) (by omega) (by omega) (by omega) (by omega)
                  · have g4868 := ti_nq h4809
                    have l4869 : ((41 : Int32)).toInt = 41 := rfl
                    unfold f_MO_readTexts_141
                    refine Tp_if (fun h4870 => ?_) (fun h4870 => ?_)
                    · have g4871 := ti_q h4870
                      have b4872 := NI_g2 ci (c := 0) (p := 62) rfl
                      unfold f_MO_readTexts_158
                      unfold f_MO_readTexts_159
                      refine Tp_gd (ti_b (by omega) (by omega)) ?_
                      refine Tp_le (fun t4873 E4874 => ?_)
                      have l4876 : (62 : Int32).toInt = 62 := rfl
                      have ci4875 := NI_p2 ci E4874 rfl (by omega) (by omega)
                      have i4877 := ti_rg x1
                      have i4878 := ti_rg x3
                      have l4879 : ((1 : Int32)).toInt = 1 := rfl
                      first | (have a4880 : (x4 + (1 : Int32)).toInt = (x4).toInt + ((1 : Int32)).toInt := ti_add (by omega) (by omega)) | (have a4881 := ti_rg (x4 + (1 : Int32)))
                      have b4882 := NI_g21 ci4875 (c := 0) (p := 48) rfl
                      have e4883 : (mz_gI t4873 0 48).toInt = (mz_gI t 0 48).toInt := by rw [E4874, gI_oth _ _ (by simp)]
                      have b4884 := NI_g22 ci4875 (c := 0) (p := 51) rfl
                      have e4885 : (mz_gI t4873 0 51).toInt = (mz_gI t 0 51).toInt := by rw [E4874, gI_oth _ _ (by simp)]
                      have b4886 := NI_13 ci4875 (c := 0) (p := 60) rfl
                      exact ih x1 x2 x3 (x4 + (1 : Int32)) t4873 ci4875 (by omega) (by omega) (by omega) (by omega) (by omega) (by omega) (by omega) (by omega) (by omega) (by omega) (by omega) (by omega) (by omega)
                    · have g4887 := ti_nq h4870
                      have b4888 := NI_g2 ci (c := 0) (p := 62) rfl
                      refine Tp_if (fun h4889 => ?_) (fun h4889 => ?_)
                      · have g4890 := ti_l h4889
                        unfold f_MO_readTexts_158
                        unfold f_MO_readTexts_159
                        refine Tp_gd (ti_b (by omega) (by omega)) ?_
                        refine Tp_le (fun t4891 E4892 => ?_)
                        have l4894 : (62 : Int32).toInt = 62 := rfl
                        have ci4893 := NI_p2 ci E4892 rfl (by omega) (by omega)
                        have i4895 := ti_rg x1
                        have i4896 := ti_rg x3
                        have l4897 : ((1 : Int32)).toInt = 1 := rfl
                        first | (have a4898 : (x4 + (1 : Int32)).toInt = (x4).toInt + ((1 : Int32)).toInt := ti_add (by omega) (by omega)) | (have a4899 := ti_rg (x4 + (1 : Int32)))
                        have b4900 := NI_g21 ci4893 (c := 0) (p := 48) rfl
                        have e4901 : (mz_gI t4891 0 48).toInt = (mz_gI t 0 48).toInt := by rw [E4892, gI_oth _ _ (by simp)]
                        have b4902 := NI_g22 ci4893 (c := 0) (p := 51) rfl
                        have e4903 : (mz_gI t4891 0 51).toInt = (mz_gI t 0 51).toInt := by rw [E4892, gI_oth _ _ (by simp)]
                        have b4904 := NI_13 ci4893 (c := 0) (p := 60) rfl
                        exact ih x1 x2 x3 (x4 + (1 : Int32)) t4891 ci4893 (by omega) (by omega) (by omega) (by omega) (by omega) (by omega) (by omega) (by omega) (by omega) (by omega) (by omega) (by omega) (by omega)
                      · have g4905 := ti_nl h4889
                        unfold f_MO_readTexts_159
                        have l4906 : ((1 : Int32)).toInt = 1 := rfl
                        refine Tp_gd (ti_b (by omega) (by omega)) ?_
                        refine Tp_le (fun t4907 E4908 => ?_)
                        have l4910 : (62 : Int32).toInt = 62 := rfl
                        have ci4909 := NI_p2 ci E4908 rfl (by omega) (by omega)
                        have i4911 := ti_rg x1
                        have i4912 := ti_rg x3
                        first | (have a4913 : (x4 + (1 : Int32)).toInt = (x4).toInt + ((1 : Int32)).toInt := ti_add (by omega) (by omega)) | (have a4914 := ti_rg (x4 + (1 : Int32)))
                        have b4915 := NI_g21 ci4909 (c := 0) (p := 48) rfl
                        have e4916 : (mz_gI t4907 0 48).toInt = (mz_gI t 0 48).toInt := by rw [E4908, gI_oth _ _ (by simp)]
                        have b4917 := NI_g22 ci4909 (c := 0) (p := 51) rfl
                        have e4918 : (mz_gI t4907 0 51).toInt = (mz_gI t 0 51).toInt := by rw [E4908, gI_oth _ _ (by simp)]
                        have b4919 := NI_13 ci4909 (c := 0) (p := 60) rfl
                        exact ih x1 x2 x3 (x4 + (1 : Int32)) t4907 ci4909 (by omega) (by omega) (by omega) (by omega) (by omega) (by omega) (by omega) (by omega) (by omega) (by omega) (by omega) (by omega) (by omega)
              · have g4920 := ti_nq h4745
                have l4921 : ((0 : Int32)).toInt = 0 := rfl
                refine Tp_if (fun h4922 => ?_) (fun h4922 => ?_)
                · have g4923 := ti_q h4922
                  have b4924 := NI_g2 ci (c := 0) (p := 62) rfl
                  unfold f_MO_readTexts_95
                  unfold f_MO_readTexts_96
                  refine Tp_gd (ti_b (by omega) (by omega)) ?_
                  refine Tp_le (fun t4925 E4926 => ?_)
                  have l4928 : (62 : Int32).toInt = 62 := rfl
                  have ci4927 := NI_p2 ci E4926 rfl (by omega) (by omega)
                  have i4931 := ti_rg x3
                  have b4932 := NI_g21 ci4927 (c := 0) (p := 48) rfl
                  have e4933 : (mz_gI t4925 0 48).toInt = (mz_gI t 0 48).toInt := by rw [E4926, gI_oth _ _ (by simp)]
                  have b4934 := NI_g22 ci4927 (c := 0) (p := 51) rfl
                  have e4935 : (mz_gI t4925 0 51).toInt = (mz_gI t 0 51).toInt := by rw [E4926, gI_oth _ _ (by simp)]
                  refine Tp_bi (s_MO_hold hn ci4927 (by omega) (by omega) (by omega) (by omega) (by omega) (t := t4925) (x1 := x3) (x2 := x4)) (fun q4929 h4930 => ?_)
                  obtain ⟨ci4936, p4937, p4938, p4939, p4940, p4941⟩ := h4930
                  have b4942 := NI_g24 ci4927 (c := 0) (p := 61) rfl
                  have e4943 : (mz_gI t4925 0 61).toInt = (mz_gI t 0 61).toInt := by rw [E4926, gI_oth _ _ (by simp)]
                  have b4944 := NI_g24 ci (c := 0) (p := 61) rfl
                  have b4945 := NI_g2 ci4927 (c := 0) (p := 62) rfl
                  have e4946 : (mz_gI t4925 0 62).toInt = ((0 : Int32)).toInt := by rw [E4926, gI_same]
                  have b4947 := NI_g21 ci4936 (c := 0) (p := 48) rfl
                  have b4948 := NI_g22 ci4936 (c := 0) (p := 51) rfl
                  have b4949 := NI_g24 ci4936 (c := 0) (p := 61) rfl
                  have b4950 := NI_g2 ci4936 (c := 0) (p := 62) rfl
                  unfold f_MO_readTexts_114
                  refine Tp_if (fun h4951 => ?_) (fun h4951 => ?_)
                  · have g4952 := ti_q h4951
                    have l4953 : ((40 : Int32)).toInt = 40 := rfl
                    unfold f_MO_readTexts_141
                    refine Tp_if (fun h4954 => ?_) (fun h4954 => ?_)
                    · have g4955 := ti_q h4954
                      unfold f_MO_readTexts_158
                      unfold f_MO_readTexts_159
                      refine Tp_gd (ti_b (by omega) (by omega)) ?_
                      refine Tp_le (fun t4956 E4957 => ?_)
                      have ci4958 := NI_p2 ci4936 E4957 rfl (by omega) (by omega)
                      have i4959 := ti_rg x1
                      have l4960 : ((1 : Int32)).toInt = 1 := rfl
                      first | (have a4961 : (x1 + (1 : Int32)).toInt = (x1).toInt + ((1 : Int32)).toInt := ti_add (by omega) (by omega)) | (have a4962 := ti_rg (x1 + (1 : Int32)))
                      first | (have a4963 : (x2 + (1 : Int32)).toInt = (x2).toInt + ((1 : Int32)).toInt := ti_add (by omega) (by omega)) | (have a4964 := ti_rg (x2 + (1 : Int32)))
                      first | (have a4965 : (x4 + (1 : Int32)).toInt = (x4).toInt + ((1 : Int32)).toInt := ti_add (by omega) (by omega)) | (have a4966 := ti_rg (x4 + (1 : Int32)))
                      have b4967 := NI_g21 ci4958 (c := 0) (p := 48) rfl
                      have e4968 : (mz_gI t4956 0 48).toInt = (mz_gI q4929 0 48).toInt := by rw [E4957, gI_oth _ _ (by simp)]
                      have b4969 := NI_g22 ci4958 (c := 0) (p := 51) rfl
                      have e4970 : (mz_gI t4956 0 51).toInt = (mz_gI q4929 0 51).toInt := by rw [E4957, gI_oth _ _ (by simp)]
                      have b4971 := NI_13 ci4958 (c := 0) (p := 60) rfl
                      exact ih (x1 + (1 : Int32)) (x2 + (1 : Int32)) (x4 + (1 : Int32)) (x4 + (1 : Int32)) t4956 ci4958 (by omega) (by omega) (by omega) (by omega) (by omega) (by omega) (by omega) (by omega) (by omega) (by omega) (by omega) (by omega) (by omega)
                    · have g4972 := ti_nq h4954
                      refine Tp_if (fun h4973 => ?_) (fun h4973 => ?_)
                      · have g4974 := ti_l h4973
                        have l4975 : ((1 : Int32)).toInt = 1 := rfl
                        first | (have a4976 : (x2 + (1 : Int32)).toInt = (x2).toInt + ((1 : Int32)).toInt := ti_add (by omega) (by omega)) | (have a4977 := ti_rg (x2 + (1 : Int32)))
                        unfold f_MO_readTexts_158
                        unfold f_MO_readTexts_159
                        refine Tp_gd (ti_b (by omega) (by omega)) ?_
                        refine Tp_le (fun t4978 E4979 => ?_)
                        have ci4980 := NI_p2 ci4936 E4979 rfl (by omega) (by omega)
                        have i4981 := ti_rg x1
                        first | (have a4982 : (x1 + (1 : Int32)).toInt = (x1).toInt + ((1 : Int32)).toInt := ti_add (by omega) (by omega)) | (have a4983 := ti_rg (x1 + (1 : Int32)))
                        first | (have a4984 : (x4 + (1 : Int32)).toInt = (x4).toInt + ((1 : Int32)).toInt := ti_add (by omega) (by omega)) | (have a4985 := ti_rg (x4 + (1 : Int32)))
                        have b4986 := NI_g21 ci4980 (c := 0) (p := 48) rfl
                        have e4987 : (mz_gI t4978 0 48).toInt = (mz_gI q4929 0 48).toInt := by rw [E4979, gI_oth _ _ (by simp)]
                        have b4988 := NI_g22 ci4980 (c := 0) (p := 51) rfl
                        have e4989 : (mz_gI t4978 0 51).toInt = (mz_gI q4929 0 51).toInt := by rw [E4979, gI_oth _ _ (by simp)]
                        have b4990 := NI_13 ci4980 (c := 0) (p := 60) rfl
                        exact ih (x1 + (1 : Int32)) (x2 + (1 : Int32)) (x4 + (1 : Int32)) (x4 + (1 : Int32)) t4978 ci4980 (by omega) (by omega) (by omega) (by omega) (by omega) (by omega) (by omega) (by omega) (by omega) (by omega) (by omega) (by omega) (by omega)
                      · have g4991 := ti_nl h4973
                        have l4992 : ((1 : Int32)).toInt = 1 := rfl
                        first | (have a4993 : (x2 + (1 : Int32)).toInt = (x2).toInt + ((1 : Int32)).toInt := ti_add (by omega) (by omega)) | (have a4994 := ti_rg (x2 + (1 : Int32)))
                        unfold f_MO_readTexts_159
                        refine Tp_gd (ti_b (by omega) (by omega)) ?_
                        refine Tp_le (fun t4995 E4996 => ?_)
                        have ci4997 := NI_p2 ci4936 E4996 rfl (by omega) (by omega)
                        have i4998 := ti_rg x1
                        first | (have a4999 : (x1 + (1 : Int32)).toInt = (x1).toInt + ((1 : Int32)).toInt := ti_add (by omega) (by omega)) | (have a5000 := ti_rg (x1 + (1 : Int32)))
                        first | (have a5001 : (x4 + (1 : Int32)).toInt = (x4).toInt + ((1 : Int32)).toInt := ti_add (by omega) (by omega)) | (have a5002 := ti_rg (x4 + (1 : Int32)))
                        have b5003 := NI_g21 ci4997 (c := 0) (p := 48) rfl
                        have e5004 : (mz_gI t4995 0 48).toInt = (mz_gI q4929 0 48).toInt := by rw [E4996, gI_oth _ _ (by simp)]
                        have b5005 := NI_g22 ci4997 (c := 0) (p := 51) rfl
                        have e5006 : (mz_gI t4995 0 51).toInt = (mz_gI q4929 0 51).toInt := by rw [E4996, gI_oth _ _ (by simp)]
                        have b5007 := NI_13 ci4997 (c := 0) (p := 60) rfl
                        exact ih (x1 + (1 : Int32)) (x2 + (1 : Int32)) (x4 + (1 : Int32)) (x4 + (1 : Int32)) t4995 ci4997 (by omega) (by omega) (by omega) (by omega) (by omega) (by omega) (by omega) (by omega) (by omega) (by omega) (by omega) (by omega) (by omega)
                  · have g5008 := ti_nq h4951
                    have l5009 : ((40 : Int32)).toInt = 40 := rfl
                    refine Tp_if (fun h5010 => ?_) (fun h5010 => ?_)
                    · have g5011 := ti_q h5010
                      have l5012 : ((41 : Int32)).toInt = 41 := rfl
                      unfold f_MO_readTexts_141
                      refine Tp_if (fun h5013 => ?_) (fun h5013 => ?_)
                      · have g5014 := ti_q h5013
                        unfold f_MO_readTexts_158
                        unfold f_MO_readTexts_159
                        refine Tp_gd (ti_b (by omega) (by omega)) ?_
                        refine Tp_le (fun t5015 E5016 => ?_)
                        have ci5017 := NI_p2 ci4936 E5016 rfl (by omega) (by omega)
                        have i5018 := ti_rg x1
                        have l5019 : ((1 : Int32)).toInt = 1 := rfl
                        first | (have a5020 : (x1 + (1 : Int32)).toInt = (x1).toInt + ((1 : Int32)).toInt := ti_add (by omega) (by omega)) | (have a5021 := ti_rg (x1 + (1 : Int32)))
                        first | (have a5022 : (x2 - (1 : Int32)).toInt = (x2).toInt - ((1 : Int32)).toInt := ti_sub (by omega) (by omega)) | (have a5023 := ti_rg (x2 - (1 : Int32)))
                        first | (have a5024 : (x4 + (1 : Int32)).toInt = (x4).toInt + ((1 : Int32)).toInt := ti_add (by omega) (by omega)) | (have a5025 := ti_rg (x4 + (1 : Int32)))
                        have b5026 := NI_g21 ci5017 (c := 0) (p := 48) rfl
                        have e5027 : (mz_gI t5015 0 48).toInt = (mz_gI q4929 0 48).toInt := by rw [E5016, gI_oth _ _ (by simp)]
                        have b5028 := NI_g22 ci5017 (c := 0) (p := 51) rfl
                        have e5029 : (mz_gI t5015 0 51).toInt = (mz_gI q4929 0 51).toInt := by rw [E5016, gI_oth _ _ (by simp)]
                        have b5030 := NI_13 ci5017 (c := 0) (p := 60) rfl
                        exact ih (x1 + (1 : Int32)) (x2 - (1 : Int32)) (x4 + (1 : Int32)) (x4 + (1 : Int32)) t5015 ci5017 (by omega) (by omega) (by omega) (by omega) (by omega) (by omega) (by omega) (by omega) (by omega) (by omega) (by omega) (by omega) (by omega)
                      · have g5031 := ti_nq h5013
                        refine Tp_if (fun h5032 => ?_) (fun h5032 => ?_)
                        · have g5033 := ti_l h5032
                          have l5034 : ((1 : Int32)).toInt = 1 := rfl
                          first | (have a5035 : (x2 - (1 : Int32)).toInt = (x2).toInt - ((1 : Int32)).toInt := ti_sub (by omega) (by omega)) | (have a5036 := ti_rg (x2 - (1 : Int32)))
                          unfold f_MO_readTexts_158
                          unfold f_MO_readTexts_159
                          refine Tp_gd (ti_b (by omega) (by omega)) ?_
                          refine Tp_le (fun t5037 E5038 => ?_)
                          have ci5039 := NI_p2 ci4936 E5038 rfl (by omega) (by omega)
                          have i5040 := ti_rg x1
                          first | (have a5041 : (x1 + (1 : Int32)).toInt = (x1).toInt + ((1 : Int32)).toInt := ti_add (by omega) (by omega)) | (have a5042 := ti_rg (x1 + (1 : Int32)))
                          first | (have a5043 : (x4 + (1 : Int32)).toInt = (x4).toInt + ((1 : Int32)).toInt := ti_add (by omega) (by omega)) | (have a5044 := ti_rg (x4 + (1 : Int32)))
                          have b5045 := NI_g21 ci5039 (c := 0) (p := 48) rfl
                          have e5046 : (mz_gI t5037 0 48).toInt = (mz_gI q4929 0 48).toInt := by rw [E5038, gI_oth _ _ (by simp)]
                          have b5047 := NI_g22 ci5039 (c := 0) (p := 51) rfl
                          have e5048 : (mz_gI t5037 0 51).toInt = (mz_gI q4929 0 51).toInt := by rw [E5038, gI_oth _ _ (by simp)]
                          have b5049 := NI_13 ci5039 (c := 0) (p := 60) rfl
                          exact ih (x1 + (1 : Int32)) (x2 - (1 : Int32)) (x4 + (1 : Int32)) (x4 + (1 : Int32)) t5037 ci5039 (by omega) (by omega) (by omega) (by omega) (by omega) (by omega) (by omega) (by omega) (by omega) (by omega) (by omega) (by omega) (by omega)
                        · have g5050 := ti_nl h5032
                          have l5051 : ((1 : Int32)).toInt = 1 := rfl
                          first | (have a5052 : (x2 - (1 : Int32)).toInt = (x2).toInt - ((1 : Int32)).toInt := ti_sub (by omega) (by omega)) | (have a5053 := ti_rg (x2 - (1 : Int32)))
                          unfold f_MO_readTexts_159
                          refine Tp_gd (ti_b (by omega) (by omega)) ?_
                          refine Tp_le (fun t5054 E5055 => ?_)
                          have ci5056 := NI_p2 ci4936 E5055 rfl (by omega) (by omega)
                          have i5057 := ti_rg x1
                          first | (have a5058 : (x1 + (1 : Int32)).toInt = (x1).toInt + ((1 : Int32)).toInt := ti_add (by omega) (by omega)) | (have a5059 := ti_rg (x1 + (1 : Int32)))
                          first | (have a5060 : (x4 + (1 : Int32)).toInt = (x4).toInt + ((1 : Int32)).toInt := ti_add (by omega) (by omega)) | (have a5061 := ti_rg (x4 + (1 : Int32)))
                          have b5062 := NI_g21 ci5056 (c := 0) (p := 48) rfl
                          have e5063 : (mz_gI t5054 0 48).toInt = (mz_gI q4929 0 48).toInt := by rw [E5055, gI_oth _ _ (by simp)]
                          have b5064 := NI_g22 ci5056 (c := 0) (p := 51) rfl
                          have e5065 : (mz_gI t5054 0 51).toInt = (mz_gI q4929 0 51).toInt := by rw [E5055, gI_oth _ _ (by simp)]
                          have b5066 := NI_13 ci5056 (c := 0) (p := 60) rfl
                          exact ih (x1 + (1 : Int32)) (x2 - (1 : Int32)) (x4 + (1 : Int32)) (x4 + (1 : Int32)) t5054 ci5056 (by omega) (by omega) (by omega) (by omega) (by omega) (by omega) (by omega) (by omega) (by omega) (by omega) (by omega) (by omega) (by omega)
                    · have g5067 := ti_nq h5010
                      have l5068 : ((41 : Int32)).toInt = 41 := rfl
                      unfold f_MO_readTexts_141
                      refine Tp_if (fun h5069 => ?_) (fun h5069 => ?_)
                      · have g5070 := ti_q h5069
                        unfold f_MO_readTexts_158
                        unfold f_MO_readTexts_159
                        refine Tp_gd (ti_b (by omega) (by omega)) ?_
                        refine Tp_le (fun t5071 E5072 => ?_)
                        have ci5073 := NI_p2 ci4936 E5072 rfl (by omega) (by omega)
                        have i5074 := ti_rg x1
                        have l5075 : ((1 : Int32)).toInt = 1 := rfl
                        first | (have a5076 : (x1 + (1 : Int32)).toInt = (x1).toInt + ((1 : Int32)).toInt := ti_add (by omega) (by omega)) | (have a5077 := ti_rg (x1 + (1 : Int32)))
                        first | (have a5078 : (x4 + (1 : Int32)).toInt = (x4).toInt + ((1 : Int32)).toInt := ti_add (by omega) (by omega)) | (have a5079 := ti_rg (x4 + (1 : Int32)))
                        have b5080 := NI_g21 ci5073 (c := 0) (p := 48) rfl
                        have e5081 : (mz_gI t5071 0 48).toInt = (mz_gI q4929 0 48).toInt := by rw [E5072, gI_oth _ _ (by simp)]
                        have b5082 := NI_g22 ci5073 (c := 0) (p := 51) rfl
                        have e5083 : (mz_gI t5071 0 51).toInt = (mz_gI q4929 0 51).toInt := by rw [E5072, gI_oth _ _ (by simp)]
                        have b5084 := NI_13 ci5073 (c := 0) (p := 60) rfl
                        exact ih (x1 + (1 : Int32)) x2 (x4 + (1 : Int32)) (x4 + (1 : Int32)) t5071 ci5073 (by omega) (by omega) (by omega) (by omega) (by omega) (by omega) (by omega) (by omega) (by omega) (by omega) (by omega) (by omega) (by omega)
                      · have g5085 := ti_nq h5069
                        refine Tp_if (fun h5086 => ?_) (fun h5086 => ?_)
                        · have g5087 := ti_l h5086
                          unfold f_MO_readTexts_158
                          unfold f_MO_readTexts_159
                          refine Tp_gd (ti_b (by omega) (by omega)) ?_
                          refine Tp_le (fun t5088 E5089 => ?_)
                          have ci5090 := NI_p2 ci4936 E5089 rfl (by omega) (by omega)
                          have i5091 := ti_rg x1
                          have l5092 : ((1 : Int32)).toInt = 1 := rfl
                          first | (have a5093 : (x1 + (1 : Int32)).toInt = (x1).toInt + ((1 : Int32)).toInt := ti_add (by omega) (by omega)) | (have a5094 := ti_rg (x1 + (1 : Int32)))
                          first | (have a5095 : (x4 + (1 : Int32)).toInt = (x4).toInt + ((1 : Int32)).toInt := ti_add (by omega) (by omega)) | (have a5096 := ti_rg (x4 + (1 : Int32)))
                          have b5097 := NI_g21 ci5090 (c := 0) (p := 48) rfl
                          have e5098 : (mz_gI t5088 0 48).toInt = (mz_gI q4929 0 48).toInt := by rw [E5089, gI_oth _ _ (by simp)]
                          have b5099 := NI_g22 ci5090 (c := 0) (p := 51) rfl
                          have e5100 : (mz_gI t5088 0 51).toInt = (mz_gI q4929 0 51).toInt := by rw [E5089, gI_oth _ _ (by simp)]
                          have b5101 := NI_13 ci5090 (c := 0) (p := 60) rfl
                          exact ih (x1 + (1 : Int32)) x2 (x4 + (1 : Int32)) (x4 + (1 : Int32)) t5088 ci5090 (by omega) (by omega) (by omega) (by omega) (by omega) (by omega) (by omega) (by omega) (by omega) (by omega) (by omega) (by omega) (by omega)
                        · have g5102 := ti_nl h5086
                          unfold f_MO_readTexts_159
                          have l5103 : ((1 : Int32)).toInt = 1 := rfl
                          refine Tp_gd (ti_b (by omega) (by omega)) ?_
                          refine Tp_le (fun t5104 E5105 => ?_)
                          have ci5106 := NI_p2 ci4936 E5105 rfl (by omega) (by omega)
                          have i5107 := ti_rg x1
                          first | (have a5108 : (x1 + (1 : Int32)).toInt = (x1).toInt + ((1 : Int32)).toInt := ti_add (by omega) (by omega)) | (have a5109 := ti_rg (x1 + (1 : Int32)))
                          first | (have a5110 : (x4 + (1 : Int32)).toInt = (x4).toInt + ((1 : Int32)).toInt := ti_add (by omega) (by omega)) | (have a5111 := ti_rg (x4 + (1 : Int32)))
                          have b5112 := NI_g21 ci5106 (c := 0) (p := 48) rfl
                          have e5113 : (mz_gI t5104 0 48).toInt = (mz_gI q4929 0 48).toInt := by rw [E5105, gI_oth _ _ (by simp)]
                          have b5114 := NI_g22 ci5106 (c := 0) (p := 51) rfl
                          have e5115 : (mz_gI t5104 0 51).toInt = (mz_gI q4929 0 51).toInt := by rw [E5105, gI_oth _ _ (by simp)]
                          have b5116 := NI_13 ci5106 (c := 0) (p := 60) rfl
                          exact ih (x1 + (1 : Int32)) x2 (x4 + (1 : Int32)) (x4 + (1 : Int32)) t5104 ci5106 (by omega) (by omega) (by omega) (by omega) (by omega) (by omega) (by omega) (by omega) (by omega) (by omega) (by omega) (by omega) (by omega)
                · have g5117 := ti_nq h4922
                  have b5118 := NI_g2 ci (c := 0) (p := 62) rfl
                  refine Tp_if (fun h5119 => ?_) (fun h5119 => ?_)
                  · have g5120 := ti_q h5119
                    unfold f_MO_readTexts_96
                    have l5121 : ((1 : Int32)).toInt = 1 := rfl
                    refine Tp_gd (ti_b (by omega) (by omega)) ?_
                    refine Tp_le (fun t5122 E5123 => ?_)
                    have l5125 : (62 : Int32).toInt = 62 := rfl
                    have ci5124 := NI_p2 ci E5123 rfl (by omega) (by omega)
                    have i5128 := ti_rg x3
                    have b5129 := NI_g21 ci5124 (c := 0) (p := 48) rfl
                    have e5130 : (mz_gI t5122 0 48).toInt = (mz_gI t 0 48).toInt := by rw [E5123, gI_oth _ _ (by simp)]
                    have b5131 := NI_g22 ci5124 (c := 0) (p := 51) rfl
                    have e5132 : (mz_gI t5122 0 51).toInt = (mz_gI t 0 51).toInt := by rw [E5123, gI_oth _ _ (by simp)]
                    refine Tp_bi (s_MO_hold hn ci5124 (by omega) (by omega) (by omega) (by omega) (by omega) (t := t5122) (x1 := x3) (x2 := x4)) (fun q5126 h5127 => ?_)
                    obtain ⟨ci5133, p5134, p5135, p5136, p5137, p5138⟩ := h5127
                    have b5139 := NI_g24 ci5124 (c := 0) (p := 61) rfl
                    have e5140 : (mz_gI t5122 0 61).toInt = (mz_gI t 0 61).toInt := by rw [E5123, gI_oth _ _ (by simp)]
                    have b5141 := NI_g24 ci (c := 0) (p := 61) rfl
                    have b5142 := NI_g2 ci5124 (c := 0) (p := 62) rfl
                    have e5143 : (mz_gI t5122 0 62).toInt = ((1 : Int32)).toInt := by rw [E5123, gI_same]
                    have b5144 := NI_g21 ci5133 (c := 0) (p := 48) rfl
                    have b5145 := NI_g22 ci5133 (c := 0) (p := 51) rfl
                    have b5146 := NI_g24 ci5133 (c := 0) (p := 61) rfl
                    have b5147 := NI_g2 ci5133 (c := 0) (p := 62) rfl
                    unfold f_MO_readTexts_114
                    refine Tp_if (fun h5148 => ?_) (fun h5148 => ?_)
                    · have g5149 := ti_q h5148
                      have l5150 : ((40 : Int32)).toInt = 40 := rfl
                      unfold f_MO_readTexts_141
                      refine Tp_if (fun h5151 => ?_) (fun h5151 => ?_)
                      · have g5152 := ti_q h5151
                        unfold f_MO_readTexts_158
                        unfold f_MO_readTexts_159
                        refine Tp_gd (ti_b (by omega) (by omega)) ?_
                        refine Tp_le (fun t5153 E5154 => ?_)
                        have ci5155 := NI_p2 ci5133 E5154 rfl (by omega) (by omega)
                        have i5156 := ti_rg x1
                        first | (have a5157 : (x1 + (1 : Int32)).toInt = (x1).toInt + ((1 : Int32)).toInt := ti_add (by omega) (by omega)) | (have a5158 := ti_rg (x1 + (1 : Int32)))
                        first | (have a5159 : (x2 + (1 : Int32)).toInt = (x2).toInt + ((1 : Int32)).toInt := ti_add (by omega) (by omega)) | (have a5160 := ti_rg (x2 + (1 : Int32)))
                        first | (have a5161 : (x4 + (1 : Int32)).toInt = (x4).toInt + ((1 : Int32)).toInt := ti_add (by omega) (by omega)) | (have a5162 := ti_rg (x4 + (1 : Int32)))
                        have b5163 := NI_g21 ci5155 (c := 0) (p := 48) rfl
                        have e5164 : (mz_gI t5153 0 48).toInt = (mz_gI q5126 0 48).toInt := by rw [E5154, gI_oth _ _ (by simp)]
                        have b5165 := NI_g22 ci5155 (c := 0) (p := 51) rfl
                        have e5166 : (mz_gI t5153 0 51).toInt = (mz_gI q5126 0 51).toInt := by rw [E5154, gI_oth _ _ (by simp)]
                        have b5167 := NI_13 ci5155 (c := 0) (p := 60) rfl
                        exact ih (x1 + (1 : Int32)) (x2 + (1 : Int32)) (x4 + (1 : Int32)) (x4 + (1 : Int32)) t5153 ci5155 (by omega) (by omega) (by omega) (by omega) (by omega) (by omega) (by omega) (by omega) (by omega) (by omega) (by omega) (by omega) (by omega)
                      · have g5168 := ti_nq h5151
                        refine Tp_if (fun h5169 => ?_) (fun h5169 => ?_)
                        · have g5170 := ti_l h5169
                          first | (have a5171 : (x2 + (1 : Int32)).toInt = (x2).toInt + ((1 : Int32)).toInt := ti_add (by omega) (by omega)) | (have a5172 := ti_rg (x2 + (1 : Int32)))
                          unfold f_MO_readTexts_158
                          unfold f_MO_readTexts_159
                          refine Tp_gd (ti_b (by omega) (by omega)) ?_
                          refine Tp_le (fun t5173 E5174 => ?_)
                          have ci5175 := NI_p2 ci5133 E5174 rfl (by omega) (by omega)
                          have i5176 := ti_rg x1
                          first | (have a5177 : (x1 + (1 : Int32)).toInt = (x1).toInt + ((1 : Int32)).toInt := ti_add (by omega) (by omega)) | (have a5178 := ti_rg (x1 + (1 : Int32)))
                          first | (have a5179 : (x4 + (1 : Int32)).toInt = (x4).toInt + ((1 : Int32)).toInt := ti_add (by omega) (by omega)) | (have a5180 := ti_rg (x4 + (1 : Int32)))
                          have b5181 := NI_g21 ci5175 (c := 0) (p := 48) rfl
                          have e5182 : (mz_gI t5173 0 48).toInt = (mz_gI q5126 0 48).toInt := by rw [E5174, gI_oth _ _ (by simp)]
                          have b5183 := NI_g22 ci5175 (c := 0) (p := 51) rfl
                          have e5184 : (mz_gI t5173 0 51).toInt = (mz_gI q5126 0 51).toInt := by rw [E5174, gI_oth _ _ (by simp)]
                          have b5185 := NI_13 ci5175 (c := 0) (p := 60) rfl
                          exact ih (x1 + (1 : Int32)) (x2 + (1 : Int32)) (x4 + (1 : Int32)) (x4 + (1 : Int32)) t5173 ci5175 (by omega) (by omega) (by omega) (by omega) (by omega) (by omega) (by omega) (by omega) (by omega) (by omega) (by omega) (by omega) (by omega)
                        · have g5186 := ti_nl h5169
                          first | (have a5187 : (x2 + (1 : Int32)).toInt = (x2).toInt + ((1 : Int32)).toInt := ti_add (by omega) (by omega)) | (have a5188 := ti_rg (x2 + (1 : Int32)))
                          unfold f_MO_readTexts_159
                          refine Tp_gd (ti_b (by omega) (by omega)) ?_
                          refine Tp_le (fun t5189 E5190 => ?_)
                          have ci5191 := NI_p2 ci5133 E5190 rfl (by omega) (by omega)
                          have i5192 := ti_rg x1
                          first | (have a5193 : (x1 + (1 : Int32)).toInt = (x1).toInt + ((1 : Int32)).toInt := ti_add (by omega) (by omega)) | (have a5194 := ti_rg (x1 + (1 : Int32)))
                          first | (have a5195 : (x4 + (1 : Int32)).toInt = (x4).toInt + ((1 : Int32)).toInt := ti_add (by omega) (by omega)) | (have a5196 := ti_rg (x4 + (1 : Int32)))
                          have b5197 := NI_g21 ci5191 (c := 0) (p := 48) rfl
                          have e5198 : (mz_gI t5189 0 48).toInt = (mz_gI q5126 0 48).toInt := by rw [E5190, gI_oth _ _ (by simp)]
                          have b5199 := NI_g22 ci5191 (c := 0) (p := 51) rfl
                          have e5200 : (mz_gI t5189 0 51).toInt = (mz_gI q5126 0 51).toInt := by rw [E5190, gI_oth _ _ (by simp)]
                          have b5201 := NI_13 ci5191 (c := 0) (p := 60) rfl
                          exact ih (x1 + (1 : Int32)) (x2 + (1 : Int32)) (x4 + (1 : Int32)) (x4 + (1 : Int32)) t5189 ci5191 (by omega) (by omega) (by omega) (by omega) (by omega) (by omega) (by omega) (by omega) (by omega) (by omega) (by omega) (by omega) (by omega)
                    · have g5202 := ti_nq h5148
                      have l5203 : ((40 : Int32)).toInt = 40 := rfl
                      refine Tp_if (fun h5204 => ?_) (fun h5204 => ?_)
                      · have g5205 := ti_q h5204
                        have l5206 : ((41 : Int32)).toInt = 41 := rfl
                        unfold f_MO_readTexts_141
                        refine Tp_if (fun h5207 => ?_) (fun h5207 => ?_)
                        · have g5208 := ti_q h5207
                          unfold f_MO_readTexts_158
                          unfold f_MO_readTexts_159
                          refine Tp_gd (ti_b (by omega) (by omega)) ?_
                          refine Tp_le (fun t5209 E5210 => ?_)
                          have ci5211 := NI_p2 ci5133 E5210 rfl (by omega) (by omega)
                          have i5212 := ti_rg x1
                          first | (have a5213 : (x1 + (1 : Int32)).toInt = (x1).toInt + ((1 : Int32)).toInt := ti_add (by omega) (by omega)) | (have a5214 := ti_rg (x1 + (1 : Int32)))
                          first | (have a5215 : (x2 - (1 : Int32)).toInt = (x2).toInt - ((1 : Int32)).toInt := ti_sub (by omega) (by omega)) | (have a5216 := ti_rg (x2 - (1 : Int32)))
                          first | (have a5217 : (x4 + (1 : Int32)).toInt = (x4).toInt + ((1 : Int32)).toInt := ti_add (by omega) (by omega)) | (have a5218 := ti_rg (x4 + (1 : Int32)))
                          have b5219 := NI_g21 ci5211 (c := 0) (p := 48) rfl
                          have e5220 : (mz_gI t5209 0 48).toInt = (mz_gI q5126 0 48).toInt := by rw [E5210, gI_oth _ _ (by simp)]
                          have b5221 := NI_g22 ci5211 (c := 0) (p := 51) rfl
                          have e5222 : (mz_gI t5209 0 51).toInt = (mz_gI q5126 0 51).toInt := by rw [E5210, gI_oth _ _ (by simp)]
                          have b5223 := NI_13 ci5211 (c := 0) (p := 60) rfl
                          exact ih (x1 + (1 : Int32)) (x2 - (1 : Int32)) (x4 + (1 : Int32)) (x4 + (1 : Int32)) t5209 ci5211 (by omega) (by omega) (by omega) (by omega) (by omega) (by omega) (by omega) (by omega) (by omega) (by omega) (by omega) (by omega) (by omega)
                        · have g5224 := ti_nq h5207
                          refine Tp_if (fun h5225 => ?_) (fun h5225 => ?_)
                          · have g5226 := ti_l h5225
                            first | (have a5227 : (x2 - (1 : Int32)).toInt = (x2).toInt - ((1 : Int32)).toInt := ti_sub (by omega) (by omega)) | (have a5228 := ti_rg (x2 - (1 : Int32)))
                            unfold f_MO_readTexts_158
                            unfold f_MO_readTexts_159
                            refine Tp_gd (ti_b (by omega) (by omega)) ?_
                            refine Tp_le (fun t5229 E5230 => ?_)
                            have ci5231 := NI_p2 ci5133 E5230 rfl (by omega) (by omega)
                            have i5232 := ti_rg x1
                            first | (have a5233 : (x1 + (1 : Int32)).toInt = (x1).toInt + ((1 : Int32)).toInt := ti_add (by omega) (by omega)) | (have a5234 := ti_rg (x1 + (1 : Int32)))
                            first | (have a5235 : (x4 + (1 : Int32)).toInt = (x4).toInt + ((1 : Int32)).toInt := ti_add (by omega) (by omega)) | (have a5236 := ti_rg (x4 + (1 : Int32)))
                            have b5237 := NI_g21 ci5231 (c := 0) (p := 48) rfl
                            have e5238 : (mz_gI t5229 0 48).toInt = (mz_gI q5126 0 48).toInt := by rw [E5230, gI_oth _ _ (by simp)]
                            have b5239 := NI_g22 ci5231 (c := 0) (p := 51) rfl
                            have e5240 : (mz_gI t5229 0 51).toInt = (mz_gI q5126 0 51).toInt := by rw [E5230, gI_oth _ _ (by simp)]
                            have b5241 := NI_13 ci5231 (c := 0) (p := 60) rfl
                            exact ih (x1 + (1 : Int32)) (x2 - (1 : Int32)) (x4 + (1 : Int32)) (x4 + (1 : Int32)) t5229 ci5231 (by omega) (by omega) (by omega) (by omega) (by omega) (by omega) (by omega) (by omega) (by omega) (by omega) (by omega) (by omega) (by omega)
                          · have g5242 := ti_nl h5225
                            first | (have a5243 : (x2 - (1 : Int32)).toInt = (x2).toInt - ((1 : Int32)).toInt := ti_sub (by omega) (by omega)) | (have a5244 := ti_rg (x2 - (1 : Int32)))
                            unfold f_MO_readTexts_159
                            refine Tp_gd (ti_b (by omega) (by omega)) ?_
                            refine Tp_le (fun t5245 E5246 => ?_)
                            have ci5247 := NI_p2 ci5133 E5246 rfl (by omega) (by omega)
                            have i5248 := ti_rg x1
                            first | (have a5249 : (x1 + (1 : Int32)).toInt = (x1).toInt + ((1 : Int32)).toInt := ti_add (by omega) (by omega)) | (have a5250 := ti_rg (x1 + (1 : Int32)))
                            first | (have a5251 : (x4 + (1 : Int32)).toInt = (x4).toInt + ((1 : Int32)).toInt := ti_add (by omega) (by omega)) | (have a5252 := ti_rg (x4 + (1 : Int32)))
                            have b5253 := NI_g21 ci5247 (c := 0) (p := 48) rfl
                            have e5254 : (mz_gI t5245 0 48).toInt = (mz_gI q5126 0 48).toInt := by rw [E5246, gI_oth _ _ (by simp)]
                            have b5255 := NI_g22 ci5247 (c := 0) (p := 51) rfl
                            have e5256 : (mz_gI t5245 0 51).toInt = (mz_gI q5126 0 51).toInt := by rw [E5246, gI_oth _ _ (by simp)]
                            have b5257 := NI_13 ci5247 (c := 0) (p := 60) rfl
                            exact ih (x1 + (1 : Int32)) (x2 - (1 : Int32)) (x4 + (1 : Int32)) (x4 + (1 : Int32)) t5245 ci5247 (by omega) (by omega) (by omega) (by omega) (by omega) (by omega) (by omega) (by omega) (by omega) (by omega) (by omega) (by omega) (by omega)
                      · have g5258 := ti_nq h5204
                        have l5259 : ((41 : Int32)).toInt = 41 := rfl
                        unfold f_MO_readTexts_141
                        refine Tp_if (fun h5260 => ?_) (fun h5260 => ?_)
                        · have g5261 := ti_q h5260
                          unfold f_MO_readTexts_158
                          unfold f_MO_readTexts_159
                          refine Tp_gd (ti_b (by omega) (by omega)) ?_
                          refine Tp_le (fun t5262 E5263 => ?_)
                          have ci5264 := NI_p2 ci5133 E5263 rfl (by omega) (by omega)
                          have i5265 := ti_rg x1
                          first | (have a5266 : (x1 + (1 : Int32)).toInt = (x1).toInt + ((1 : Int32)).toInt := ti_add (by omega) (by omega)) | (have a5267 := ti_rg (x1 + (1 : Int32)))
                          first | (have a5268 : (x4 + (1 : Int32)).toInt = (x4).toInt + ((1 : Int32)).toInt := ti_add (by omega) (by omega)) | (have a5269 := ti_rg (x4 + (1 : Int32)))
                          have b5270 := NI_g21 ci5264 (c := 0) (p := 48) rfl
                          have e5271 : (mz_gI t5262 0 48).toInt = (mz_gI q5126 0 48).toInt := by rw [E5263, gI_oth _ _ (by simp)]
                          have b5272 := NI_g22 ci5264 (c := 0) (p := 51) rfl
                          have e5273 : (mz_gI t5262 0 51).toInt = (mz_gI q5126 0 51).toInt := by rw [E5263, gI_oth _ _ (by simp)]
                          have b5274 := NI_13 ci5264 (c := 0) (p := 60) rfl
                          exact ih (x1 + (1 : Int32)) x2 (x4 + (1 : Int32)) (x4 + (1 : Int32)) t5262 ci5264 (by omega) (by omega) (by omega) (by omega) (by omega) (by omega) (by omega) (by omega) (by omega) (by omega) (by omega) (by omega) (by omega)
                        · have g5275 := ti_nq h5260
                          refine Tp_if (fun h5276 => ?_) (fun h5276 => ?_)
                          · have g5277 := ti_l h5276
                            unfold f_MO_readTexts_158
                            unfold f_MO_readTexts_159
                            refine Tp_gd (ti_b (by omega) (by omega)) ?_
                            refine Tp_le (fun t5278 E5279 => ?_)
                            have ci5280 := NI_p2 ci5133 E5279 rfl (by omega) (by omega)
                            have i5281 := ti_rg x1
                            first | (have a5282 : (x1 + (1 : Int32)).toInt = (x1).toInt + ((1 : Int32)).toInt := ti_add (by omega) (by omega)) | (have a5283 := ti_rg (x1 + (1 : Int32)))
                            first | (have a5284 : (x4 + (1 : Int32)).toInt = (x4).toInt + ((1 : Int32)).toInt := ti_add (by omega) (by omega)) | (have a5285 := ti_rg (x4 + (1 : Int32)))
                            have b5286 := NI_g21 ci5280 (c := 0) (p := 48) rfl
                            have e5287 : (mz_gI t5278 0 48).toInt = (mz_gI q5126 0 48).toInt := by rw [E5279, gI_oth _ _ (by simp)]
                            have b5288 := NI_g22 ci5280 (c := 0) (p := 51) rfl
                            have e5289 : (mz_gI t5278 0 51).toInt = (mz_gI q5126 0 51).toInt := by rw [E5279, gI_oth _ _ (by simp)]
                            have b5290 := NI_13 ci5280 (c := 0) (p := 60) rfl
                            exact ih (x1 + (1 : Int32)) x2 (x4 + (1 : Int32)) (x4 + (1 : Int32)) t5278 ci5280 (by omega) (by omega) (by omega) (by omega) (by omega) (by omega) (by omega) (by omega) (by omega) (by omega) (by omega) (by omega) (by omega)
                          · have g5291 := ti_nl h5276
                            unfold f_MO_readTexts_159
                            refine Tp_gd (ti_b (by omega) (by omega)) ?_
                            refine Tp_le (fun t5292 E5293 => ?_)
                            have ci5294 := NI_p2 ci5133 E5293 rfl (by omega) (by omega)
                            have i5295 := ti_rg x1
                            first | (have a5296 : (x1 + (1 : Int32)).toInt = (x1).toInt + ((1 : Int32)).toInt := ti_add (by omega) (by omega)) | (have a5297 := ti_rg (x1 + (1 : Int32)))
                            first | (have a5298 : (x4 + (1 : Int32)).toInt = (x4).toInt + ((1 : Int32)).toInt := ti_add (by omega) (by omega)) | (have a5299 := ti_rg (x4 + (1 : Int32)))
                            have b5300 := NI_g21 ci5294 (c := 0) (p := 48) rfl
                            have e5301 : (mz_gI t5292 0 48).toInt = (mz_gI q5126 0 48).toInt := by rw [E5293, gI_oth _ _ (by simp)]
                            have b5302 := NI_g22 ci5294 (c := 0) (p := 51) rfl
                            have e5303 : (mz_gI t5292 0 51).toInt = (mz_gI q5126 0 51).toInt := by rw [E5293, gI_oth _ _ (by simp)]
                            have b5304 := NI_13 ci5294 (c := 0) (p := 60) rfl
                            exact ih (x1 + (1 : Int32)) x2 (x4 + (1 : Int32)) (x4 + (1 : Int32)) t5292 ci5294 (by omega) (by omega) (by omega) (by omega) (by omega) (by omega) (by omega) (by omega) (by omega) (by omega) (by omega) (by omega) (by omega)
                  · have g5305 := ti_nq h5119
                    unfold f_MO_readTexts_95
                    unfold f_MO_readTexts_96
                    refine Tp_gd (ti_b (by omega) (by omega)) ?_
                    refine Tp_le (fun t5306 E5307 => ?_)
                    have l5309 : (62 : Int32).toInt = 62 := rfl
                    have ci5308 := NI_p2 ci E5307 rfl (by omega) (by omega)
                    have i5312 := ti_rg x3
                    have b5313 := NI_g21 ci5308 (c := 0) (p := 48) rfl
                    have e5314 : (mz_gI t5306 0 48).toInt = (mz_gI t 0 48).toInt := by rw [E5307, gI_oth _ _ (by simp)]
                    have b5315 := NI_g22 ci5308 (c := 0) (p := 51) rfl
                    have e5316 : (mz_gI t5306 0 51).toInt = (mz_gI t 0 51).toInt := by rw [E5307, gI_oth _ _ (by simp)]
                    refine Tp_bi (s_MO_hold hn ci5308 (by omega) (by omega) (by omega) (by omega) (by omega) (t := t5306) (x1 := x3) (x2 := x4)) (fun q5310 h5311 => ?_)
                    obtain ⟨ci5317, p5318, p5319, p5320, p5321, p5322⟩ := h5311
                    have b5323 := NI_g24 ci5308 (c := 0) (p := 61) rfl
                    have e5324 : (mz_gI t5306 0 61).toInt = (mz_gI t 0 61).toInt := by rw [E5307, gI_oth _ _ (by simp)]
                    have b5325 := NI_g24 ci (c := 0) (p := 61) rfl
                    have b5326 := NI_g2 ci5308 (c := 0) (p := 62) rfl
                    have e5327 : (mz_gI t5306 0 62).toInt = ((0 : Int32)).toInt := by rw [E5307, gI_same]
                    have b5328 := NI_g21 ci5317 (c := 0) (p := 48) rfl
                    have b5329 := NI_g22 ci5317 (c := 0) (p := 51) rfl
                    have b5330 := NI_g24 ci5317 (c := 0) (p := 61) rfl
                    have b5331 := NI_g2 ci5317 (c := 0) (p := 62) rfl
                    unfold f_MO_readTexts_114
                    refine Tp_if (fun h5332 => ?_) (fun h5332 => ?_)
                    · have g5333 := ti_q h5332
                      have l5334 : ((40 : Int32)).toInt = 40 := rfl
                      unfold f_MO_readTexts_141
                      refine Tp_if (fun h5335 => ?_) (fun h5335 => ?_)
                      · have g5336 := ti_q h5335
                        unfold f_MO_readTexts_158
                        unfold f_MO_readTexts_159
                        refine Tp_gd (ti_b (by omega) (by omega)) ?_
                        refine Tp_le (fun t5337 E5338 => ?_)
                        have ci5339 := NI_p2 ci5317 E5338 rfl (by omega) (by omega)
                        have i5340 := ti_rg x1
                        have l5341 : ((1 : Int32)).toInt = 1 := rfl
                        first | (have a5342 : (x1 + (1 : Int32)).toInt = (x1).toInt + ((1 : Int32)).toInt := ti_add (by omega) (by omega)) | (have a5343 := ti_rg (x1 + (1 : Int32)))
                        first | (have a5344 : (x2 + (1 : Int32)).toInt = (x2).toInt + ((1 : Int32)).toInt := ti_add (by omega) (by omega)) | (have a5345 := ti_rg (x2 + (1 : Int32)))
                        first | (have a5346 : (x4 + (1 : Int32)).toInt = (x4).toInt + ((1 : Int32)).toInt := ti_add (by omega) (by omega)) | (have a5347 := ti_rg (x4 + (1 : Int32)))
                        have b5348 := NI_g21 ci5339 (c := 0) (p := 48) rfl
                        have e5349 : (mz_gI t5337 0 48).toInt = (mz_gI q5310 0 48).toInt := by rw [E5338, gI_oth _ _ (by simp)]
                        have b5350 := NI_g22 ci5339 (c := 0) (p := 51) rfl
                        have e5351 : (mz_gI t5337 0 51).toInt = (mz_gI q5310 0 51).toInt := by rw [E5338, gI_oth _ _ (by simp)]
                        have b5352 := NI_13 ci5339 (c := 0) (p := 60) rfl
                        exact ih (x1 + (1 : Int32)) (x2 + (1 : Int32)) (x4 + (1 : Int32)) (x4 + (1 : Int32)) t5337 ci5339 (by omega) (by omega) (by omega) (by omega) (by omega) (by omega) (by omega) (by omega) (by omega) (by omega) (by omega) (by omega) (by omega)
                      · have g5353 := ti_nq h5335
                        refine Tp_if (fun h5354 => ?_) (fun h5354 => ?_)
                        · have g5355 := ti_l h5354
                          have l5356 : ((1 : Int32)).toInt = 1 := rfl
                          first | (have a5357 : (x2 + (1 : Int32)).toInt = (x2).toInt + ((1 : Int32)).toInt := ti_add (by omega) (by omega)) | (have a5358 := ti_rg (x2 + (1 : Int32)))
                          unfold f_MO_readTexts_158
                          unfold f_MO_readTexts_159
                          refine Tp_gd (ti_b (by omega) (by omega)) ?_
                          refine Tp_le (fun t5359 E5360 => ?_)
                          have ci5361 := NI_p2 ci5317 E5360 rfl (by omega) (by omega)
                          have i5362 := ti_rg x1
                          first | (have a5363 : (x1 + (1 : Int32)).toInt = (x1).toInt + ((1 : Int32)).toInt := ti_add (by omega) (by omega)) | (have a5364 := ti_rg (x1 + (1 : Int32)))
                          first | (have a5365 : (x4 + (1 : Int32)).toInt = (x4).toInt + ((1 : Int32)).toInt := ti_add (by omega) (by omega)) | (have a5366 := ti_rg (x4 + (1 : Int32)))
                          have b5367 := NI_g21 ci5361 (c := 0) (p := 48) rfl
                          have e5368 : (mz_gI t5359 0 48).toInt = (mz_gI q5310 0 48).toInt := by rw [E5360, gI_oth _ _ (by simp)]
                          have b5369 := NI_g22 ci5361 (c := 0) (p := 51) rfl
                          have e5370 : (mz_gI t5359 0 51).toInt = (mz_gI q5310 0 51).toInt := by rw [E5360, gI_oth _ _ (by simp)]
                          have b5371 := NI_13 ci5361 (c := 0) (p := 60) rfl
                          exact ih (x1 + (1 : Int32)) (x2 + (1 : Int32)) (x4 + (1 : Int32)) (x4 + (1 : Int32)) t5359 ci5361 (by omega) (by omega) (by omega) (by omega) (by omega) (by omega) (by omega) (by omega) (by omega) (by omega) (by omega) (by omega) (by omega)
                        · have g5372 := ti_nl h5354
                          have l5373 : ((1 : Int32)).toInt = 1 := rfl
                          first | (have a5374 : (x2 + (1 : Int32)).toInt = (x2).toInt + ((1 : Int32)).toInt := ti_add (by omega) (by omega)) | (have a5375 := ti_rg (x2 + (1 : Int32)))
                          unfold f_MO_readTexts_159
                          refine Tp_gd (ti_b (by omega) (by omega)) ?_
                          refine Tp_le (fun t5376 E5377 => ?_)
                          have ci5378 := NI_p2 ci5317 E5377 rfl (by omega) (by omega)
                          have i5379 := ti_rg x1
                          first | (have a5380 : (x1 + (1 : Int32)).toInt = (x1).toInt + ((1 : Int32)).toInt := ti_add (by omega) (by omega)) | (have a5381 := ti_rg (x1 + (1 : Int32)))
                          first | (have a5382 : (x4 + (1 : Int32)).toInt = (x4).toInt + ((1 : Int32)).toInt := ti_add (by omega) (by omega)) | (have a5383 := ti_rg (x4 + (1 : Int32)))
                          have b5384 := NI_g21 ci5378 (c := 0) (p := 48) rfl
                          have e5385 : (mz_gI t5376 0 48).toInt = (mz_gI q5310 0 48).toInt := by rw [E5377, gI_oth _ _ (by simp)]
                          have b5386 := NI_g22 ci5378 (c := 0) (p := 51) rfl
                          have e5387 : (mz_gI t5376 0 51).toInt = (mz_gI q5310 0 51).toInt := by rw [E5377, gI_oth _ _ (by simp)]
                          have b5388 := NI_13 ci5378 (c := 0) (p := 60) rfl
                          exact ih (x1 + (1 : Int32)) (x2 + (1 : Int32)) (x4 + (1 : Int32)) (x4 + (1 : Int32)) t5376 ci5378 (by omega) (by omega) (by omega) (by omega) (by omega) (by omega) (by omega) (by omega) (by omega) (by omega) (by omega) (by omega) (by omega)
                    · have g5389 := ti_nq h5332
                      have l5390 : ((40 : Int32)).toInt = 40 := rfl
                      refine Tp_if (fun h5391 => ?_) (fun h5391 => ?_)
                      · have g5392 := ti_q h5391
                        have l5393 : ((41 : Int32)).toInt = 41 := rfl
                        unfold f_MO_readTexts_141
                        refine Tp_if (fun h5394 => ?_) (fun h5394 => ?_)
                        · have g5395 := ti_q h5394
                          unfold f_MO_readTexts_158
                          unfold f_MO_readTexts_159
                          refine Tp_gd (ti_b (by omega) (by omega)) ?_
                          refine Tp_le (fun t5396 E5397 => ?_)
                          have ci5398 := NI_p2 ci5317 E5397 rfl (by omega) (by omega)
                          have i5399 := ti_rg x1
                          have l5400 : ((1 : Int32)).toInt = 1 := rfl
                          first | (have a5401 : (x1 + (1 : Int32)).toInt = (x1).toInt + ((1 : Int32)).toInt := ti_add (by omega) (by omega)) | (have a5402 := ti_rg (x1 + (1 : Int32)))
                          first | (have a5403 : (x2 - (1 : Int32)).toInt = (x2).toInt - ((1 : Int32)).toInt := ti_sub (by omega) (by omega)) | (have a5404 := ti_rg (x2 - (1 : Int32)))
                          first | (have a5405 : (x4 + (1 : Int32)).toInt = (x4).toInt + ((1 : Int32)).toInt := ti_add (by omega) (by omega)) | (have a5406 := ti_rg (x4 + (1 : Int32)))
                          have b5407 := NI_g21 ci5398 (c := 0) (p := 48) rfl
                          have e5408 : (mz_gI t5396 0 48).toInt = (mz_gI q5310 0 48).toInt := by rw [E5397, gI_oth _ _ (by simp)]
                          have b5409 := NI_g22 ci5398 (c := 0) (p := 51) rfl
                          have e5410 : (mz_gI t5396 0 51).toInt = (mz_gI q5310 0 51).toInt := by rw [E5397, gI_oth _ _ (by simp)]
                          have b5411 := NI_13 ci5398 (c := 0) (p := 60) rfl
                          exact ih (x1 + (1 : Int32)) (x2 - (1 : Int32)) (x4 + (1 : Int32)) (x4 + (1 : Int32)) t5396 ci5398 (by omega) (by omega) (by omega) (by omega) (by omega) (by omega) (by omega) (by omega) (by omega) (by omega) (by omega) (by omega) (by omega)
                        · have g5412 := ti_nq h5394
                          refine Tp_if (fun h5413 => ?_) (fun h5413 => ?_)
                          · have g5414 := ti_l h5413
                            have l5415 : ((1 : Int32)).toInt = 1 := rfl
                            first | (have a5416 : (x2 - (1 : Int32)).toInt = (x2).toInt - ((1 : Int32)).toInt := ti_sub (by omega) (by omega)) | (have a5417 := ti_rg (x2 - (1 : Int32)))
                            unfold f_MO_readTexts_158
                            unfold f_MO_readTexts_159
                            refine Tp_gd (ti_b (by omega) (by omega)) ?_
                            refine Tp_le (fun t5418 E5419 => ?_)
                            have ci5420 := NI_p2 ci5317 E5419 rfl (by omega) (by omega)
                            have i5421 := ti_rg x1
                            first | (have a5422 : (x1 + (1 : Int32)).toInt = (x1).toInt + ((1 : Int32)).toInt := ti_add (by omega) (by omega)) | (have a5423 := ti_rg (x1 + (1 : Int32)))
                            first | (have a5424 : (x4 + (1 : Int32)).toInt = (x4).toInt + ((1 : Int32)).toInt := ti_add (by omega) (by omega)) | (have a5425 := ti_rg (x4 + (1 : Int32)))
                            have b5426 := NI_g21 ci5420 (c := 0) (p := 48) rfl
                            have e5427 : (mz_gI t5418 0 48).toInt = (mz_gI q5310 0 48).toInt := by rw [E5419, gI_oth _ _ (by simp)]
                            have b5428 := NI_g22 ci5420 (c := 0) (p := 51) rfl
                            have e5429 : (mz_gI t5418 0 51).toInt = (mz_gI q5310 0 51).toInt := by rw [E5419, gI_oth _ _ (by simp)]
                            have b5430 := NI_13 ci5420 (c := 0) (p := 60) rfl
                            exact ih (x1 + (1 : Int32)) (x2 - (1 : Int32)) (x4 + (1 : Int32)) (x4 + (1 : Int32)) t5418 ci5420 (by omega) (by omega) (by omega) (by omega) (by omega) (by omega) (by omega) (by omega) (by omega) (by omega) (by omega) (by omega) (by omega)
                          · have g5431 := ti_nl h5413
                            have l5432 : ((1 : Int32)).toInt = 1 := rfl
                            first | (have a5433 : (x2 - (1 : Int32)).toInt = (x2).toInt - ((1 : Int32)).toInt := ti_sub (by omega) (by omega)) | (have a5434 := ti_rg (x2 - (1 : Int32)))
                            unfold f_MO_readTexts_159
                            refine Tp_gd (ti_b (by omega) (by omega)) ?_
                            refine Tp_le (fun t5435 E5436 => ?_)
                            have ci5437 := NI_p2 ci5317 E5436 rfl (by omega) (by omega)
                            have i5438 := ti_rg x1
                            first | (have a5439 : (x1 + (1 : Int32)).toInt = (x1).toInt + ((1 : Int32)).toInt := ti_add (by omega) (by omega)) | (have a5440 := ti_rg (x1 + (1 : Int32)))
                            first | (have a5441 : (x4 + (1 : Int32)).toInt = (x4).toInt + ((1 : Int32)).toInt := ti_add (by omega) (by omega)) | (have a5442 := ti_rg (x4 + (1 : Int32)))
                            have b5443 := NI_g21 ci5437 (c := 0) (p := 48) rfl
                            have e5444 : (mz_gI t5435 0 48).toInt = (mz_gI q5310 0 48).toInt := by rw [E5436, gI_oth _ _ (by simp)]
                            have b5445 := NI_g22 ci5437 (c := 0) (p := 51) rfl
                            have e5446 : (mz_gI t5435 0 51).toInt = (mz_gI q5310 0 51).toInt := by rw [E5436, gI_oth _ _ (by simp)]
                            have b5447 := NI_13 ci5437 (c := 0) (p := 60) rfl
                            exact ih (x1 + (1 : Int32)) (x2 - (1 : Int32)) (x4 + (1 : Int32)) (x4 + (1 : Int32)) t5435 ci5437 (by omega) (by omega) (by omega) (by omega) (by omega) (by omega) (by omega) (by omega) (by omega) (by omega) (by omega) (by omega) (by omega)
                      · have g5448 := ti_nq h5391
                        have l5449 : ((41 : Int32)).toInt = 41 := rfl
                        unfold f_MO_readTexts_141
                        refine Tp_if (fun h5450 => ?_) (fun h5450 => ?_)
                        · have g5451 := ti_q h5450
                          unfold f_MO_readTexts_158
                          unfold f_MO_readTexts_159
                          refine Tp_gd (ti_b (by omega) (by omega)) ?_
                          refine Tp_le (fun t5452 E5453 => ?_)
                          have ci5454 := NI_p2 ci5317 E5453 rfl (by omega) (by omega)
                          have i5455 := ti_rg x1
                          have l5456 : ((1 : Int32)).toInt = 1 := rfl
                          first | (have a5457 : (x1 + (1 : Int32)).toInt = (x1).toInt + ((1 : Int32)).toInt := ti_add (by omega) (by omega)) | (have a5458 := ti_rg (x1 + (1 : Int32)))
                          first | (have a5459 : (x4 + (1 : Int32)).toInt = (x4).toInt + ((1 : Int32)).toInt := ti_add (by omega) (by omega)) | (have a5460 := ti_rg (x4 + (1 : Int32)))
                          have b5461 := NI_g21 ci5454 (c := 0) (p := 48) rfl
                          have e5462 : (mz_gI t5452 0 48).toInt = (mz_gI q5310 0 48).toInt := by rw [E5453, gI_oth _ _ (by simp)]
                          have b5463 := NI_g22 ci5454 (c := 0) (p := 51) rfl
                          have e5464 : (mz_gI t5452 0 51).toInt = (mz_gI q5310 0 51).toInt := by rw [E5453, gI_oth _ _ (by simp)]
                          have b5465 := NI_13 ci5454 (c := 0) (p := 60) rfl
                          exact ih (x1 + (1 : Int32)) x2 (x4 + (1 : Int32)) (x4 + (1 : Int32)) t5452 ci5454 (by omega) (by omega) (by omega) (by omega) (by omega) (by omega) (by omega) (by omega) (by omega) (by omega) (by omega) (by omega) (by omega)
                        · have g5466 := ti_nq h5450
                          refine Tp_if (fun h5467 => ?_) (fun h5467 => ?_)
                          · have g5468 := ti_l h5467
                            unfold f_MO_readTexts_158
                            unfold f_MO_readTexts_159
                            refine Tp_gd (ti_b (by omega) (by omega)) ?_
                            refine Tp_le (fun t5469 E5470 => ?_)
                            have ci5471 := NI_p2 ci5317 E5470 rfl (by omega) (by omega)
                            have i5472 := ti_rg x1
                            have l5473 : ((1 : Int32)).toInt = 1 := rfl
                            first | (have a5474 : (x1 + (1 : Int32)).toInt = (x1).toInt + ((1 : Int32)).toInt := ti_add (by omega) (by omega)) | (have a5475 := ti_rg (x1 + (1 : Int32)))
                            first | (have a5476 : (x4 + (1 : Int32)).toInt = (x4).toInt + ((1 : Int32)).toInt := ti_add (by omega) (by omega)) | (have a5477 := ti_rg (x4 + (1 : Int32)))
                            have b5478 := NI_g21 ci5471 (c := 0) (p := 48) rfl
                            have e5479 : (mz_gI t5469 0 48).toInt = (mz_gI q5310 0 48).toInt := by rw [E5470, gI_oth _ _ (by simp)]
                            have b5480 := NI_g22 ci5471 (c := 0) (p := 51) rfl
                            have e5481 : (mz_gI t5469 0 51).toInt = (mz_gI q5310 0 51).toInt := by rw [E5470, gI_oth _ _ (by simp)]
                            have b5482 := NI_13 ci5471 (c := 0) (p := 60) rfl
                            exact ih (x1 + (1 : Int32)) x2 (x4 + (1 : Int32)) (x4 + (1 : Int32)) t5469 ci5471 (by omega) (by omega) (by omega) (by omega) (by omega) (by omega) (by omega) (by omega) (by omega) (by omega) (by omega) (by omega) (by omega)
                          · have g5483 := ti_nl h5467
                            unfold f_MO_readTexts_159
                            have l5484 : ((1 : Int32)).toInt = 1 := rfl
                            refine Tp_gd (ti_b (by omega) (by omega)) ?_
                            refine Tp_le (fun t5485 E5486 => ?_)
                            have ci5487 := NI_p2 ci5317 E5486 rfl (by omega) (by omega)
                            have i5488 := ti_rg x1
                            first | (have a5489 : (x1 + (1 : Int32)).toInt = (x1).toInt + ((1 : Int32)).toInt := ti_add (by omega) (by omega)) | (have a5490 := ti_rg (x1 + (1 : Int32)))
                            first | (have a5491 : (x4 + (1 : Int32)).toInt = (x4).toInt + ((1 : Int32)).toInt := ti_add (by omega) (by omega)) | (have a5492 := ti_rg (x4 + (1 : Int32)))
                            have b5493 := NI_g21 ci5487 (c := 0) (p := 48) rfl
                            have e5494 : (mz_gI t5485 0 48).toInt = (mz_gI q5310 0 48).toInt := by rw [E5486, gI_oth _ _ (by simp)]
                            have b5495 := NI_g22 ci5487 (c := 0) (p := 51) rfl
                            have e5496 : (mz_gI t5485 0 51).toInt = (mz_gI q5310 0 51).toInt := by rw [E5486, gI_oth _ _ (by simp)]
                            have b5497 := NI_13 ci5487 (c := 0) (p := 60) rfl
                            exact ih (x1 + (1 : Int32)) x2 (x4 + (1 : Int32)) (x4 + (1 : Int32)) t5485 ci5487 (by omega) (by omega) (by omega) (by omega) (by omega) (by omega) (by omega) (by omega) (by omega) (by omega) (by omega) (by omega) (by omega)
        · have g5498 := ti_nq h3252
          have b5499 := NI_13 ci (c := 43) (p := x4.toNatClampNeg) rfl
          have i5500 := ti_rg (mz_gI s 43 x4.toNatClampNeg)
          have l5501 : ((44 : Int32)).toInt = 44 := rfl
          unfold f_MO_readTexts_71
          unfold f_MO_readTexts_72
          refine Tp_if (fun h5502 => ?_) (fun h5502 => ?_)
          · have g5503 := ti_q h5502
            have l5504 : ((0 : Int32)).toInt = 0 := rfl
            have l5505 : (0 : Int32).toInt = 0 := rfl
            unfold f_MO_readTexts_114
            refine Tp_if (fun h5506 => ?_) (fun h5506 => ?_)
            · have g5507 := ti_q h5506
              have l5508 : ((40 : Int32)).toInt = 40 := rfl
              unfold f_MO_readTexts_141
              refine Tp_if (fun h5509 => ?_) (fun h5509 => ?_)
              · have g5510 := ti_q h5509
                have b5511 := NI_g2 ci (c := 0) (p := 62) rfl
                unfold f_MO_readTexts_158
                unfold f_MO_readTexts_159
                refine Tp_gd (ti_b (by omega) (by omega)) ?_
                refine Tp_le (fun t5512 E5513 => ?_)
                have l5515 : (62 : Int32).toInt = 62 := rfl
                have ci5514 := NI_p2 ci E5513 rfl (by omega) (by omega)
                have i5516 := ti_rg x1
                have i5517 := ti_rg x2
                have l5518 : ((1 : Int32)).toInt = 1 := rfl
                first | (have a5519 : (x2 + (1 : Int32)).toInt = (x2).toInt + ((1 : Int32)).toInt := ti_add (by omega) (by omega)) | (have a5520 := ti_rg (x2 + (1 : Int32)))
                have i5521 := ti_rg x3
                first | (have a5522 : (x4 + (1 : Int32)).toInt = (x4).toInt + ((1 : Int32)).toInt := ti_add (by omega) (by omega)) | (have a5523 := ti_rg (x4 + (1 : Int32)))
                have b5524 := NI_g21 ci5514 (c := 0) (p := 48) rfl
                have e5525 : (mz_gI t5512 0 48).toInt = (mz_gI t 0 48).toInt := by rw [E5513, gI_oth _ _ (by simp)]
                have b5526 := NI_g22 ci5514 (c := 0) (p := 51) rfl
                have e5527 : (mz_gI t5512 0 51).toInt = (mz_gI t 0 51).toInt := by rw [E5513, gI_oth _ _ (by simp)]
                have b5528 := NI_13 ci5514 (c := 0) (p := 60) rfl
                exact ih x1 (x2 + (1 : Int32)) x3 (x4 + (1 : Int32)) t5512 ci5514 (by omega) (by omega) (by omega) (by omega) (by omega) (by omega) (by omega) (by omega) (by omega) (by omega) (by omega) (by omega) (by omega)
              · have g5529 := ti_nq h5509
                have b5530 := NI_g2 ci (c := 0) (p := 62) rfl
                refine Tp_if (fun h5531 => ?_) (fun h5531 => ?_)
                · have g5532 := ti_l h5531
                  have i5533 := ti_rg x2
                  have l5534 : ((1 : Int32)).toInt = 1 := rfl
                  first | (have a5535 : (x2 + (1 : Int32)).toInt = (x2).toInt + ((1 : Int32)).toInt := ti_add (by omega) (by omega)) | (have a5536 := ti_rg (x2 + (1 : Int32)))
                  unfold f_MO_readTexts_158
                  unfold f_MO_readTexts_159
                  refine Tp_gd (ti_b (by omega) (by omega)) ?_
                  refine Tp_le (fun t5537 E5538 => ?_)
                  have l5540 : (62 : Int32).toInt = 62 := rfl
                  have ci5539 := NI_p2 ci E5538 rfl (by omega) (by omega)
                  have i5541 := ti_rg x1
                  have i5542 := ti_rg x3
                  first | (have a5543 : (x4 + (1 : Int32)).toInt = (x4).toInt + ((1 : Int32)).toInt := ti_add (by omega) (by omega)) | (have a5544 := ti_rg (x4 + (1 : Int32)))
                  have b5545 := NI_g21 ci5539 (c := 0) (p := 48) rfl
                  have e5546 : (mz_gI t5537 0 48).toInt = (mz_gI t 0 48).toInt := by rw [E5538, gI_oth _ _ (by simp)]
                  have b5547 := NI_g22 ci5539 (c := 0) (p := 51) rfl
                  have e5548 : (mz_gI t5537 0 51).toInt = (mz_gI t 0 51).toInt := by rw [E5538, gI_oth _ _ (by simp)]
                  have b5549 := NI_13 ci5539 (c := 0) (p := 60) rfl
                  exact ih x1 (x2 + (1 : Int32)) x3 (x4 + (1 : Int32)) t5537 ci5539 (by omega) (by omega) (by omega) (by omega) (by omega) (by omega) (by omega) (by omega) (by omega) (by omega) (by omega) (by omega) (by omega)
                · have g5550 := ti_nl h5531
                  have i5551 := ti_rg x2
                  have l5552 : ((1 : Int32)).toInt = 1 := rfl
                  first | (have a5553 : (x2 + (1 : Int32)).toInt = (x2).toInt + ((1 : Int32)).toInt := ti_add (by omega) (by omega)) | (have a5554 := ti_rg (x2 + (1 : Int32)))
                  unfold f_MO_readTexts_159
                  refine Tp_gd (ti_b (by omega) (by omega)) ?_
                  refine Tp_le (fun t5555 E5556 => ?_)
                  have l5558 : (62 : Int32).toInt = 62 := rfl
                  have ci5557 := NI_p2 ci E5556 rfl (by omega) (by omega)
                  have i5559 := ti_rg x1
                  have i5560 := ti_rg x3
                  first | (have a5561 : (x4 + (1 : Int32)).toInt = (x4).toInt + ((1 : Int32)).toInt := ti_add (by omega) (by omega)) | (have a5562 := ti_rg (x4 + (1 : Int32)))
                  have b5563 := NI_g21 ci5557 (c := 0) (p := 48) rfl
                  have e5564 : (mz_gI t5555 0 48).toInt = (mz_gI t 0 48).toInt := by rw [E5556, gI_oth _ _ (by simp)]
                  have b5565 := NI_g22 ci5557 (c := 0) (p := 51) rfl
                  have e5566 : (mz_gI t5555 0 51).toInt = (mz_gI t 0 51).toInt := by rw [E5556, gI_oth _ _ (by simp)]
                  have b5567 := NI_13 ci5557 (c := 0) (p := 60) rfl
                  exact ih x1 (x2 + (1 : Int32)) x3 (x4 + (1 : Int32)) t5555 ci5557 (by omega) (by omega) (by omega) (by omega) (by omega) (by omega) (by omega) (by omega) (by omega) (by omega) (by omega) (by omega) (by omega)
            · have g5568 := ti_nq h5506
              have l5569 : ((40 : Int32)).toInt = 40 := rfl
              refine Tp_if (fun h5570 => ?_) (fun h5570 => ?_)
              · have g5571 := ti_q h5570
                have l5572 : ((41 : Int32)).toInt = 41 := rfl
                unfold f_MO_readTexts_141
                refine Tp_if (fun h5573 => ?_) (fun h5573 => ?_)
                · have g5574 := ti_q h5573
                  have b5575 := NI_g2 ci (c := 0) (p := 62) rfl
                  unfold f_MO_readTexts_158
                  unfold f_MO_readTexts_159
                  refine Tp_gd (ti_b (by omega) (by omega)) ?_
                  refine Tp_le (fun t5576 E5577 => ?_)
                  have l5579 : (62 : Int32).toInt = 62 := rfl
                  have ci5578 := NI_p2 ci E5577 rfl (by omega) (by omega)
                  have i5580 := ti_rg x1
                  have i5581 := ti_rg x2
                  have l5582 : ((1 : Int32)).toInt = 1 := rfl
                  first | (have a5583 : (x2 - (1 : Int32)).toInt = (x2).toInt - ((1 : Int32)).toInt := ti_sub (by omega) (by omega)) | (have a5584 := ti_rg (x2 - (1 : Int32)))
                  have i5585 := ti_rg x3
                  first | (have a5586 : (x4 + (1 : Int32)).toInt = (x4).toInt + ((1 : Int32)).toInt := ti_add (by omega) (by omega)) | (have a5587 := ti_rg (x4 + (1 : Int32)))
                  have b5588 := NI_g21 ci5578 (c := 0) (p := 48) rfl
                  have e5589 : (mz_gI t5576 0 48).toInt = (mz_gI t 0 48).toInt := by rw [E5577, gI_oth _ _ (by simp)]
                  have b5590 := NI_g22 ci5578 (c := 0) (p := 51) rfl
                  have e5591 : (mz_gI t5576 0 51).toInt = (mz_gI t 0 51).toInt := by rw [E5577, gI_oth _ _ (by simp)]
                  have b5592 := NI_13 ci5578 (c := 0) (p := 60) rfl
                  exact ih x1 (x2 - (1 : Int32)) x3 (x4 + (1 : Int32)) t5576 ci5578 (by omega) (by omega) (by omega) (by omega) (by omega) (by omega) (by omega) (by omega) (by omega) (by omega) (by omega) (by omega) (by omega)
                · have g5593 := ti_nq h5573
                  have b5594 := NI_g2 ci (c := 0) (p := 62) rfl
                  refine Tp_if (fun h5595 => ?_) (fun h5595 => ?_)
                  · have g5596 := ti_l h5595
                    have i5597 := ti_rg x2
                    have l5598 : ((1 : Int32)).toInt = 1 := rfl
                    first | (have a5599 : (x2 - (1 : Int32)).toInt = (x2).toInt - ((1 : Int32)).toInt := ti_sub (by omega) (by omega)) | (have a5600 := ti_rg (x2 - (1 : Int32)))
                    unfold f_MO_readTexts_158
                    unfold f_MO_readTexts_159
                    refine Tp_gd (ti_b (by omega) (by omega)) ?_
                    refine Tp_le (fun t5601 E5602 => ?_)
                    have l5604 : (62 : Int32).toInt = 62 := rfl
                    have ci5603 := NI_p2 ci E5602 rfl (by omega) (by omega)
                    have i5605 := ti_rg x1
                    have i5606 := ti_rg x3
                    first | (have a5607 : (x4 + (1 : Int32)).toInt = (x4).toInt + ((1 : Int32)).toInt := ti_add (by omega) (by omega)) | (have a5608 := ti_rg (x4 + (1 : Int32)))
                    have b5609 := NI_g21 ci5603 (c := 0) (p := 48) rfl
                    have e5610 : (mz_gI t5601 0 48).toInt = (mz_gI t 0 48).toInt := by rw [E5602, gI_oth _ _ (by simp)]
                    have b5611 := NI_g22 ci5603 (c := 0) (p := 51) rfl
                    have e5612 : (mz_gI t5601 0 51).toInt = (mz_gI t 0 51).toInt := by rw [E5602, gI_oth _ _ (by simp)]
                    have b5613 := NI_13 ci5603 (c := 0) (p := 60) rfl
                    exact ih x1 (x2 - (1 : Int32)) x3 (x4 + (1 : Int32)) t5601 ci5603 (by omega) (by omega) (by omega) (by omega) (by omega) (by omega) (by omega) (by omega) (by omega) (by omega) (by omega) (by omega) (by omega)
                  · have g5614 := ti_nl h5595
                    have i5615 := ti_rg x2
                    have l5616 : ((1 : Int32)).toInt = 1 := rfl
                    first | (have a5617 : (x2 - (1 : Int32)).toInt = (x2).toInt - ((1 : Int32)).toInt := ti_sub (by omega) (by omega)) | (have a5618 := ti_rg (x2 - (1 : Int32)))
                    unfold f_MO_readTexts_159
                    refine Tp_gd (ti_b (by omega) (by omega)) ?_
                    refine Tp_le (fun t5619 E5620 => ?_)
                    have l5622 : (62 : Int32).toInt = 62 := rfl
                    have ci5621 := NI_p2 ci E5620 rfl (by omega) (by omega)
                    have i5623 := ti_rg x1
                    have i5624 := ti_rg x3
                    first | (have a5625 : (x4 + (1 : Int32)).toInt = (x4).toInt + ((1 : Int32)).toInt := ti_add (by omega) (by omega)) | (have a5626 := ti_rg (x4 + (1 : Int32)))
                    have b5627 := NI_g21 ci5621 (c := 0) (p := 48) rfl
                    have e5628 : (mz_gI t5619 0 48).toInt = (mz_gI t 0 48).toInt := by rw [E5620, gI_oth _ _ (by simp)]
                    have b5629 := NI_g22 ci5621 (c := 0) (p := 51) rfl
                    have e5630 : (mz_gI t5619 0 51).toInt = (mz_gI t 0 51).toInt := by rw [E5620, gI_oth _ _ (by simp)]
                    have b5631 := NI_13 ci5621 (c := 0) (p := 60) rfl
                    exact ih x1 (x2 - (1 : Int32)) x3 (x4 + (1 : Int32)) t5619 ci5621 (by omega) (by omega) (by omega) (by omega) (by omega) (by omega) (by omega) (by omega) (by omega) (by omega) (by omega) (by omega) (by omega)
              · have g5632 := ti_nq h5570
                have l5633 : ((41 : Int32)).toInt = 41 := rfl
                unfold f_MO_readTexts_141
                refine Tp_if (fun h5634 => ?_) (fun h5634 => ?_)
                · have g5635 := ti_q h5634
                  have b5636 := NI_g2 ci (c := 0) (p := 62) rfl
                  unfold f_MO_readTexts_158
                  unfold f_MO_readTexts_159
                  refine Tp_gd (ti_b (by omega) (by omega)) ?_
                  refine Tp_le (fun t5637 E5638 => ?_)
                  have l5640 : (62 : Int32).toInt = 62 := rfl
                  have ci5639 := NI_p2 ci E5638 rfl (by omega) (by omega)
                  have i5641 := ti_rg x1
                  have i5642 := ti_rg x2
                  have i5643 := ti_rg x3
                  have l5644 : ((1 : Int32)).toInt = 1 := rfl
                  first | (have a5645 : (x4 + (1 : Int32)).toInt = (x4).toInt + ((1 : Int32)).toInt := ti_add (by omega) (by omega)) | (have a5646 := ti_rg (x4 + (1 : Int32)))
                  have b5647 := NI_g21 ci5639 (c := 0) (p := 48) rfl
                  have e5648 : (mz_gI t5637 0 48).toInt = (mz_gI t 0 48).toInt := by rw [E5638, gI_oth _ _ (by simp)]
                  have b5649 := NI_g22 ci5639 (c := 0) (p := 51) rfl
                  have e5650 : (mz_gI t5637 0 51).toInt = (mz_gI t 0 51).toInt := by rw [E5638, gI_oth _ _ (by simp)]
                  have b5651 := NI_13 ci5639 (c := 0) (p := 60) rfl
                  exact ih x1 x2 x3 (x4 + (1 : Int32)) t5637 ci5639 (by omega) (by omega) (by omega) (by omega) (by omega) (by omega) (by omega) (by omega) (by omega) (by omega) (by omega) (by omega) (by omega)
                · have g5652 := ti_nq h5634
                  have b5653 := NI_g2 ci (c := 0) (p := 62) rfl
                  refine Tp_if (fun h5654 => ?_) (fun h5654 => ?_)
                  · have g5655 := ti_l h5654
                    have i5656 := ti_rg x2
                    unfold f_MO_readTexts_158
                    unfold f_MO_readTexts_159
                    refine Tp_gd (ti_b (by omega) (by omega)) ?_
                    refine Tp_le (fun t5657 E5658 => ?_)
                    have l5660 : (62 : Int32).toInt = 62 := rfl
                    have ci5659 := NI_p2 ci E5658 rfl (by omega) (by omega)
                    have i5661 := ti_rg x1
                    have i5662 := ti_rg x3
                    have l5663 : ((1 : Int32)).toInt = 1 := rfl
                    first | (have a5664 : (x4 + (1 : Int32)).toInt = (x4).toInt + ((1 : Int32)).toInt := ti_add (by omega) (by omega)) | (have a5665 := ti_rg (x4 + (1 : Int32)))
                    have b5666 := NI_g21 ci5659 (c := 0) (p := 48) rfl
                    have e5667 : (mz_gI t5657 0 48).toInt = (mz_gI t 0 48).toInt := by rw [E5658, gI_oth _ _ (by simp)]
                    have b5668 := NI_g22 ci5659 (c := 0) (p := 51) rfl
                    have e5669 : (mz_gI t5657 0 51).toInt = (mz_gI t 0 51).toInt := by rw [E5658, gI_oth _ _ (by simp)]
                    have b5670 := NI_13 ci5659 (c := 0) (p := 60) rfl
                    exact ih x1 x2 x3 (x4 + (1 : Int32)) t5657 ci5659 (by omega) (by omega) (by omega) (by omega) (by omega) (by omega) (by omega) (by omega) (by omega) (by omega) (by omega) (by omega) (by omega)
                  · have g5671 := ti_nl h5654
                    have i5672 := ti_rg x2
                    unfold f_MO_readTexts_159
                    have l5673 : ((1 : Int32)).toInt = 1 := rfl
                    refine Tp_gd (ti_b (by omega) (by omega)) ?_
                    refine Tp_le (fun t5674 E5675 => ?_)
                    have l5677 : (62 : Int32).toInt = 62 := rfl
                    have ci5676 := NI_p2 ci E5675 rfl (by omega) (by omega)
                    have i5678 := ti_rg x1
                    have i5679 := ti_rg x3
                    first | (have a5680 : (x4 + (1 : Int32)).toInt = (x4).toInt + ((1 : Int32)).toInt := ti_add (by omega) (by omega)) | (have a5681 := ti_rg (x4 + (1 : Int32)))
                    have b5682 := NI_g21 ci5676 (c := 0) (p := 48) rfl
                    have e5683 : (mz_gI t5674 0 48).toInt = (mz_gI t 0 48).toInt := by rw [E5675, gI_oth _ _ (by simp)]
                    have b5684 := NI_g22 ci5676 (c := 0) (p := 51) rfl
                    have e5685 : (mz_gI t5674 0 51).toInt = (mz_gI t 0 51).toInt := by rw [E5675, gI_oth _ _ (by simp)]
                    have b5686 := NI_13 ci5676 (c := 0) (p := 60) rfl
                    exact ih x1 x2 x3 (x4 + (1 : Int32)) t5674 ci5676 (by omega) (by omega) (by omega) (by omega) (by omega) (by omega) (by omega) (by omega) (by omega) (by omega) (by omega) (by omega) (by omega)
          · have g5687 := ti_nq h5502
            have l5688 : ((0 : Int32)).toInt = 0 := rfl
            have l5689 : (0 : Int32).toInt = 0 := rfl
            refine Tp_if (fun h5690 => ?_) (fun h5690 => ?_)
            · have g5691 := ti_q h5690
              have b5692 := NI_g2 ci (c := 0) (p := 62) rfl
              unfold f_MO_readTexts_95
              unfold f_MO_readTexts_96
              refine Tp_gd (ti_b (by omega) (by omega)) ?_
              refine Tp_le (fun t5693 E5694 => ?_)
              have l5696 : (62 : Int32).toInt = 62 := rfl
              have ci5695 := NI_p2 ci E5694 rfl (by omega) (by omega)
              have i5699 := ti_rg x3
              have b5700 := NI_g21 ci5695 (c := 0) (p := 48) rfl
              have e5701 : (mz_gI t5693 0 48).toInt = (mz_gI t 0 48).toInt := by rw [E5694, gI_oth _ _ (by simp)]
              have b5702 := NI_g22 ci5695 (c := 0) (p := 51) rfl
              have e5703 : (mz_gI t5693 0 51).toInt = (mz_gI t 0 51).toInt := by rw [E5694, gI_oth _ _ (by simp)]
              refine Tp_bi (s_MO_hold hn ci5695 (by omega) (by omega) (by omega) (by omega) (by omega) (t := t5693) (x1 := x3) (x2 := x4)) (fun q5697 h5698 => ?_)
              obtain ⟨ci5704, p5705, p5706, p5707, p5708, p5709⟩ := h5698
              have b5710 := NI_g24 ci5695 (c := 0) (p := 61) rfl
              have e5711 : (mz_gI t5693 0 61).toInt = (mz_gI t 0 61).toInt := by rw [E5694, gI_oth _ _ (by simp)]
              have b5712 := NI_g24 ci (c := 0) (p := 61) rfl
              have b5713 := NI_g2 ci5695 (c := 0) (p := 62) rfl
              have e5714 : (mz_gI t5693 0 62).toInt = ((0 : Int32)).toInt := by rw [E5694, gI_same]
              have b5715 := NI_g21 ci5704 (c := 0) (p := 48) rfl
              have b5716 := NI_g22 ci5704 (c := 0) (p := 51) rfl
              have b5717 := NI_g24 ci5704 (c := 0) (p := 61) rfl
              have b5718 := NI_g2 ci5704 (c := 0) (p := 62) rfl
              unfold f_MO_readTexts_114
              refine Tp_if (fun h5719 => ?_) (fun h5719 => ?_)
              · have g5720 := ti_q h5719
                have l5721 : ((40 : Int32)).toInt = 40 := rfl
                unfold f_MO_readTexts_141
                refine Tp_if (fun h5722 => ?_) (fun h5722 => ?_)
                · have g5723 := ti_q h5722
                  unfold f_MO_readTexts_158
                  unfold f_MO_readTexts_159
                  refine Tp_gd (ti_b (by omega) (by omega)) ?_
                  refine Tp_le (fun t5724 E5725 => ?_)
                  have ci5726 := NI_p2 ci5704 E5725 rfl (by omega) (by omega)
                  have i5727 := ti_rg x1
                  have l5728 : ((1 : Int32)).toInt = 1 := rfl
                  first | (have a5729 : (x1 + (1 : Int32)).toInt = (x1).toInt + ((1 : Int32)).toInt := ti_add (by omega) (by omega)) | (have a5730 := ti_rg (x1 + (1 : Int32)))
                  have i5731 := ti_rg x2
                  first | (have a5732 : (x2 + (1 : Int32)).toInt = (x2).toInt + ((1 : Int32)).toInt := ti_add (by omega) (by omega)) | (have a5733 := ti_rg (x2 + (1 : Int32)))
                  first | (have a5734 : (x4 + (1 : Int32)).toInt = (x4).toInt + ((1 : Int32)).toInt := ti_add (by omega) (by omega)) | (have a5735 := ti_rg (x4 + (1 : Int32)))
                  have b5736 := NI_g21 ci5726 (c := 0) (p := 48) rfl
                  have e5737 : (mz_gI t5724 0 48).toInt = (mz_gI q5697 0 48).toInt := by rw [E5725, gI_oth _ _ (by simp)]
                  have b5738 := NI_g22 ci5726 (c := 0) (p := 51) rfl
                  have e5739 : (mz_gI t5724 0 51).toInt = (mz_gI q5697 0 51).toInt := by rw [E5725, gI_oth _ _ (by simp)]
                  have b5740 := NI_13 ci5726 (c := 0) (p := 60) rfl
                  exact ih (x1 + (1 : Int32)) (x2 + (1 : Int32)) (x4 + (1 : Int32)) (x4 + (1 : Int32)) t5724 ci5726 (by omega) (by omega) (by omega) (by omega) (by omega) (by omega) (by omega) (by omega) (by omega) (by omega) (by omega) (by omega) (by omega)
                · have g5741 := ti_nq h5722
                  refine Tp_if (fun h5742 => ?_) (fun h5742 => ?_)
                  · have g5743 := ti_l h5742
                    have i5744 := ti_rg x2
                    have l5745 : ((1 : Int32)).toInt = 1 := rfl
                    first | (have a5746 : (x2 + (1 : Int32)).toInt = (x2).toInt + ((1 : Int32)).toInt := ti_add (by omega) (by omega)) | (have a5747 := ti_rg (x2 + (1 : Int32)))
                    unfold f_MO_readTexts_158
                    unfold f_MO_readTexts_159
                    refine Tp_gd (ti_b (by omega) (by omega)) ?_
                    refine Tp_le (fun t5748 E5749 => ?_)
                    have ci5750 := NI_p2 ci5704 E5749 rfl (by omega) (by omega)
                    have i5751 := ti_rg x1
                    first | (have a5752 : (x1 + (1 : Int32)).toInt = (x1).toInt + ((1 : Int32)).toInt := ti_add (by omega) (by omega)) | (have a5753 := ti_rg (x1 + (1 : Int32)))
                    first | (have a5754 : (x4 + (1 : Int32)).toInt = (x4).toInt + ((1 : Int32)).toInt := ti_add (by omega) (by omega)) | (have a5755 := ti_rg (x4 + (1 : Int32)))
                    have b5756 := NI_g21 ci5750 (c := 0) (p := 48) rfl
                    have e5757 : (mz_gI t5748 0 48).toInt = (mz_gI q5697 0 48).toInt := by rw [E5749, gI_oth _ _ (by simp)]
                    have b5758 := NI_g22 ci5750 (c := 0) (p := 51) rfl
                    have e5759 : (mz_gI t5748 0 51).toInt = (mz_gI q5697 0 51).toInt := by rw [E5749, gI_oth _ _ (by simp)]
                    have b5760 := NI_13 ci5750 (c := 0) (p := 60) rfl
                    exact ih (x1 + (1 : Int32)) (x2 + (1 : Int32)) (x4 + (1 : Int32)) (x4 + (1 : Int32)) t5748 ci5750 (by omega) (by omega) (by omega) (by omega) (by omega) (by omega) (by omega) (by omega) (by omega) (by omega) (by omega) (by omega) (by omega)
                  · have g5761 := ti_nl h5742
                    have i5762 := ti_rg x2
                    have l5763 : ((1 : Int32)).toInt = 1 := rfl
                    first | (have a5764 : (x2 + (1 : Int32)).toInt = (x2).toInt + ((1 : Int32)).toInt := ti_add (by omega) (by omega)) | (have a5765 := ti_rg (x2 + (1 : Int32)))
                    unfold f_MO_readTexts_159
                    refine Tp_gd (ti_b (by omega) (by omega)) ?_
                    refine Tp_le (fun t5766 E5767 => ?_)
                    have ci5768 := NI_p2 ci5704 E5767 rfl (by omega) (by omega)
                    have i5769 := ti_rg x1
                    first | (have a5770 : (x1 + (1 : Int32)).toInt = (x1).toInt + ((1 : Int32)).toInt := ti_add (by omega) (by omega)) | (have a5771 := ti_rg (x1 + (1 : Int32)))
                    first | (have a5772 : (x4 + (1 : Int32)).toInt = (x4).toInt + ((1 : Int32)).toInt := ti_add (by omega) (by omega)) | (have a5773 := ti_rg (x4 + (1 : Int32)))
                    have b5774 := NI_g21 ci5768 (c := 0) (p := 48) rfl
                    have e5775 : (mz_gI t5766 0 48).toInt = (mz_gI q5697 0 48).toInt := by rw [E5767, gI_oth _ _ (by simp)]
                    have b5776 := NI_g22 ci5768 (c := 0) (p := 51) rfl
                    have e5777 : (mz_gI t5766 0 51).toInt = (mz_gI q5697 0 51).toInt := by rw [E5767, gI_oth _ _ (by simp)]
                    have b5778 := NI_13 ci5768 (c := 0) (p := 60) rfl
                    exact ih (x1 + (1 : Int32)) (x2 + (1 : Int32)) (x4 + (1 : Int32)) (x4 + (1 : Int32)) t5766 ci5768 (by omega) (by omega) (by omega) (by omega) (by omega) (by omega) (by omega) (by omega) (by omega) (by omega) (by omega) (by omega) (by omega)
              · have g5779 := ti_nq h5719
                have l5780 : ((40 : Int32)).toInt = 40 := rfl
                refine Tp_if (fun h5781 => ?_) (fun h5781 => ?_)
                · have g5782 := ti_q h5781
                  have l5783 : ((41 : Int32)).toInt = 41 := rfl
                  unfold f_MO_readTexts_141
                  refine Tp_if (fun h5784 => ?_) (fun h5784 => ?_)
                  · have g5785 := ti_q h5784
                    unfold f_MO_readTexts_158
                    unfold f_MO_readTexts_159
                    refine Tp_gd (ti_b (by omega) (by omega)) ?_
                    refine Tp_le (fun t5786 E5787 => ?_)
                    have ci5788 := NI_p2 ci5704 E5787 rfl (by omega) (by omega)
                    have i5789 := ti_rg x1
                    have l5790 : ((1 : Int32)).toInt = 1 := rfl
                    first | (have a5791 : (x1 + (1 : Int32)).toInt = (x1).toInt + ((1 : Int32)).toInt := ti_add (by omega) (by omega)) | (have a5792 := ti_rg (x1 + (1 : Int32)))
                    have i5793 := ti_rg x2
                    first | (have a5794 : (x2 - (1 : Int32)).toInt = (x2).toInt - ((1 : Int32)).toInt := ti_sub (by omega) (by omega)) | (have a5795 := ti_rg (x2 - (1 : Int32)))
                    first | (have a5796 : (x4 + (1 : Int32)).toInt = (x4).toInt + ((1 : Int32)).toInt := ti_add (by omega) (by omega)) | (have a5797 := ti_rg (x4 + (1 : Int32)))
                    have b5798 := NI_g21 ci5788 (c := 0) (p := 48) rfl
                    have e5799 : (mz_gI t5786 0 48).toInt = (mz_gI q5697 0 48).toInt := by rw [E5787, gI_oth _ _ (by simp)]
                    have b5800 := NI_g22 ci5788 (c := 0) (p := 51) rfl
                    have e5801 : (mz_gI t5786 0 51).toInt = (mz_gI q5697 0 51).toInt := by rw [E5787, gI_oth _ _ (by simp)]
                    have b5802 := NI_13 ci5788 (c := 0) (p := 60) rfl
                    exact ih (x1 + (1 : Int32)) (x2 - (1 : Int32)) (x4 + (1 : Int32)) (x4 + (1 : Int32)) t5786 ci5788 (by omega) (by omega) (by omega) (by omega) (by omega) (by omega) (by omega) (by omega) (by omega) (by omega) (by omega) (by omega) (by omega)
                  · have g5803 := ti_nq h5784
                    refine Tp_if (fun h5804 => ?_) (fun h5804 => ?_)
                    · have g5805 := ti_l h5804
                      have i5806 := ti_rg x2
                      have l5807 : ((1 : Int32)).toInt = 1 := rfl
                      first | (have a5808 : (x2 - (1 : Int32)).toInt = (x2).toInt - ((1 : Int32)).toInt := ti_sub (by omega) (by omega)) | (have a5809 := ti_rg (x2 - (1 : Int32)))
                      unfold f_MO_readTexts_158
                      unfold f_MO_readTexts_159
                      refine Tp_gd (ti_b (by omega) (by omega)) ?_
                      refine Tp_le (fun t5810 E5811 => ?_)
                      have ci5812 := NI_p2 ci5704 E5811 rfl (by omega) (by omega)
                      have i5813 := ti_rg x1
                      first | (have a5814 : (x1 + (1 : Int32)).toInt = (x1).toInt + ((1 : Int32)).toInt := ti_add (by omega) (by omega)) | (have a5815 := ti_rg (x1 + (1 : Int32)))
                      first | (have a5816 : (x4 + (1 : Int32)).toInt = (x4).toInt + ((1 : Int32)).toInt := ti_add (by omega) (by omega)) | (have a5817 := ti_rg (x4 + (1 : Int32)))
                      have b5818 := NI_g21 ci5812 (c := 0) (p := 48) rfl
                      have e5819 : (mz_gI t5810 0 48).toInt = (mz_gI q5697 0 48).toInt := by rw [E5811, gI_oth _ _ (by simp)]
                      have b5820 := NI_g22 ci5812 (c := 0) (p := 51) rfl
                      have e5821 : (mz_gI t5810 0 51).toInt = (mz_gI q5697 0 51).toInt := by rw [E5811, gI_oth _ _ (by simp)]
                      have b5822 := NI_13 ci5812 (c := 0) (p := 60) rfl
                      exact ih (x1 + (1 : Int32)) (x2 - (1 : Int32)) (x4 + (1 : Int32)) (x4 + (1 : Int32)) t5810 ci5812 (by omega) (by omega) (by omega) (by omega) (by omega) (by omega) (by omega) (by omega) (by omega) (by omega) (by omega) (by omega) (by omega)
                    · have g5823 := ti_nl h5804
                      have i5824 := ti_rg x2
                      have l5825 : ((1 : Int32)).toInt = 1 := rfl
                      first | (have a5826 : (x2 - (1 : Int32)).toInt = (x2).toInt - ((1 : Int32)).toInt := ti_sub (by omega) (by omega)) | (have a5827 := ti_rg (x2 - (1 : Int32)))
                      unfold f_MO_readTexts_159
                      refine Tp_gd (ti_b (by omega) (by omega)) ?_
                      refine Tp_le (fun t5828 E5829 => ?_)
                      have ci5830 := NI_p2 ci5704 E5829 rfl (by omega) (by omega)
                      have i5831 := ti_rg x1
                      first | (have a5832 : (x1 + (1 : Int32)).toInt = (x1).toInt + ((1 : Int32)).toInt := ti_add (by omega) (by omega)) | (have a5833 := ti_rg (x1 + (1 : Int32)))
                      first | (have a5834 : (x4 + (1 : Int32)).toInt = (x4).toInt + ((1 : Int32)).toInt := ti_add (by omega) (by omega)) | (have a5835 := ti_rg (x4 + (1 : Int32)))
                      have b5836 := NI_g21 ci5830 (c := 0) (p := 48) rfl
                      have e5837 : (mz_gI t5828 0 48).toInt = (mz_gI q5697 0 48).toInt := by rw [E5829, gI_oth _ _ (by simp)]
                      have b5838 := NI_g22 ci5830 (c := 0) (p := 51) rfl
                      have e5839 : (mz_gI t5828 0 51).toInt = (mz_gI q5697 0 51).toInt := by rw [E5829, gI_oth _ _ (by simp)]
                      have b5840 := NI_13 ci5830 (c := 0) (p := 60) rfl
                      exact ih (x1 + (1 : Int32)) (x2 - (1 : Int32)) (x4 + (1 : Int32)) (x4 + (1 : Int32)) t5828 ci5830 (by omega) (by omega) (by omega) (by omega) (by omega) (by omega) (by omega) (by omega) (by omega) (by omega) (by omega) (by omega) (by omega)
                · have g5841 := ti_nq h5781
                  have l5842 : ((41 : Int32)).toInt = 41 := rfl
                  unfold f_MO_readTexts_141
                  refine Tp_if (fun h5843 => ?_) (fun h5843 => ?_)
                  · have g5844 := ti_q h5843
                    unfold f_MO_readTexts_158
                    unfold f_MO_readTexts_159
                    refine Tp_gd (ti_b (by omega) (by omega)) ?_
                    refine Tp_le (fun t5845 E5846 => ?_)
                    have ci5847 := NI_p2 ci5704 E5846 rfl (by omega) (by omega)
                    have i5848 := ti_rg x1
                    have l5849 : ((1 : Int32)).toInt = 1 := rfl
                    first | (have a5850 : (x1 + (1 : Int32)).toInt = (x1).toInt + ((1 : Int32)).toInt := ti_add (by omega) (by omega)) | (have a5851 := ti_rg (x1 + (1 : Int32)))
                    have i5852 := ti_rg x2
                    first | (have a5853 : (x4 + (1 : Int32)).toInt = (x4).toInt + ((1 : Int32)).toInt := ti_add (by omega) (by omega)) | (have a5854 := ti_rg (x4 + (1 : Int32)))
                    have b5855 := NI_g21 ci5847 (c := 0) (p := 48) rfl
                    have e5856 : (mz_gI t5845 0 48).toInt = (mz_gI q5697 0 48).toInt := by rw [E5846, gI_oth _ _ (by simp)]
                    have b5857 := NI_g22 ci5847 (c := 0) (p := 51) rfl
                    have e5858 : (mz_gI t5845 0 51).toInt = (mz_gI q5697 0 51).toInt := by rw [E5846, gI_oth _ _ (by simp)]
                    have b5859 := NI_13 ci5847 (c := 0) (p := 60) rfl
                    exact ih (x1 + (1 : Int32)) x2 (x4 + (1 : Int32)) (x4 + (1 : Int32)) t5845 ci5847 (by omega) (by omega) (by omega) (by omega) (by omega) (by omega) (by omega) (by omega) (by omega) (by omega) (by omega) (by omega) (by omega)
                  · have g5860 := ti_nq h5843
                    refine Tp_if (fun h5861 => ?_) (fun h5861 => ?_)
                    · have g5862 := ti_l h5861
                      have i5863 := ti_rg x2
                      unfold f_MO_readTexts_158
                      unfold f_MO_readTexts_159
                      refine Tp_gd (ti_b (by omega) (by omega)) ?_
                      refine Tp_le (fun t5864 E5865 => ?_)
                      have ci5866 := NI_p2 ci5704 E5865 rfl (by omega) (by omega)
                      have i5867 := ti_rg x1
                      have l5868 : ((1 : Int32)).toInt = 1 := rfl
                      first | (have a5869 : (x1 + (1 : Int32)).toInt = (x1).toInt + ((1 : Int32)).toInt := ti_add (by omega) (by omega)) | (have a5870 := ti_rg (x1 + (1 : Int32)))
                      first | (have a5871 : (x4 + (1 : Int32)).toInt = (x4).toInt + ((1 : Int32)).toInt := ti_add (by omega) (by omega)) | (have a5872 := ti_rg (x4 + (1 : Int32)))
                      have b5873 := NI_g21 ci5866 (c := 0) (p := 48) rfl
                      have e5874 : (mz_gI t5864 0 48).toInt = (mz_gI q5697 0 48).toInt := by rw [E5865, gI_oth _ _ (by simp)]
                      have b5875 := NI_g22 ci5866 (c := 0) (p := 51) rfl
                      have e5876 : (mz_gI t5864 0 51).toInt = (mz_gI q5697 0 51).toInt := by rw [E5865, gI_oth _ _ (by simp)]
                      have b5877 := NI_13 ci5866 (c := 0) (p := 60) rfl
                      exact ih (x1 + (1 : Int32)) x2 (x4 + (1 : Int32)) (x4 + (1 : Int32)) t5864 ci5866 (by omega) (by omega) (by omega) (by omega) (by omega) (by omega) (by omega) (by omega) (by omega) (by omega) (by omega) (by omega) (by omega)
                    · have g5878 := ti_nl h5861
                      have i5879 := ti_rg x2
                      unfold f_MO_readTexts_159
                      have l5880 : ((1 : Int32)).toInt = 1 := rfl
                      refine Tp_gd (ti_b (by omega) (by omega)) ?_
                      refine Tp_le (fun t5881 E5882 => ?_)
                      have ci5883 := NI_p2 ci5704 E5882 rfl (by omega) (by omega)
                      have i5884 := ti_rg x1
                      first | (have a5885 : (x1 + (1 : Int32)).toInt = (x1).toInt + ((1 : Int32)).toInt := ti_add (by omega) (by omega)) | (have a5886 := ti_rg (x1 + (1 : Int32)))
                      first | (have a5887 : (x4 + (1 : Int32)).toInt = (x4).toInt + ((1 : Int32)).toInt := ti_add (by omega) (by omega)) | (have a5888 := ti_rg (x4 + (1 : Int32)))
                      have b5889 := NI_g21 ci5883 (c := 0) (p := 48) rfl
                      have e5890 : (mz_gI t5881 0 48).toInt = (mz_gI q5697 0 48).toInt := by rw [E5882, gI_oth _ _ (by simp)]
                      have b5891 := NI_g22 ci5883 (c := 0) (p := 51) rfl
                      have e5892 : (mz_gI t5881 0 51).toInt = (mz_gI q5697 0 51).toInt := by rw [E5882, gI_oth _ _ (by simp)]
                      have b5893 := NI_13 ci5883 (c := 0) (p := 60) rfl
                      exact ih (x1 + (1 : Int32)) x2 (x4 + (1 : Int32)) (x4 + (1 : Int32)) t5881 ci5883 (by omega) (by omega) (by omega) (by omega) (by omega) (by omega) (by omega) (by omega) (by omega) (by omega) (by omega) (by omega) (by omega)
            · have g5894 := ti_nq h5690
              have b5895 := NI_g2 ci (c := 0) (p := 62) rfl
              refine Tp_if (fun h5896 => ?_) (fun h5896 => ?_)
              · have g5897 := ti_q h5896
                have i5898 := ti_rg x2
                unfold f_MO_readTexts_96
                have l5899 : ((1 : Int32)).toInt = 1 := rfl
                refine Tp_gd (ti_b (by omega) (by omega)) ?_
                refine Tp_le (fun t5900 E5901 => ?_)
                have l5903 : (62 : Int32).toInt = 62 := rfl
                have ci5902 := NI_p2 ci E5901 rfl (by omega) (by omega)
                have i5906 := ti_rg x3
                have b5907 := NI_g21 ci5902 (c := 0) (p := 48) rfl
                have e5908 : (mz_gI t5900 0 48).toInt = (mz_gI t 0 48).toInt := by rw [E5901, gI_oth _ _ (by simp)]
                have b5909 := NI_g22 ci5902 (c := 0) (p := 51) rfl
                have e5910 : (mz_gI t5900 0 51).toInt = (mz_gI t 0 51).toInt := by rw [E5901, gI_oth _ _ (by simp)]
                refine Tp_bi (s_MO_hold hn ci5902 (by omega) (by omega) (by omega) (by omega) (by omega) (t := t5900) (x1 := x3) (x2 := x4)) (fun q5904 h5905 => ?_)
                obtain ⟨ci5911, p5912, p5913, p5914, p5915, p5916⟩ := h5905
                have b5917 := NI_g24 ci5902 (c := 0) (p := 61) rfl
                have e5918 : (mz_gI t5900 0 61).toInt = (mz_gI t 0 61).toInt := by rw [E5901, gI_oth _ _ (by simp)]
                have b5919 := NI_g24 ci (c := 0) (p := 61) rfl
                have b5920 := NI_g2 ci5902 (c := 0) (p := 62) rfl
                have e5921 : (mz_gI t5900 0 62).toInt = ((1 : Int32)).toInt := by rw [E5901, gI_same]
                have b5922 := NI_g21 ci5911 (c := 0) (p := 48) rfl
                have b5923 := NI_g22 ci5911 (c := 0) (p := 51) rfl
                have b5924 := NI_g24 ci5911 (c := 0) (p := 61) rfl
                have b5925 := NI_g2 ci5911 (c := 0) (p := 62) rfl
                unfold f_MO_readTexts_114
                refine Tp_if (fun h5926 => ?_) (fun h5926 => ?_)
                · have g5927 := ti_q h5926
                  have l5928 : ((40 : Int32)).toInt = 40 := rfl
                  unfold f_MO_readTexts_141
                  refine Tp_if (fun h5929 => ?_) (fun h5929 => ?_)
                  · have g5930 := ti_q h5929
                    unfold f_MO_readTexts_158
                    unfold f_MO_readTexts_159
                    refine Tp_gd (ti_b (by omega) (by omega)) ?_
                    refine Tp_le (fun t5931 E5932 => ?_)
                    have ci5933 := NI_p2 ci5911 E5932 rfl (by omega) (by omega)
                    have i5934 := ti_rg x1
                    first | (have a5935 : (x1 + (1 : Int32)).toInt = (x1).toInt + ((1 : Int32)).toInt := ti_add (by omega) (by omega)) | (have a5936 := ti_rg (x1 + (1 : Int32)))
                    first | (have a5937 : (x2 + (1 : Int32)).toInt = (x2).toInt + ((1 : Int32)).toInt := ti_add (by omega) (by omega)) | (have a5938 := ti_rg (x2 + (1 : Int32)))
                    first | (have a5939 : (x4 + (1 : Int32)).toInt = (x4).toInt + ((1 : Int32)).toInt := ti_add (by omega) (by omega)) | (have a5940 := ti_rg (x4 + (1 : Int32)))
                    have b5941 := NI_g21 ci5933 (c := 0) (p := 48) rfl
                    have e5942 : (mz_gI t5931 0 48).toInt = (mz_gI q5904 0 48).toInt := by rw [E5932, gI_oth _ _ (by simp)]
                    have b5943 := NI_g22 ci5933 (c := 0) (p := 51) rfl
                    have e5944 : (mz_gI t5931 0 51).toInt = (mz_gI q5904 0 51).toInt := by rw [E5932, gI_oth _ _ (by simp)]
                    have b5945 := NI_13 ci5933 (c := 0) (p := 60) rfl
                    exact ih (x1 + (1 : Int32)) (x2 + (1 : Int32)) (x4 + (1 : Int32)) (x4 + (1 : Int32)) t5931 ci5933 (by omega) (by omega) (by omega) (by omega) (by omega) (by omega) (by omega) (by omega) (by omega) (by omega) (by omega) (by omega) (by omega)
                  · have g5946 := ti_nq h5929
                    refine Tp_if (fun h5947 => ?_) (fun h5947 => ?_)
                    · have g5948 := ti_l h5947
                      first | (have a5949 : (x2 + (1 : Int32)).toInt = (x2).toInt + ((1 : Int32)).toInt := ti_add (by omega) (by omega)) | (have a5950 := ti_rg (x2 + (1 : Int32)))
                      unfold f_MO_readTexts_158
                      unfold f_MO_readTexts_159
                      refine Tp_gd (ti_b (by omega) (by omega)) ?_
                      refine Tp_le (fun t5951 E5952 => ?_)
                      have ci5953 := NI_p2 ci5911 E5952 rfl (by omega) (by omega)
                      have i5954 := ti_rg x1
                      first | (have a5955 : (x1 + (1 : Int32)).toInt = (x1).toInt + ((1 : Int32)).toInt := ti_add (by omega) (by omega)) | (have a5956 := ti_rg (x1 + (1 : Int32)))
                      first | (have a5957 : (x4 + (1 : Int32)).toInt = (x4).toInt + ((1 : Int32)).toInt := ti_add (by omega) (by omega)) | (have a5958 := ti_rg (x4 + (1 : Int32)))
                      have b5959 := NI_g21 ci5953 (c := 0) (p := 48) rfl
                      have e5960 : (mz_gI t5951 0 48).toInt = (mz_gI q5904 0 48).toInt := by rw [E5952, gI_oth _ _ (by simp)]
                      have b5961 := NI_g22 ci5953 (c := 0) (p := 51) rfl
                      have e5962 : (mz_gI t5951 0 51).toInt = (mz_gI q5904 0 51).toInt := by rw [E5952, gI_oth _ _ (by simp)]
                      have b5963 := NI_13 ci5953 (c := 0) (p := 60) rfl
                      exact ih (x1 + (1 : Int32)) (x2 + (1 : Int32)) (x4 + (1 : Int32)) (x4 + (1 : Int32)) t5951 ci5953 (by omega) (by omega) (by omega) (by omega) (by omega) (by omega) (by omega) (by omega) (by omega) (by omega) (by omega) (by omega) (by omega)
                    · have g5964 := ti_nl h5947
                      first | (have a5965 : (x2 + (1 : Int32)).toInt = (x2).toInt + ((1 : Int32)).toInt := ti_add (by omega) (by omega)) | (have a5966 := ti_rg (x2 + (1 : Int32)))
                      unfold f_MO_readTexts_159
                      refine Tp_gd (ti_b (by omega) (by omega)) ?_
                      refine Tp_le (fun t5967 E5968 => ?_)
                      have ci5969 := NI_p2 ci5911 E5968 rfl (by omega) (by omega)
                      have i5970 := ti_rg x1
                      first | (have a5971 : (x1 + (1 : Int32)).toInt = (x1).toInt + ((1 : Int32)).toInt := ti_add (by omega) (by omega)) | (have a5972 := ti_rg (x1 + (1 : Int32)))
                      first | (have a5973 : (x4 + (1 : Int32)).toInt = (x4).toInt + ((1 : Int32)).toInt := ti_add (by omega) (by omega)) | (have a5974 := ti_rg (x4 + (1 : Int32)))
                      have b5975 := NI_g21 ci5969 (c := 0) (p := 48) rfl
                      have e5976 : (mz_gI t5967 0 48).toInt = (mz_gI q5904 0 48).toInt := by rw [E5968, gI_oth _ _ (by simp)]
                      have b5977 := NI_g22 ci5969 (c := 0) (p := 51) rfl
                      have e5978 : (mz_gI t5967 0 51).toInt = (mz_gI q5904 0 51).toInt := by rw [E5968, gI_oth _ _ (by simp)]
                      have b5979 := NI_13 ci5969 (c := 0) (p := 60) rfl
                      exact ih (x1 + (1 : Int32)) (x2 + (1 : Int32)) (x4 + (1 : Int32)) (x4 + (1 : Int32)) t5967 ci5969 (by omega) (by omega) (by omega) (by omega) (by omega) (by omega) (by omega) (by omega) (by omega) (by omega) (by omega) (by omega) (by omega)
                · have g5980 := ti_nq h5926
                  have l5981 : ((40 : Int32)).toInt = 40 := rfl
                  refine Tp_if (fun h5982 => ?_) (fun h5982 => ?_)
                  · have g5983 := ti_q h5982
                    have l5984 : ((41 : Int32)).toInt = 41 := rfl
                    unfold f_MO_readTexts_141
                    refine Tp_if (fun h5985 => ?_) (fun h5985 => ?_)
                    · have g5986 := ti_q h5985
                      unfold f_MO_readTexts_158
                      unfold f_MO_readTexts_159
                      refine Tp_gd (ti_b (by omega) (by omega)) ?_
                      refine Tp_le (fun t5987 E5988 => ?_)
                      have ci5989 := NI_p2 ci5911 E5988 rfl (by omega) (by omega)
                      have i5990 := ti_rg x1
                      first | (have a5991 : (x1 + (1 : Int32)).toInt = (x1).toInt + ((1 : Int32)).toInt := ti_add (by omega) (by omega)) | (have a5992 := ti_rg (x1 + (1 : Int32)))
                      first | (have a5993 : (x2 - (1 : Int32)).toInt = (x2).toInt - ((1 : Int32)).toInt := ti_sub (by omega) (by omega)) | (have a5994 := ti_rg (x2 - (1 : Int32)))
                      first | (have a5995 : (x4 + (1 : Int32)).toInt = (x4).toInt + ((1 : Int32)).toInt := ti_add (by omega) (by omega)) | (have a5996 := ti_rg (x4 + (1 : Int32)))
                      have b5997 := NI_g21 ci5989 (c := 0) (p := 48) rfl
                      have e5998 : (mz_gI t5987 0 48).toInt = (mz_gI q5904 0 48).toInt := by rw [E5988, gI_oth _ _ (by simp)]
                      have b5999 := NI_g22 ci5989 (c := 0) (p := 51) rfl
                      have e6000 : (mz_gI t5987 0 51).toInt = (mz_gI q5904 0 51).toInt := by rw [E5988, gI_oth _ _ (by simp)]
                      have b6001 := NI_13 ci5989 (c := 0) (p := 60) rfl
                      exact ih (x1 + (1 : Int32)) (x2 - (1 : Int32)) (x4 + (1 : Int32)) (x4 + (1 : Int32)) t5987 ci5989 (by omega) (by omega) (by omega) (by omega) (by omega) (by omega) (by omega) (by omega) (by omega) (by omega) (by omega) (by omega) (by omega)
                    · have g6002 := ti_nq h5985
                      refine Tp_if (fun h6003 => ?_) (fun h6003 => ?_)
                      · have g6004 := ti_l h6003
                        first | (have a6005 : (x2 - (1 : Int32)).toInt = (x2).toInt - ((1 : Int32)).toInt := ti_sub (by omega) (by omega)) | (have a6006 := ti_rg (x2 - (1 : Int32)))
                        unfold f_MO_readTexts_158
                        unfold f_MO_readTexts_159
                        refine Tp_gd (ti_b (by omega) (by omega)) ?_
                        refine Tp_le (fun t6007 E6008 => ?_)
                        have ci6009 := NI_p2 ci5911 E6008 rfl (by omega) (by omega)
                        have i6010 := ti_rg x1
                        first | (have a6011 : (x1 + (1 : Int32)).toInt = (x1).toInt + ((1 : Int32)).toInt := ti_add (by omega) (by omega)) | (have a6012 := ti_rg (x1 + (1 : Int32)))
                        first | (have a6013 : (x4 + (1 : Int32)).toInt = (x4).toInt + ((1 : Int32)).toInt := ti_add (by omega) (by omega)) | (have a6014 := ti_rg (x4 + (1 : Int32)))
                        have b6015 := NI_g21 ci6009 (c := 0) (p := 48) rfl
                        have e6016 : (mz_gI t6007 0 48).toInt = (mz_gI q5904 0 48).toInt := by rw [E6008, gI_oth _ _ (by simp)]
                        have b6017 := NI_g22 ci6009 (c := 0) (p := 51) rfl
                        have e6018 : (mz_gI t6007 0 51).toInt = (mz_gI q5904 0 51).toInt := by rw [E6008, gI_oth _ _ (by simp)]
                        have b6019 := NI_13 ci6009 (c := 0) (p := 60) rfl
                        exact ih (x1 + (1 : Int32)) (x2 - (1 : Int32)) (x4 + (1 : Int32)) (x4 + (1 : Int32)) t6007 ci6009 (by omega) (by omega) (by omega) (by omega) (by omega) (by omega) (by omega) (by omega) (by omega) (by omega) (by omega) (by omega) (by omega)
                      · have g6020 := ti_nl h6003
                        first | (have a6021 : (x2 - (1 : Int32)).toInt = (x2).toInt - ((1 : Int32)).toInt := ti_sub (by omega) (by omega)) | (have a6022 := ti_rg (x2 - (1 : Int32)))
                        unfold f_MO_readTexts_159
                        refine Tp_gd (ti_b (by omega) (by omega)) ?_
                        refine Tp_le (fun t6023 E6024 => ?_)
                        have ci6025 := NI_p2 ci5911 E6024 rfl (by omega) (by omega)
                        have i6026 := ti_rg x1
                        first | (have a6027 : (x1 + (1 : Int32)).toInt = (x1).toInt + ((1 : Int32)).toInt := ti_add (by omega) (by omega)) | (have a6028 := ti_rg (x1 + (1 : Int32)))
                        first | (have a6029 : (x4 + (1 : Int32)).toInt = (x4).toInt + ((1 : Int32)).toInt := ti_add (by omega) (by omega)) | (have a6030 := ti_rg (x4 + (1 : Int32)))
                        have b6031 := NI_g21 ci6025 (c := 0) (p := 48) rfl
                        have e6032 : (mz_gI t6023 0 48).toInt = (mz_gI q5904 0 48).toInt := by rw [E6024, gI_oth _ _ (by simp)]
                        have b6033 := NI_g22 ci6025 (c := 0) (p := 51) rfl
                        have e6034 : (mz_gI t6023 0 51).toInt = (mz_gI q5904 0 51).toInt := by rw [E6024, gI_oth _ _ (by simp)]
                        have b6035 := NI_13 ci6025 (c := 0) (p := 60) rfl
                        exact ih (x1 + (1 : Int32)) (x2 - (1 : Int32)) (x4 + (1 : Int32)) (x4 + (1 : Int32)) t6023 ci6025 (by omega) (by omega) (by omega) (by omega) (by omega) (by omega) (by omega) (by omega) (by omega) (by omega) (by omega) (by omega) (by omega)
                  · have g6036 := ti_nq h5982
                    have l6037 : ((41 : Int32)).toInt = 41 := rfl
                    unfold f_MO_readTexts_141
                    refine Tp_if (fun h6038 => ?_) (fun h6038 => ?_)
                    · have g6039 := ti_q h6038
                      unfold f_MO_readTexts_158
                      unfold f_MO_readTexts_159
                      refine Tp_gd (ti_b (by omega) (by omega)) ?_
                      refine Tp_le (fun t6040 E6041 => ?_)
                      have ci6042 := NI_p2 ci5911 E6041 rfl (by omega) (by omega)
                      have i6043 := ti_rg x1
                      first | (have a6044 : (x1 + (1 : Int32)).toInt = (x1).toInt + ((1 : Int32)).toInt := ti_add (by omega) (by omega)) | (have a6045 := ti_rg (x1 + (1 : Int32)))
                      first | (have a6046 : (x4 + (1 : Int32)).toInt = (x4).toInt + ((1 : Int32)).toInt := ti_add (by omega) (by omega)) | (have a6047 := ti_rg (x4 + (1 : Int32)))
                      have b6048 := NI_g21 ci6042 (c := 0) (p := 48) rfl
                      have e6049 : (mz_gI t6040 0 48).toInt = (mz_gI q5904 0 48).toInt := by rw [E6041, gI_oth _ _ (by simp)]
                      have b6050 := NI_g22 ci6042 (c := 0) (p := 51) rfl
                      have e6051 : (mz_gI t6040 0 51).toInt = (mz_gI q5904 0 51).toInt := by rw [E6041, gI_oth _ _ (by simp)]
                      have b6052 := NI_13 ci6042 (c := 0) (p := 60) rfl
                      exact ih (x1 + (1 : Int32)) x2 (x4 + (1 : Int32)) (x4 + (1 : Int32)) t6040 ci6042 (by omega) (by omega) (by omega) (by omega) (by omega) (by omega) (by omega) (by omega) (by omega) (by omega) (by omega) (by omega) (by omega)
                    · have g6053 := ti_nq h6038
                      refine Tp_if (fun h6054 => ?_) (fun h6054 => ?_)
                      · have g6055 := ti_l h6054
                        unfold f_MO_readTexts_158
                        unfold f_MO_readTexts_159
                        refine Tp_gd (ti_b (by omega) (by omega)) ?_
                        refine Tp_le (fun t6056 E6057 => ?_)
                        have ci6058 := NI_p2 ci5911 E6057 rfl (by omega) (by omega)
                        have i6059 := ti_rg x1
                        first | (have a6060 : (x1 + (1 : Int32)).toInt = (x1).toInt + ((1 : Int32)).toInt := ti_add (by omega) (by omega)) | (have a6061 := ti_rg (x1 + (1 : Int32)))
                        first | (have a6062 : (x4 + (1 : Int32)).toInt = (x4).toInt + ((1 : Int32)).toInt := ti_add (by omega) (by omega)) | (have a6063 := ti_rg (x4 + (1 : Int32)))
                        have b6064 := NI_g21 ci6058 (c := 0) (p := 48) rfl
                        have e6065 : (mz_gI t6056 0 48).toInt = (mz_gI q5904 0 48).toInt := by rw [E6057, gI_oth _ _ (by simp)]
                        have b6066 := NI_g22 ci6058 (c := 0) (p := 51) rfl
                        have e6067 : (mz_gI t6056 0 51).toInt = (mz_gI q5904 0 51).toInt := by rw [E6057, gI_oth _ _ (by simp)]
                        have b6068 := NI_13 ci6058 (c := 0) (p := 60) rfl
                        exact ih (x1 + (1 : Int32)) x2 (x4 + (1 : Int32)) (x4 + (1 : Int32)) t6056 ci6058 (by omega) (by omega) (by omega) (by omega) (by omega) (by omega) (by omega) (by omega) (by omega) (by omega) (by omega) (by omega) (by omega)
                      · have g6069 := ti_nl h6054
                        unfold f_MO_readTexts_159
                        refine Tp_gd (ti_b (by omega) (by omega)) ?_
                        refine Tp_le (fun t6070 E6071 => ?_)
                        have ci6072 := NI_p2 ci5911 E6071 rfl (by omega) (by omega)
                        have i6073 := ti_rg x1
                        first | (have a6074 : (x1 + (1 : Int32)).toInt = (x1).toInt + ((1 : Int32)).toInt := ti_add (by omega) (by omega)) | (have a6075 := ti_rg (x1 + (1 : Int32)))
                        first | (have a6076 : (x4 + (1 : Int32)).toInt = (x4).toInt + ((1 : Int32)).toInt := ti_add (by omega) (by omega)) | (have a6077 := ti_rg (x4 + (1 : Int32)))
                        have b6078 := NI_g21 ci6072 (c := 0) (p := 48) rfl
                        have e6079 : (mz_gI t6070 0 48).toInt = (mz_gI q5904 0 48).toInt := by rw [E6071, gI_oth _ _ (by simp)]
                        have b6080 := NI_g22 ci6072 (c := 0) (p := 51) rfl
                        have e6081 : (mz_gI t6070 0 51).toInt = (mz_gI q5904 0 51).toInt := by rw [E6071, gI_oth _ _ (by simp)]
                        have b6082 := NI_13 ci6072 (c := 0) (p := 60) rfl
                        exact ih (x1 + (1 : Int32)) x2 (x4 + (1 : Int32)) (x4 + (1 : Int32)) t6070 ci6072 (by omega) (by omega) (by omega) (by omega) (by omega) (by omega) (by omega) (by omega) (by omega) (by omega) (by omega) (by omega) (by omega)
              · have g6083 := ti_nq h5896
                have i6084 := ti_rg x2
                unfold f_MO_readTexts_95
                unfold f_MO_readTexts_96
                refine Tp_gd (ti_b (by omega) (by omega)) ?_
                refine Tp_le (fun t6085 E6086 => ?_)
                have l6088 : (62 : Int32).toInt = 62 := rfl
                have ci6087 := NI_p2 ci E6086 rfl (by omega) (by omega)
                have i6091 := ti_rg x3
                have b6092 := NI_g21 ci6087 (c := 0) (p := 48) rfl
                have e6093 : (mz_gI t6085 0 48).toInt = (mz_gI t 0 48).toInt := by rw [E6086, gI_oth _ _ (by simp)]
                have b6094 := NI_g22 ci6087 (c := 0) (p := 51) rfl
                have e6095 : (mz_gI t6085 0 51).toInt = (mz_gI t 0 51).toInt := by rw [E6086, gI_oth _ _ (by simp)]
                refine Tp_bi (s_MO_hold hn ci6087 (by omega) (by omega) (by omega) (by omega) (by omega) (t := t6085) (x1 := x3) (x2 := x4)) (fun q6089 h6090 => ?_)
                obtain ⟨ci6096, p6097, p6098, p6099, p6100, p6101⟩ := h6090
                have b6102 := NI_g24 ci6087 (c := 0) (p := 61) rfl
                have e6103 : (mz_gI t6085 0 61).toInt = (mz_gI t 0 61).toInt := by rw [E6086, gI_oth _ _ (by simp)]
                have b6104 := NI_g24 ci (c := 0) (p := 61) rfl
                have b6105 := NI_g2 ci6087 (c := 0) (p := 62) rfl
                have e6106 : (mz_gI t6085 0 62).toInt = ((0 : Int32)).toInt := by rw [E6086, gI_same]
                have b6107 := NI_g21 ci6096 (c := 0) (p := 48) rfl
                have b6108 := NI_g22 ci6096 (c := 0) (p := 51) rfl
                have b6109 := NI_g24 ci6096 (c := 0) (p := 61) rfl
                have b6110 := NI_g2 ci6096 (c := 0) (p := 62) rfl
                unfold f_MO_readTexts_114
                refine Tp_if (fun h6111 => ?_) (fun h6111 => ?_)
                · have g6112 := ti_q h6111
                  have l6113 : ((40 : Int32)).toInt = 40 := rfl
                  unfold f_MO_readTexts_141
                  refine Tp_if (fun h6114 => ?_) (fun h6114 => ?_)
                  · have g6115 := ti_q h6114
                    unfold f_MO_readTexts_158
                    unfold f_MO_readTexts_159
                    refine Tp_gd (ti_b (by omega) (by omega)) ?_
                    refine Tp_le (fun t6116 E6117 => ?_)
                    have ci6118 := NI_p2 ci6096 E6117 rfl (by omega) (by omega)
                    have i6119 := ti_rg x1
                    have l6120 : ((1 : Int32)).toInt = 1 := rfl
                    first | (have a6121 : (x1 + (1 : Int32)).toInt = (x1).toInt + ((1 : Int32)).toInt := ti_add (by omega) (by omega)) | (have a6122 := ti_rg (x1 + (1 : Int32)))
                    first | (have a6123 : (x2 + (1 : Int32)).toInt = (x2).toInt + ((1 : Int32)).toInt := ti_add (by omega) (by omega)) | (have a6124 := ti_rg (x2 + (1 : Int32)))
                    first | (have a6125 : (x4 + (1 : Int32)).toInt = (x4).toInt + ((1 : Int32)).toInt := ti_add (by omega) (by omega)) | (have a6126 := ti_rg (x4 + (1 : Int32)))
                    have b6127 := NI_g21 ci6118 (c := 0) (p := 48) rfl
                    have e6128 : (mz_gI t6116 0 48).toInt = (mz_gI q6089 0 48).toInt := by rw [E6117, gI_oth _ _ (by simp)]
                    have b6129 := NI_g22 ci6118 (c := 0) (p := 51) rfl
                    have e6130 : (mz_gI t6116 0 51).toInt = (mz_gI q6089 0 51).toInt := by rw [E6117, gI_oth _ _ (by simp)]
                    have b6131 := NI_13 ci6118 (c := 0) (p := 60) rfl
                    exact ih (x1 + (1 : Int32)) (x2 + (1 : Int32)) (x4 + (1 : Int32)) (x4 + (1 : Int32)) t6116 ci6118 (by omega) (by omega) (by omega) (by omega) (by omega) (by omega) (by omega) (by omega) (by omega) (by omega) (by omega) (by omega) (by omega)
                  · have g6132 := ti_nq h6114
                    refine Tp_if (fun h6133 => ?_) (fun h6133 => ?_)
                    · have g6134 := ti_l h6133
                      have l6135 : ((1 : Int32)).toInt = 1 := rfl
                      first | (have a6136 : (x2 + (1 : Int32)).toInt = (x2).toInt + ((1 : Int32)).toInt := ti_add (by omega) (by omega)) | (have a6137 := ti_rg (x2 + (1 : Int32)))
                      unfold f_MO_readTexts_158
                      unfold f_MO_readTexts_159
                      refine Tp_gd (ti_b (by omega) (by omega)) ?_
                      refine Tp_le (fun t6138 E6139 => ?_)
                      have ci6140 := NI_p2 ci6096 E6139 rfl (by omega) (by omega)
                      have i6141 := ti_rg x1
                      first | (have a6142 : (x1 + (1 : Int32)).toInt = (x1).toInt + ((1 : Int32)).toInt := ti_add (by omega) (by omega)) | (have a6143 := ti_rg (x1 + (1 : Int32)))
                      first | (have a6144 : (x4 + (1 : Int32)).toInt = (x4).toInt + ((1 : Int32)).toInt := ti_add (by omega) (by omega)) | (have a6145 := ti_rg (x4 + (1 : Int32)))
                      have b6146 := NI_g21 ci6140 (c := 0) (p := 48) rfl
                      have e6147 : (mz_gI t6138 0 48).toInt = (mz_gI q6089 0 48).toInt := by rw [E6139, gI_oth _ _ (by simp)]
                      have b6148 := NI_g22 ci6140 (c := 0) (p := 51) rfl
                      have e6149 : (mz_gI t6138 0 51).toInt = (mz_gI q6089 0 51).toInt := by rw [E6139, gI_oth _ _ (by simp)]
                      have b6150 := NI_13 ci6140 (c := 0) (p := 60) rfl
                      exact ih (x1 + (1 : Int32)) (x2 + (1 : Int32)) (x4 + (1 : Int32)) (x4 + (1 : Int32)) t6138 ci6140 (by omega) (by omega) (by omega) (by omega) (by omega) (by omega) (by omega) (by omega) (by omega) (by omega) (by omega) (by omega) (by omega)
                    · have g6151 := ti_nl h6133
                      have l6152 : ((1 : Int32)).toInt = 1 := rfl
                      first | (have a6153 : (x2 + (1 : Int32)).toInt = (x2).toInt + ((1 : Int32)).toInt := ti_add (by omega) (by omega)) | (have a6154 := ti_rg (x2 + (1 : Int32)))
                      unfold f_MO_readTexts_159
                      refine Tp_gd (ti_b (by omega) (by omega)) ?_
                      refine Tp_le (fun t6155 E6156 => ?_)
                      have ci6157 := NI_p2 ci6096 E6156 rfl (by omega) (by omega)
                      have i6158 := ti_rg x1
                      first | (have a6159 : (x1 + (1 : Int32)).toInt = (x1).toInt + ((1 : Int32)).toInt := ti_add (by omega) (by omega)) | (have a6160 := ti_rg (x1 + (1 : Int32)))
                      first | (have a6161 : (x4 + (1 : Int32)).toInt = (x4).toInt + ((1 : Int32)).toInt := ti_add (by omega) (by omega)) | (have a6162 := ti_rg (x4 + (1 : Int32)))
                      have b6163 := NI_g21 ci6157 (c := 0) (p := 48) rfl
                      have e6164 : (mz_gI t6155 0 48).toInt = (mz_gI q6089 0 48).toInt := by rw [E6156, gI_oth _ _ (by simp)]
                      have b6165 := NI_g22 ci6157 (c := 0) (p := 51) rfl
                      have e6166 : (mz_gI t6155 0 51).toInt = (mz_gI q6089 0 51).toInt := by rw [E6156, gI_oth _ _ (by simp)]
                      have b6167 := NI_13 ci6157 (c := 0) (p := 60) rfl
                      exact ih (x1 + (1 : Int32)) (x2 + (1 : Int32)) (x4 + (1 : Int32)) (x4 + (1 : Int32)) t6155 ci6157 (by omega) (by omega) (by omega) (by omega) (by omega) (by omega) (by omega) (by omega) (by omega) (by omega) (by omega) (by omega) (by omega)
                · have g6168 := ti_nq h6111
                  have l6169 : ((40 : Int32)).toInt = 40 := rfl
                  refine Tp_if (fun h6170 => ?_) (fun h6170 => ?_)
                  · have g6171 := ti_q h6170
                    have l6172 : ((41 : Int32)).toInt = 41 := rfl
                    unfold f_MO_readTexts_141
                    refine Tp_if (fun h6173 => ?_) (fun h6173 => ?_)
                    · have g6174 := ti_q h6173
                      unfold f_MO_readTexts_158
                      unfold f_MO_readTexts_159
                      refine Tp_gd (ti_b (by omega) (by omega)) ?_
                      refine Tp_le (fun t6175 E6176 => ?_)
                      have ci6177 := NI_p2 ci6096 E6176 rfl (by omega) (by omega)
                      have i6178 := ti_rg x1
                      have l6179 : ((1 : Int32)).toInt = 1 := rfl
                      first | (have a6180 : (x1 + (1 : Int32)).toInt = (x1).toInt + ((1 : Int32)).toInt := ti_add (by omega) (by omega)) | (have a6181 := ti_rg (x1 + (1 : Int32)))
                      first | (have a6182 : (x2 - (1 : Int32)).toInt = (x2).toInt - ((1 : Int32)).toInt := ti_sub (by omega) (by omega)) | (have a6183 := ti_rg (x2 - (1 : Int32)))
                      first | (have a6184 : (x4 + (1 : Int32)).toInt = (x4).toInt + ((1 : Int32)).toInt := ti_add (by omega) (by omega)) | (have a6185 := ti_rg (x4 + (1 : Int32)))
                      have b6186 := NI_g21 ci6177 (c := 0) (p := 48) rfl
                      have e6187 : (mz_gI t6175 0 48).toInt = (mz_gI q6089 0 48).toInt := by rw [E6176, gI_oth _ _ (by simp)]
                      have b6188 := NI_g22 ci6177 (c := 0) (p := 51) rfl
                      have e6189 : (mz_gI t6175 0 51).toInt = (mz_gI q6089 0 51).toInt := by rw [E6176, gI_oth _ _ (by simp)]
                      have b6190 := NI_13 ci6177 (c := 0) (p := 60) rfl
                      exact ih (x1 + (1 : Int32)) (x2 - (1 : Int32)) (x4 + (1 : Int32)) (x4 + (1 : Int32)) t6175 ci6177 (by omega) (by omega) (by omega) (by omega) (by omega) (by omega) (by omega) (by omega) (by omega) (by omega) (by omega) (by omega) (by omega)
                    · have g6191 := ti_nq h6173
                      refine Tp_if (fun h6192 => ?_) (fun h6192 => ?_)
                      · have g6193 := ti_l h6192
                        have l6194 : ((1 : Int32)).toInt = 1 := rfl
                        first | (have a6195 : (x2 - (1 : Int32)).toInt = (x2).toInt - ((1 : Int32)).toInt := ti_sub (by omega) (by omega)) | (have a6196 := ti_rg (x2 - (1 : Int32)))
                        unfold f_MO_readTexts_158
                        unfold f_MO_readTexts_159
                        refine Tp_gd (ti_b (by omega) (by omega)) ?_
                        refine Tp_le (fun t6197 E6198 => ?_)
                        have ci6199 := NI_p2 ci6096 E6198 rfl (by omega) (by omega)
                        have i6200 := ti_rg x1
                        first | (have a6201 : (x1 + (1 : Int32)).toInt = (x1).toInt + ((1 : Int32)).toInt := ti_add (by omega) (by omega)) | (have a6202 := ti_rg (x1 + (1 : Int32)))
                        first | (have a6203 : (x4 + (1 : Int32)).toInt = (x4).toInt + ((1 : Int32)).toInt := ti_add (by omega) (by omega)) | (have a6204 := ti_rg (x4 + (1 : Int32)))
                        have b6205 := NI_g21 ci6199 (c := 0) (p := 48) rfl
                        have e6206 : (mz_gI t6197 0 48).toInt = (mz_gI q6089 0 48).toInt := by rw [E6198, gI_oth _ _ (by simp)]
                        have b6207 := NI_g22 ci6199 (c := 0) (p := 51) rfl
                        have e6208 : (mz_gI t6197 0 51).toInt = (mz_gI q6089 0 51).toInt := by rw [E6198, gI_oth _ _ (by simp)]
                        have b6209 := NI_13 ci6199 (c := 0) (p := 60) rfl
                        exact ih (x1 + (1 : Int32)) (x2 - (1 : Int32)) (x4 + (1 : Int32)) (x4 + (1 : Int32)) t6197 ci6199 (by omega) (by omega) (by omega) (by omega) (by omega) (by omega) (by omega) (by omega) (by omega) (by omega) (by omega) (by omega) (by omega)
                      · have g6210 := ti_nl h6192
                        have l6211 : ((1 : Int32)).toInt = 1 := rfl
                        first | (have a6212 : (x2 - (1 : Int32)).toInt = (x2).toInt - ((1 : Int32)).toInt := ti_sub (by omega) (by omega)) | (have a6213 := ti_rg (x2 - (1 : Int32)))
                        unfold f_MO_readTexts_159
                        refine Tp_gd (ti_b (by omega) (by omega)) ?_
                        refine Tp_le (fun t6214 E6215 => ?_)
                        have ci6216 := NI_p2 ci6096 E6215 rfl (by omega) (by omega)
                        have i6217 := ti_rg x1
                        first | (have a6218 : (x1 + (1 : Int32)).toInt = (x1).toInt + ((1 : Int32)).toInt := ti_add (by omega) (by omega)) | (have a6219 := ti_rg (x1 + (1 : Int32)))
                        first | (have a6220 : (x4 + (1 : Int32)).toInt = (x4).toInt + ((1 : Int32)).toInt := ti_add (by omega) (by omega)) | (have a6221 := ti_rg (x4 + (1 : Int32)))
                        have b6222 := NI_g21 ci6216 (c := 0) (p := 48) rfl
                        have e6223 : (mz_gI t6214 0 48).toInt = (mz_gI q6089 0 48).toInt := by rw [E6215, gI_oth _ _ (by simp)]
                        have b6224 := NI_g22 ci6216 (c := 0) (p := 51) rfl
                        have e6225 : (mz_gI t6214 0 51).toInt = (mz_gI q6089 0 51).toInt := by rw [E6215, gI_oth _ _ (by simp)]
                        have b6226 := NI_13 ci6216 (c := 0) (p := 60) rfl
                        exact ih (x1 + (1 : Int32)) (x2 - (1 : Int32)) (x4 + (1 : Int32)) (x4 + (1 : Int32)) t6214 ci6216 (by omega) (by omega) (by omega) (by omega) (by omega) (by omega) (by omega) (by omega) (by omega) (by omega) (by omega) (by omega) (by omega)
                  · have g6227 := ti_nq h6170
                    have l6228 : ((41 : Int32)).toInt = 41 := rfl
                    unfold f_MO_readTexts_141
                    refine Tp_if (fun h6229 => ?_) (fun h6229 => ?_)
                    · have g6230 := ti_q h6229
                      unfold f_MO_readTexts_158
                      unfold f_MO_readTexts_159
                      refine Tp_gd (ti_b (by omega) (by omega)) ?_
                      refine Tp_le (fun t6231 E6232 => ?_)
                      have ci6233 := NI_p2 ci6096 E6232 rfl (by omega) (by omega)
                      have i6234 := ti_rg x1
                      have l6235 : ((1 : Int32)).toInt = 1 := rfl
                      first | (have a6236 : (x1 + (1 : Int32)).toInt = (x1).toInt + ((1 : Int32)).toInt := ti_add (by omega) (by omega)) | (have a6237 := ti_rg (x1 + (1 : Int32)))
                      first | (have a6238 : (x4 + (1 : Int32)).toInt = (x4).toInt + ((1 : Int32)).toInt := ti_add (by omega) (by omega)) | (have a6239 := ti_rg (x4 + (1 : Int32)))
                      have b6240 := NI_g21 ci6233 (c := 0) (p := 48) rfl
                      have e6241 : (mz_gI t6231 0 48).toInt = (mz_gI q6089 0 48).toInt := by rw [E6232, gI_oth _ _ (by simp)]
                      have b6242 := NI_g22 ci6233 (c := 0) (p := 51) rfl
                      have e6243 : (mz_gI t6231 0 51).toInt = (mz_gI q6089 0 51).toInt := by rw [E6232, gI_oth _ _ (by simp)]
                      have b6244 := NI_13 ci6233 (c := 0) (p := 60) rfl
                      exact ih (x1 + (1 : Int32)) x2 (x4 + (1 : Int32)) (x4 + (1 : Int32)) t6231 ci6233 (by omega) (by omega) (by omega) (by omega) (by omega) (by omega) (by omega) (by omega) (by omega) (by omega) (by omega) (by omega) (by omega)
                    · have g6245 := ti_nq h6229
                      refine Tp_if (fun h6246 => ?_) (fun h6246 => ?_)
                      · have g6247 := ti_l h6246
                        unfold f_MO_readTexts_158
                        unfold f_MO_readTexts_159
                        refine Tp_gd (ti_b (by omega) (by omega)) ?_
                        refine Tp_le (fun t6248 E6249 => ?_)
                        have ci6250 := NI_p2 ci6096 E6249 rfl (by omega) (by omega)
                        have i6251 := ti_rg x1
                        have l6252 : ((1 : Int32)).toInt = 1 := rfl
                        first | (have a6253 : (x1 + (1 : Int32)).toInt = (x1).toInt + ((1 : Int32)).toInt := ti_add (by omega) (by omega)) | (have a6254 := ti_rg (x1 + (1 : Int32)))
                        first | (have a6255 : (x4 + (1 : Int32)).toInt = (x4).toInt + ((1 : Int32)).toInt := ti_add (by omega) (by omega)) | (have a6256 := ti_rg (x4 + (1 : Int32)))
                        have b6257 := NI_g21 ci6250 (c := 0) (p := 48) rfl
                        have e6258 : (mz_gI t6248 0 48).toInt = (mz_gI q6089 0 48).toInt := by rw [E6249, gI_oth _ _ (by simp)]
                        have b6259 := NI_g22 ci6250 (c := 0) (p := 51) rfl
                        have e6260 : (mz_gI t6248 0 51).toInt = (mz_gI q6089 0 51).toInt := by rw [E6249, gI_oth _ _ (by simp)]
                        have b6261 := NI_13 ci6250 (c := 0) (p := 60) rfl
                        exact ih (x1 + (1 : Int32)) x2 (x4 + (1 : Int32)) (x4 + (1 : Int32)) t6248 ci6250 (by omega) (by omega) (by omega) (by omega) (by omega) (by omega) (by omega) (by omega) (by omega) (by omega) (by omega) (by omega) (by omega)
                      · have g6262 := ti_nl h6246
                        unfold f_MO_readTexts_159
                        have l6263 : ((1 : Int32)).toInt = 1 := rfl
                        refine Tp_gd (ti_b (by omega) (by omega)) ?_
                        refine Tp_le (fun t6264 E6265 => ?_)
                        have ci6266 := NI_p2 ci6096 E6265 rfl (by omega) (by omega)
                        have i6267 := ti_rg x1
                        first | (have a6268 : (x1 + (1 : Int32)).toInt = (x1).toInt + ((1 : Int32)).toInt := ti_add (by omega) (by omega)) | (have a6269 := ti_rg (x1 + (1 : Int32)))
                        first | (have a6270 : (x4 + (1 : Int32)).toInt = (x4).toInt + ((1 : Int32)).toInt := ti_add (by omega) (by omega)) | (have a6271 := ti_rg (x4 + (1 : Int32)))
                        have b6272 := NI_g21 ci6266 (c := 0) (p := 48) rfl
                        have e6273 : (mz_gI t6264 0 48).toInt = (mz_gI q6089 0 48).toInt := by rw [E6265, gI_oth _ _ (by simp)]
                        have b6274 := NI_g22 ci6266 (c := 0) (p := 51) rfl
                        have e6275 : (mz_gI t6264 0 51).toInt = (mz_gI q6089 0 51).toInt := by rw [E6265, gI_oth _ _ (by simp)]
                        have b6276 := NI_13 ci6266 (c := 0) (p := 60) rfl
                        exact ih (x1 + (1 : Int32)) x2 (x4 + (1 : Int32)) (x4 + (1 : Int32)) t6264 ci6266 (by omega) (by omega) (by omega) (by omega) (by omega) (by omega) (by omega) (by omega) (by omega) (by omega) (by omega) (by omega) (by omega)
