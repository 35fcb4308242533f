/-! TOTAL: written by vcg.py -/
set_option maxRecDepth 4000 in
set_option maxHeartbeats 8000000 in
theorem s_SI_at {n : Nat} {L : Int32} (hn : 8589934592 ≤ n) {x1 : Int32} {t : mz_St}  (ci : CI L t)  : Tp (f_SI_at n x1 t) (fun r => CI L r.2 ∧ r.2 = t) := by
  unfold f_SI_at
  refine Tp_if (fun h1 => ?_) (fun h1 => ?_)
  · have g2 := ti_l h1
    have i3 := ti_rg x1
    have l4 : (0 : Int32).toInt = 0 := rfl
    refine Tp_so ?_
    have l5 : ((-1 : Int32)).toInt = -1 := rfl
    exact ⟨ci, rfl⟩
  · have g6 := ti_nl h1
    have i7 := ti_rg x1
    have l8 : (0 : Int32).toInt = 0 := rfl
    refine Tp_if (fun h9 => ?_) (fun h9 => ?_)
    · have g10 := ti_e h9
      have l11 : ((6600 : Int32)).toInt = 6600 := rfl
      refine Tp_so ?_
      have l12 : ((-1 : Int32)).toInt = -1 := rfl
      exact ⟨ci, rfl⟩
    · have g13 := ti_ne h9
      have l14 : ((6600 : Int32)).toInt = 6600 := rfl
      refine Tp_gd (ti_ix (by omega) (by omega)) ?_
      refine Tp_so ?_
      have i15 := ti_rg (mz_gI t 2 x1.toNatClampNeg)
      exact ⟨ci, rfl⟩
set_option maxRecDepth 4000 in
set_option maxHeartbeats 8000000 in
theorem l_SI_find_3 {n : Nat} {L : Int32} (hn : 8589934592 ≤ n) (g0 : Int) : ∀ (k : Nat) (x1 : Int32) (x3 : Int32) (x4 : Int32) (t : mz_St), CI L t → (g0 ≤ x4.toInt) → ((x4.toInt ≤ x3.toInt ∨ x4.toInt = g0)) → (2147483648 - x4.toInt).toNat < k → Tp (f_SI_find_3 n k x1 x3 x4 t) (fun r => CI L r.2 ∧ r.2 = t ∧ g0 ≤ (r.1).toInt ∧ ((r.1).toInt ≤ x3.toInt ∨ (r.1).toInt = g0)) := by
  intro k
  induction k with
  | zero => intros; omega
  | succ k ih =>
    intro x1 x3 x4 t ci i0 i1 hm
    unfold f_SI_find_3
    refine Tp_if (fun h16 => ?_) (fun h16 => ?_)
    · have g17 := ti_e h16
      have i18 := ti_rg x3
      have i19 := ti_rg x4
      refine Tp_so ?_
      refine ⟨ci, rfl, ?_, ?_⟩
      · (try dsimp only) <;> first | omega | assumption
      · (try dsimp only) <;> first | omega | assumption
    · have g20 := ti_ne h16
      have i21 := ti_rg x3
      have i22 := ti_rg x4
      refine Tp_bi (s_SI_at hn ci  (t := t) (x1 := x4)) (fun q23 h24 => ?_)
      obtain ⟨ci25, E26⟩ := h24
      try rw [E26]
      refine Tp_if (fun h27 => ?_) (fun h27 => ?_)
      · have g28 := ti_q h27
        have i29 := ti_rg q23.1
        have i30 := ti_rg x1
        refine Tp_so ?_
        refine ⟨ci, rfl, ?_, ?_⟩
        · (try dsimp only) <;> first | omega | assumption
        · (try dsimp only) <;> first | omega | assumption
      · have g31 := ti_nq h27
        have i32 := ti_rg q23.1
        have i33 := ti_rg x1
        have l34 : ((1 : Int32)).toInt = 1 := rfl
        first | (have a35 : (x4 + (1 : Int32)).toInt = (x4).toInt + ((1 : Int32)).toInt := ti_add (by omega) (by omega)) | (have a36 := ti_rg (x4 + (1 : Int32)))
        exact ih x1 x3 (x4 + (1 : Int32)) t ci (by omega) (by omega) (by omega)
set_option maxRecDepth 4000 in
set_option maxHeartbeats 8000000 in
theorem s_SI_find {n : Nat} {L : Int32} (hn : 8589934592 ≤ n) {x1 : Int32} {x2 : Int32} {x3 : Int32} {t : mz_St}  (ci : CI L t)  : Tp (f_SI_find n x1 x2 x3 t) (fun r => CI L r.2 ∧ r.2 = t ∧ x2.toInt ≤ (r.1).toInt ∧ ((r.1).toInt ≤ x3.toInt ∨ (r.1).toInt = x2.toInt)) := by
  unfold f_SI_find
  have i37 := ti_rg x1
  have i38 := ti_rg x3
  have i39 := ti_rg x2
  refine Tp_mo (l_SI_find_3 hn (x2.toInt) n x1 x3 x2 t ci (by omega) (by omega) (by omega)) (fun q40 h41 => ?_)
  obtain ⟨ci42, E43, p44, p45⟩ := h41
  have i46 := ti_rg q40.1
  refine ⟨ci42, (E43), ?_, ?_⟩
  · (try dsimp only) <;> first | omega | assumption
  · (try dsimp only) <;> first | omega | assumption
set_option maxRecDepth 4000 in
set_option maxHeartbeats 8000000 in
theorem l_SI_behindBlanks_2 {n : Nat} {L : Int32} (hn : 8589934592 ≤ n) (g0 : Int) : ∀ (k : Nat) (x2 : Int32) (x3 : Int32) (t : mz_St), CI L t → (g0 ≤ x3.toInt) → ((x3.toInt ≤ x2.toInt ∨ x3.toInt = g0)) → (2147483648 - x3.toInt).toNat < k → Tp (f_SI_behindBlanks_2 n k x2 x3 t) (fun r => CI L r.2 ∧ r.2 = t ∧ g0 ≤ (r.1).toInt ∧ ((r.1).toInt ≤ x2.toInt ∨ (r.1).toInt = g0)) := by
  intro k
  induction k with
  | zero => intros; omega
  | succ k ih =>
    intro x2 x3 t ci i0 i1 hm
    unfold f_SI_behindBlanks_2
    refine Tp_if (fun h47 => ?_) (fun h47 => ?_)
    · have g48 := ti_e h47
      have i49 := ti_rg x2
      have i50 := ti_rg x3
      refine Tp_so ?_
      refine ⟨ci, rfl, ?_, ?_⟩
      · (try dsimp only) <;> first | omega | assumption
      · (try dsimp only) <;> first | omega | assumption
    · have g51 := ti_ne h47
      have i52 := ti_rg x2
      have i53 := ti_rg x3
      refine Tp_if (fun h54 => ?_) (fun h54 => ?_)
      · have g55 := ti_l h54
        have l56 : (0 : Int32).toInt = 0 := rfl
        refine Tp_so ?_
        refine ⟨ci, rfl, ?_, ?_⟩
        · (try dsimp only) <;> first | omega | assumption
        · (try dsimp only) <;> first | omega | assumption
      · have g57 := ti_nl h54
        have l58 : (0 : Int32).toInt = 0 := rfl
        refine Tp_if (fun h59 => ?_) (fun h59 => ?_)
        · have g60 := ti_e h59
          have l61 : ((6600 : Int32)).toInt = 6600 := rfl
          refine Tp_so ?_
          refine ⟨ci, rfl, ?_, ?_⟩
          · (try dsimp only) <;> first | omega | assumption
          · (try dsimp only) <;> first | omega | assumption
        · have g62 := ti_ne h59
          have l63 : ((6600 : Int32)).toInt = 6600 := rfl
          refine Tp_gd (ti_ix (by omega) (by omega)) ?_
          refine Tp_if (fun h64 => ?_) (fun h64 => ?_)
          · have g65 := ti_q h64
            have i66 := ti_rg (mz_gI t 2 x3.toNatClampNeg)
            have l67 : ((32 : Int32)).toInt = 32 := rfl
            have l68 : ((1 : Int32)).toInt = 1 := rfl
            first | (have a69 : (x3 + (1 : Int32)).toInt = (x3).toInt + ((1 : Int32)).toInt := ti_add (by omega) (by omega)) | (have a70 := ti_rg (x3 + (1 : Int32)))
            exact ih x2 (x3 + (1 : Int32)) t ci (by omega) (by omega) (by omega)
          · have g71 := ti_nq h64
            have i72 := ti_rg (mz_gI t 2 x3.toNatClampNeg)
            have l73 : ((32 : Int32)).toInt = 32 := rfl
            refine Tp_so ?_
            refine ⟨ci, rfl, ?_, ?_⟩
            · (try dsimp only) <;> first | omega | assumption
            · (try dsimp only) <;> first | omega | assumption
set_option maxRecDepth 4000 in
set_option maxHeartbeats 8000000 in
theorem s_SI_behindBlanks {n : Nat} {L : Int32} (hn : 8589934592 ≤ n) {x1 : Int32} {x2 : Int32} {t : mz_St}  (ci : CI L t)  : Tp (f_SI_behindBlanks n x1 x2 t) (fun r => CI L r.2 ∧ r.2 = t ∧ x1.toInt ≤ (r.1).toInt ∧ ((r.1).toInt ≤ x2.toInt ∨ (r.1).toInt = x1.toInt)) := by
  unfold f_SI_behindBlanks
  have i74 := ti_rg x2
  have i75 := ti_rg x1
  refine Tp_mo (l_SI_behindBlanks_2 hn (x1.toInt) n x2 x1 t ci (by omega) (by omega) (by omega)) (fun q76 h77 => ?_)
  obtain ⟨ci78, E79, p80, p81⟩ := h77
  have i82 := ti_rg q76.1
  refine ⟨ci78, (E79), ?_, ?_⟩
  · (try dsimp only) <;> first | omega | assumption
  · (try dsimp only) <;> first | omega | assumption
set_option maxRecDepth 4000 in
set_option maxHeartbeats 8000000 in
theorem l_SI_aheadOfBlanks_2 {n : Nat} {L : Int32} (hn : 8589934592 ≤ n) (g0 : Int) : ∀ (k : Nat) (x1 : Int32) (x3 : Int32) (t : mz_St), CI L t → (x3.toInt ≤ g0) → ((x1.toInt ≤ x3.toInt ∨ x3.toInt = g0)) → (x3.toInt + 2147483648).toNat < k → Tp (f_SI_aheadOfBlanks_2 n k x1 x3 t) (fun r => CI L r.2 ∧ r.2 = t ∧ (r.1).toInt ≤ g0 ∧ (x1.toInt ≤ (r.1).toInt ∨ (r.1).toInt = g0)) := by
  intro k
  induction k with
  | zero => intros; omega
  | succ k ih =>
    intro x1 x3 t ci i0 i1 hm
    unfold f_SI_aheadOfBlanks_2
    simp only [ti_m1]
    refine Tp_if (fun h83 => ?_) (fun h83 => ?_)
    · have g84 := ti_e h83
      have i85 := ti_rg x3
      have i86 := ti_rg x1
      refine Tp_so ?_
      refine ⟨ci, rfl, ?_, ?_⟩
      · (try dsimp only) <;> first | omega | assumption
      · (try dsimp only) <;> first | omega | assumption
    · have g87 := ti_ne h83
      have i88 := ti_rg x3
      have i89 := ti_rg x1
      refine Tp_if (fun h90 => ?_) (fun h90 => ?_)
      · have g91 := ti_e h90
        have l92 : (0 : Int32).toInt = 0 := rfl
        refine Tp_so ?_
        refine ⟨ci, rfl, ?_, ?_⟩
        · (try dsimp only) <;> first | omega | assumption
        · (try dsimp only) <;> first | omega | assumption
      · have g93 := ti_ne h90
        have l94 : (0 : Int32).toInt = 0 := rfl
        refine Tp_if (fun h95 => ?_) (fun h95 => ?_)
        · have g96 := ti_l h95
          have l97 : ((6600 : Int32)).toInt = 6600 := rfl
          refine Tp_so ?_
          refine ⟨ci, rfl, ?_, ?_⟩
          · (try dsimp only) <;> first | omega | assumption
          · (try dsimp only) <;> first | omega | assumption
        · have g98 := ti_nl h95
          have l99 : ((6600 : Int32)).toInt = 6600 := rfl
          have l100 : ((1 : Int32)).toInt = 1 := rfl
          first | (have a101 : (x3 - (1 : Int32)).toInt = (x3).toInt - ((1 : Int32)).toInt := ti_sub (by omega) (by omega)) | (have a102 := ti_rg (x3 - (1 : Int32)))
          refine Tp_gd (ti_ix (by omega) (by omega)) ?_
          refine Tp_if (fun h103 => ?_) (fun h103 => ?_)
          · have g104 := ti_q h103
            have i105 := ti_rg (mz_gI t 2 (x3 - (1 : Int32)).toNatClampNeg)
            have l106 : ((32 : Int32)).toInt = 32 := rfl
            exact ih x1 (x3 - (1 : Int32)) t ci (by omega) (by omega) (by omega)
          · have g107 := ti_nq h103
            have i108 := ti_rg (mz_gI t 2 (x3 - (1 : Int32)).toNatClampNeg)
            have l109 : ((32 : Int32)).toInt = 32 := rfl
            refine Tp_so ?_
            refine ⟨ci, rfl, ?_, ?_⟩
            · (try dsimp only) <;> first | omega | assumption
            · (try dsimp only) <;> first | omega | assumption
set_option maxRecDepth 4000 in
set_option maxHeartbeats 8000000 in
theorem s_SI_aheadOfBlanks {n : Nat} {L : Int32} (hn : 8589934592 ≤ n) {x1 : Int32} {x2 : Int32} {t : mz_St}  (ci : CI L t)  : Tp (f_SI_aheadOfBlanks n x1 x2 t) (fun r => CI L r.2 ∧ r.2 = t ∧ (r.1).toInt ≤ x2.toInt ∧ (x1.toInt ≤ (r.1).toInt ∨ (r.1).toInt = x2.toInt)) := by
  unfold f_SI_aheadOfBlanks
  have i110 := ti_rg x1
  have i111 := ti_rg x2
  refine Tp_mo (l_SI_aheadOfBlanks_2 hn (x2.toInt) n x1 x2 t ci (by omega) (by omega) (by omega)) (fun q112 h113 => ?_)
  obtain ⟨ci114, E115, p116, p117⟩ := h113
  have i118 := ti_rg q112.1
  refine ⟨ci114, (E115), ?_, ?_⟩
  · (try dsimp only) <;> first | omega | assumption
  · (try dsimp only) <;> first | omega | assumption
set_option maxRecDepth 4000 in
set_option maxHeartbeats 8000000 in
theorem s_SI_keepRange {n : Nat} {L : Int32} (hn : 8589934592 ≤ n) {x1 : Int32} {x2 : Int32} {t : mz_St}  (ci : CI L t) (i0 : -1 ≤ x1.toInt) (i1 : x1.toInt ≤ 3001) (i2 : -1 ≤ x2.toInt) (i3 : x2.toInt ≤ 3001) : Tp (f_SI_keepRange n x1 x2 t) (fun r => CI L r) := by
  unfold f_SI_keepRange
  refine Tp_if (fun h119 => ?_) (fun h119 => ?_)
  · have g120 := ti_e h119
    have l121 : ((3001 : Int32)).toInt = 3001 := rfl
    have b122 := CI_g4 ci (c := 1) (p := 4) rfl
    refine Tp_so ?_
    exact ci
  · have g123 := ti_ne h119
    have l124 : ((3001 : Int32)).toInt = 3001 := rfl
    have b125 := CI_g4 ci (c := 1) (p := 4) rfl
    refine Tp_if (fun h126 => ?_) (fun h126 => ?_)
    · have g127 := ti_l h126
      have l130 : ((35 : Int32)).toInt = 35 := rfl
      have i131 := ti_rg x1
      have i132 := ti_rg x2
      refine Tp_bi (s_SI_find hn ci  (t := t) (x1 := (35 : Int32)) (x2 := x1) (x3 := x2)) (fun q128 h129 => ?_)
      obtain ⟨ci133, E134, p135, p136⟩ := h129
      try rw [E134]
      have i139 := ti_rg q128.1
      refine Tp_bi (s_SI_behindBlanks hn ci  (t := t) (x1 := x1) (x2 := q128.1)) (fun q137 h138 => ?_)
      obtain ⟨ci140, E141, p142, p143⟩ := h138
      try rw [E141]
      refine Tp_gd (ti_ix (by omega) (by omega)) ?_
      have i146 := ti_rg q137.1
      refine Tp_le (fun t144 E145 => ?_)
      have k148 := ti_cl (mz_gI t 1 4)
      have ci147 := CI_p14 ci E145 rfl (by omega) (by omega)
      refine Tp_bi (s_SI_aheadOfBlanks hn ci147  (t := t144) (x1 := q137.1) (x2 := q128.1)) (fun q149 h150 => ?_)
      obtain ⟨ci151, E152, p153, p154⟩ := h150
      try rw [E152]
      have b155 := CI_g4 ci147 (c := 1) (p := 4) rfl
      have e156 : (mz_gI t144 1 4).toInt = (mz_gI t 1 4).toInt := by rw [E145, gI_oth _ _ (by simp)]
      refine Tp_gd (ti_ix (by omega) (by omega)) ?_
      have i159 := ti_rg q149.1
      refine Tp_le (fun t157 E158 => ?_)
      have k161 := ti_cl (mz_gI t144 1 4)
      have ci160 := CI_p14 ci147 E158 rfl (by omega) (by omega)
      have b164 := CI_g4 ci160 (c := 1) (p := 4) rfl
      have e165 : (mz_gI t157 1 4).toInt = (mz_gI t144 1 4).toInt := by rw [E158, gI_oth _ _ (by simp)]
      have l166 : ((1 : Int32)).toInt = 1 := rfl
      first | (have a167 : ((mz_gI t157 1 4) + (1 : Int32)).toInt = (mz_gI t157 1 4).toInt + ((1 : Int32)).toInt := ti_add (by omega) (by omega)) | (have a168 := ti_rg ((mz_gI t157 1 4) + (1 : Int32)))
      refine Tp_le (fun t162 E163 => ?_)
      have l170 : (4 : Int32).toInt = 4 := rfl
      have ci169 := CI_p4 ci160 E163 rfl (by omega) (by omega)
      refine Tp_so ?_
      exact ci169
    · have g171 := ti_nl h126
      refine Tp_so ?_
      exact ci
set_option maxRecDepth 4000 in
set_option maxHeartbeats 8000000 in
theorem l_SI_partIntoLines_9 {n : Nat} {L : Int32} (hn : 8589934592 ≤ n)  : ∀ (k : Nat) (x1 : Int32) (x2 : Int32) (t : mz_St), CI L t → (0 ≤ x1.toInt) → (x1.toInt ≤ 3001) → (0 ≤ x2.toInt) → (x2.toInt ≤ 3001) → (2147483648 - x2.toInt).toNat < k → Tp (f_SI_partIntoLines_9 n k x1 x2 t) (fun r => CI L r) := by
  intro k
  induction k with
  | zero => intros; omega
  | succ k ih =>
    intro x1 x2 t ci i0 i1 i2 i3 hm
    unfold f_SI_partIntoLines_9
    refine Tp_if (fun h172 => ?_) (fun h172 => ?_)
    · have g173 := ti_l h172
      have b174 := CI_g13 ci
      have i175 := ti_rg x2
      refine Tp_so ?_
      exact ci
    · have g176 := ti_nl h172
      have b177 := CI_g13 ci
      have i178 := ti_rg x2
      refine Tp_if (fun h179 => ?_) (fun h179 => ?_)
      · have g180 := ti_q h179
        unfold f_SI_partIntoLines_35
        have i183 := ti_rg x1
        refine Tp_bi (s_SI_keepRange hn ci (by omega) (by omega) (by omega) (by omega) (t := t) (x1 := x1) (x2 := x2)) (fun q181 h182 => ?_)
        have ci184 := h182
        unfold f_SI_partIntoLines_45
        have l185 : ((1 : Int32)).toInt = 1 := rfl
        first | (have a186 : (x2 + (1 : Int32)).toInt = (x2).toInt + ((1 : Int32)).toInt := ti_add (by omega) (by omega)) | (have a187 := ti_rg (x2 + (1 : Int32)))
        exact ih (x2 + (1 : Int32)) (x2 + (1 : Int32)) q181 ci184 (by omega) (by omega) (by omega) (by omega) (by omega)
      · have g188 := ti_nq h179
        refine Tp_bi (s_SI_at hn ci  (t := t) (x1 := x2)) (fun q189 h190 => ?_)
        obtain ⟨ci191, E192⟩ := h190
        try rw [E192]
        refine Tp_if (fun h193 => ?_) (fun h193 => ?_)
        · have g194 := ti_q h193
          have i195 := ti_rg q189.1
          have l196 : ((10 : Int32)).toInt = 10 := rfl
          unfold f_SI_partIntoLines_35
          have i199 := ti_rg x1
          refine Tp_bi (s_SI_keepRange hn ci (by omega) (by omega) (by omega) (by omega) (t := t) (x1 := x1) (x2 := x2)) (fun q197 h198 => ?_)
          have ci200 := h198
          unfold f_SI_partIntoLines_45
          have l201 : ((1 : Int32)).toInt = 1 := rfl
          first | (have a202 : (x2 + (1 : Int32)).toInt = (x2).toInt + ((1 : Int32)).toInt := ti_add (by omega) (by omega)) | (have a203 := ti_rg (x2 + (1 : Int32)))
          exact ih (x2 + (1 : Int32)) (x2 + (1 : Int32)) q197 ci200 (by omega) (by omega) (by omega) (by omega) (by omega)
        · have g204 := ti_nq h193
          have i205 := ti_rg q189.1
          have l206 : ((10 : Int32)).toInt = 10 := rfl
          unfold f_SI_partIntoLines_45
          have i207 := ti_rg x1
          have l208 : ((1 : Int32)).toInt = 1 := rfl
          first | (have a209 : (x2 + (1 : Int32)).toInt = (x2).toInt + ((1 : Int32)).toInt := ti_add (by omega) (by omega)) | (have a210 := ti_rg (x2 + (1 : Int32)))
          exact ih x1 (x2 + (1 : Int32)) t ci (by omega) (by omega) (by omega) (by omega) (by omega)
set_option maxRecDepth 4000 in
set_option maxHeartbeats 8000000 in
theorem s_SI_partIntoLines {n : Nat} {L : Int32} (hn : 8589934592 ≤ n) {t : mz_St}  (ci : CI L t)  : Tp (f_SI_partIntoLines n t) (fun r => CI L r) := by
  unfold f_SI_partIntoLines
  have l213 : ((0 : Int32)).toInt = 0 := rfl
  refine Tp_le (fun t211 E212 => ?_)
  have l215 : (4 : Int32).toInt = 4 := rfl
  have ci214 := CI_p4 ci E212 rfl (by omega) (by omega)
  refine Tp_mo (l_SI_partIntoLines_9 hn  n (0 : Int32) (0 : Int32) t211 ci214 (by omega) (by omega) (by omega) (by omega) (by omega)) (fun q216 h217 => ?_)
  have ci218 := h217
  exact ci218
set_option maxRecDepth 4000 in
set_option maxHeartbeats 8000000 in
theorem l_SI_argumentEnd_5 {n : Nat} {L : Int32} (hn : 8589934592 ≤ n) (g0 : Int) : ∀ (k : Nat) (x2 : Int32) (x3 : Int32) (x4 : Int32) (t : mz_St), CI L t → (g0 ≤ x4.toInt) → ((x4.toInt ≤ x2.toInt ∨ x4.toInt = g0)) → (2147483648 - x4.toInt).toNat < k → Tp (f_SI_argumentEnd_5 n k x2 x3 x4 t) (fun r => CI L r.2 ∧ r.2 = t ∧ ((r.1).toInt = -1 ∨ g0 ≤ (r.1).toInt ∧ (r.1).toInt ≤ x2.toInt ∨ (r.1).toInt = x2.toInt)) := by
  intro k
  induction k with
  | zero => intros; omega
  | succ k ih =>
    intro x2 x3 x4 t ci i0 i1 hm
    unfold f_SI_argumentEnd_5
    refine Tp_if (fun h219 => ?_) (fun h219 => ?_)
    · have g220 := ti_e h219
      have i221 := ti_rg x2
      have i222 := ti_rg x4
      refine Tp_if (fun h223 => ?_) (fun h223 => ?_)
      · have g224 := ti_q h223
        have i225 := ti_rg x3
        have l226 : (0 : Int32).toInt = 0 := rfl
        refine Tp_so ?_
        refine ⟨ci, rfl, ?_⟩
        · (try dsimp only) <;> first | omega | assumption
      · have g227 := ti_nq h223
        have i228 := ti_rg x3
        have l229 : (0 : Int32).toInt = 0 := rfl
        refine Tp_so ?_
        have l230 : ((-1 : Int32)).toInt = -1 := rfl
        refine ⟨ci, rfl, ?_⟩
        · (try dsimp only) <;> first | omega | assumption
    · have g231 := ti_ne h219
      have i232 := ti_rg x2
      have i233 := ti_rg x4
      refine Tp_bi (s_SI_at hn ci  (t := t) (x1 := x4)) (fun q234 h235 => ?_)
      obtain ⟨ci236, E237⟩ := h235
      try rw [E237]
      refine Tp_if (fun h238 => ?_) (fun h238 => ?_)
      · have g239 := ti_q h238
        have i240 := ti_rg q234.1
        have l241 : ((44 : Int32)).toInt = 44 := rfl
        refine Tp_if (fun h242 => ?_) (fun h242 => ?_)
        · have g243 := ti_q h242
          have i244 := ti_rg x3
          have l245 : (0 : Int32).toInt = 0 := rfl
          refine Tp_so ?_
          refine ⟨ci, rfl, ?_⟩
          · (try dsimp only) <;> first | omega | assumption
        · have g246 := ti_nq h242
          have i247 := ti_rg x3
          have l248 : (0 : Int32).toInt = 0 := rfl
          unfold f_SI_argumentEnd_33
          refine Tp_if (fun h249 => ?_) (fun h249 => ?_)
          · have g250 := ti_q h249
            have l251 : ((40 : Int32)).toInt = 40 := rfl
            unfold f_SI_argumentEnd_43
            simp only [ti_m1]
            refine Tp_if (fun h252 => ?_) (fun h252 => ?_)
            · have g253 := ti_q h252
              have l254 : ((41 : Int32)).toInt = 41 := rfl
              unfold f_SI_argumentEnd_53
              refine Tp_if (fun h255 => ?_) (fun h255 => ?_)
              · have g256 := ti_e h255
                have l257 : ((1 : Int32)).toInt = 1 := rfl
                first | (have a258 : (x3 + (1 : Int32)).toInt = (x3).toInt + ((1 : Int32)).toInt := ti_add (by omega) (by omega)) | (have a259 := ti_rg (x3 + (1 : Int32)))
                first | (have a260 : ((x3 + (1 : Int32)) - (1 : Int32)).toInt = (x3 + (1 : Int32)).toInt - ((1 : Int32)).toInt := ti_sub (by omega) (by omega)) | (have a261 := ti_rg ((x3 + (1 : Int32)) - (1 : Int32)))
                first | (have a262 : (x4 + (1 : Int32)).toInt = (x4).toInt + ((1 : Int32)).toInt := ti_add (by omega) (by omega)) | (have a263 := ti_rg (x4 + (1 : Int32)))
                exact ih x2 ((x3 + (1 : Int32)) - (1 : Int32)) (x4 + (1 : Int32)) t ci (by omega) (by omega) (by omega)
              · have g264 := ti_ne h255
                have l265 : ((1 : Int32)).toInt = 1 := rfl
                first | (have a266 : (x3 + (1 : Int32)).toInt = (x3).toInt + ((1 : Int32)).toInt := ti_add (by omega) (by omega)) | (have a267 := ti_rg (x3 + (1 : Int32)))
                first | (have a268 : ((x3 + (1 : Int32)) - (1 : Int32)).toInt = (x3 + (1 : Int32)).toInt - ((1 : Int32)).toInt := ti_sub (by omega) (by omega)) | (have a269 := ti_rg ((x3 + (1 : Int32)) - (1 : Int32)))
                refine Tp_so ?_
                have l270 : ((-1 : Int32)).toInt = -1 := rfl
                refine ⟨ci, rfl, ?_⟩
                · (try dsimp only) <;> first | omega | assumption
            · have g271 := ti_nq h252
              have l272 : ((41 : Int32)).toInt = 41 := rfl
              unfold f_SI_argumentEnd_53
              refine Tp_if (fun h273 => ?_) (fun h273 => ?_)
              · have g274 := ti_e h273
                have l275 : ((1 : Int32)).toInt = 1 := rfl
                first | (have a276 : (x3 + (1 : Int32)).toInt = (x3).toInt + ((1 : Int32)).toInt := ti_add (by omega) (by omega)) | (have a277 := ti_rg (x3 + (1 : Int32)))
                first | (have a278 : (x4 + (1 : Int32)).toInt = (x4).toInt + ((1 : Int32)).toInt := ti_add (by omega) (by omega)) | (have a279 := ti_rg (x4 + (1 : Int32)))
                exact ih x2 (x3 + (1 : Int32)) (x4 + (1 : Int32)) t ci (by omega) (by omega) (by omega)
              · have g280 := ti_ne h273
                have l281 : ((1 : Int32)).toInt = 1 := rfl
                first | (have a282 : (x3 + (1 : Int32)).toInt = (x3).toInt + ((1 : Int32)).toInt := ti_add (by omega) (by omega)) | (have a283 := ti_rg (x3 + (1 : Int32)))
                refine Tp_so ?_
                have l284 : ((-1 : Int32)).toInt = -1 := rfl
                refine ⟨ci, rfl, ?_⟩
                · (try dsimp only) <;> first | omega | assumption
          · have g285 := ti_nq h249
            have l286 : ((40 : Int32)).toInt = 40 := rfl
            unfold f_SI_argumentEnd_43
            simp only [ti_m1]
            refine Tp_if (fun h287 => ?_) (fun h287 => ?_)
            · have g288 := ti_q h287
              have l289 : ((41 : Int32)).toInt = 41 := rfl
              unfold f_SI_argumentEnd_53
              refine Tp_if (fun h290 => ?_) (fun h290 => ?_)
              · have g291 := ti_e h290
                have l292 : ((1 : Int32)).toInt = 1 := rfl
                first | (have a293 : (x3 - (1 : Int32)).toInt = (x3).toInt - ((1 : Int32)).toInt := ti_sub (by omega) (by omega)) | (have a294 := ti_rg (x3 - (1 : Int32)))
                first | (have a295 : (x4 + (1 : Int32)).toInt = (x4).toInt + ((1 : Int32)).toInt := ti_add (by omega) (by omega)) | (have a296 := ti_rg (x4 + (1 : Int32)))
                exact ih x2 (x3 - (1 : Int32)) (x4 + (1 : Int32)) t ci (by omega) (by omega) (by omega)
              · have g297 := ti_ne h290
                have l298 : ((1 : Int32)).toInt = 1 := rfl
                first | (have a299 : (x3 - (1 : Int32)).toInt = (x3).toInt - ((1 : Int32)).toInt := ti_sub (by omega) (by omega)) | (have a300 := ti_rg (x3 - (1 : Int32)))
                refine Tp_so ?_
                have l301 : ((-1 : Int32)).toInt = -1 := rfl
                refine ⟨ci, rfl, ?_⟩
                · (try dsimp only) <;> first | omega | assumption
            · have g302 := ti_nq h287
              have l303 : ((41 : Int32)).toInt = 41 := rfl
              unfold f_SI_argumentEnd_53
              refine Tp_if (fun h304 => ?_) (fun h304 => ?_)
              · have g305 := ti_e h304
                have l306 : ((1 : Int32)).toInt = 1 := rfl
                first | (have a307 : (x4 + (1 : Int32)).toInt = (x4).toInt + ((1 : Int32)).toInt := ti_add (by omega) (by omega)) | (have a308 := ti_rg (x4 + (1 : Int32)))
                exact ih x2 x3 (x4 + (1 : Int32)) t ci (by omega) (by omega) (by omega)
              · have g309 := ti_ne h304
                refine Tp_so ?_
                have l310 : ((-1 : Int32)).toInt = -1 := rfl
                refine ⟨ci, rfl, ?_⟩
                · (try dsimp only) <;> first | omega | assumption
      · have g311 := ti_nq h238
        have i312 := ti_rg q234.1
        have l313 : ((44 : Int32)).toInt = 44 := rfl
        unfold f_SI_argumentEnd_33
        refine Tp_if (fun h314 => ?_) (fun h314 => ?_)
        · have g315 := ti_q h314
          have l316 : ((40 : Int32)).toInt = 40 := rfl
          unfold f_SI_argumentEnd_43
          simp only [ti_m1]
          refine Tp_if (fun h317 => ?_) (fun h317 => ?_)
          · have g318 := ti_q h317
            have l319 : ((41 : Int32)).toInt = 41 := rfl
            unfold f_SI_argumentEnd_53
            refine Tp_if (fun h320 => ?_) (fun h320 => ?_)
            · have g321 := ti_e h320
              have l322 : (0 : Int32).toInt = 0 := rfl
              have i323 := ti_rg x3
              have l324 : ((1 : Int32)).toInt = 1 := rfl
              first | (have a325 : (x3 + (1 : Int32)).toInt = (x3).toInt + ((1 : Int32)).toInt := ti_add (by omega) (by omega)) | (have a326 := ti_rg (x3 + (1 : Int32)))
              first | (have a327 : ((x3 + (1 : Int32)) - (1 : Int32)).toInt = (x3 + (1 : Int32)).toInt - ((1 : Int32)).toInt := ti_sub (by omega) (by omega)) | (have a328 := ti_rg ((x3 + (1 : Int32)) - (1 : Int32)))
              first | (have a329 : (x4 + (1 : Int32)).toInt = (x4).toInt + ((1 : Int32)).toInt := ti_add (by omega) (by omega)) | (have a330 := ti_rg (x4 + (1 : Int32)))
              exact ih x2 ((x3 + (1 : Int32)) - (1 : Int32)) (x4 + (1 : Int32)) t ci (by omega) (by omega) (by omega)
            · have g331 := ti_ne h320
              have l332 : (0 : Int32).toInt = 0 := rfl
              have i333 := ti_rg x3
              have l334 : ((1 : Int32)).toInt = 1 := rfl
              first | (have a335 : (x3 + (1 : Int32)).toInt = (x3).toInt + ((1 : Int32)).toInt := ti_add (by omega) (by omega)) | (have a336 := ti_rg (x3 + (1 : Int32)))
              first | (have a337 : ((x3 + (1 : Int32)) - (1 : Int32)).toInt = (x3 + (1 : Int32)).toInt - ((1 : Int32)).toInt := ti_sub (by omega) (by omega)) | (have a338 := ti_rg ((x3 + (1 : Int32)) - (1 : Int32)))
              refine Tp_so ?_
              have l339 : ((-1 : Int32)).toInt = -1 := rfl
              refine ⟨ci, rfl, ?_⟩
              · (try dsimp only) <;> first | omega | assumption
          · have g340 := ti_nq h317
            have l341 : ((41 : Int32)).toInt = 41 := rfl
            unfold f_SI_argumentEnd_53
            refine Tp_if (fun h342 => ?_) (fun h342 => ?_)
            · have g343 := ti_e h342
              have l344 : (0 : Int32).toInt = 0 := rfl
              have i345 := ti_rg x3
              have l346 : ((1 : Int32)).toInt = 1 := rfl
              first | (have a347 : (x3 + (1 : Int32)).toInt = (x3).toInt + ((1 : Int32)).toInt := ti_add (by omega) (by omega)) | (have a348 := ti_rg (x3 + (1 : Int32)))
              first | (have a349 : (x4 + (1 : Int32)).toInt = (x4).toInt + ((1 : Int32)).toInt := ti_add (by omega) (by omega)) | (have a350 := ti_rg (x4 + (1 : Int32)))
              exact ih x2 (x3 + (1 : Int32)) (x4 + (1 : Int32)) t ci (by omega) (by omega) (by omega)
            · have g351 := ti_ne h342
              have l352 : (0 : Int32).toInt = 0 := rfl
              have i353 := ti_rg x3
              have l354 : ((1 : Int32)).toInt = 1 := rfl
              first | (have a355 : (x3 + (1 : Int32)).toInt = (x3).toInt + ((1 : Int32)).toInt := ti_add (by omega) (by omega)) | (have a356 := ti_rg (x3 + (1 : Int32)))
              refine Tp_so ?_
              have l357 : ((-1 : Int32)).toInt = -1 := rfl
              refine ⟨ci, rfl, ?_⟩
              · (try dsimp only) <;> first | omega | assumption
        · have g358 := ti_nq h314
          have l359 : ((40 : Int32)).toInt = 40 := rfl
          unfold f_SI_argumentEnd_43
          simp only [ti_m1]
          refine Tp_if (fun h360 => ?_) (fun h360 => ?_)
          · have g361 := ti_q h360
            have l362 : ((41 : Int32)).toInt = 41 := rfl
            unfold f_SI_argumentEnd_53
            refine Tp_if (fun h363 => ?_) (fun h363 => ?_)
            · have g364 := ti_e h363
              have l365 : (0 : Int32).toInt = 0 := rfl
              have i366 := ti_rg x3
              have l367 : ((1 : Int32)).toInt = 1 := rfl
              first | (have a368 : (x3 - (1 : Int32)).toInt = (x3).toInt - ((1 : Int32)).toInt := ti_sub (by omega) (by omega)) | (have a369 := ti_rg (x3 - (1 : Int32)))
              first | (have a370 : (x4 + (1 : Int32)).toInt = (x4).toInt + ((1 : Int32)).toInt := ti_add (by omega) (by omega)) | (have a371 := ti_rg (x4 + (1 : Int32)))
              exact ih x2 (x3 - (1 : Int32)) (x4 + (1 : Int32)) t ci (by omega) (by omega) (by omega)
            · have g372 := ti_ne h363
              have l373 : (0 : Int32).toInt = 0 := rfl
              have i374 := ti_rg x3
              have l375 : ((1 : Int32)).toInt = 1 := rfl
              first | (have a376 : (x3 - (1 : Int32)).toInt = (x3).toInt - ((1 : Int32)).toInt := ti_sub (by omega) (by omega)) | (have a377 := ti_rg (x3 - (1 : Int32)))
              refine Tp_so ?_
              have l378 : ((-1 : Int32)).toInt = -1 := rfl
              refine ⟨ci, rfl, ?_⟩
              · (try dsimp only) <;> first | omega | assumption
          · have g379 := ti_nq h360
            have l380 : ((41 : Int32)).toInt = 41 := rfl
            unfold f_SI_argumentEnd_53
            refine Tp_if (fun h381 => ?_) (fun h381 => ?_)
            · have g382 := ti_e h381
              have l383 : (0 : Int32).toInt = 0 := rfl
              have i384 := ti_rg x3
              have l385 : ((1 : Int32)).toInt = 1 := rfl
              first | (have a386 : (x4 + (1 : Int32)).toInt = (x4).toInt + ((1 : Int32)).toInt := ti_add (by omega) (by omega)) | (have a387 := ti_rg (x4 + (1 : Int32)))
              exact ih x2 x3 (x4 + (1 : Int32)) t ci (by omega) (by omega) (by omega)
            · have g388 := ti_ne h381
              have l389 : (0 : Int32).toInt = 0 := rfl
              have i390 := ti_rg x3
              refine Tp_so ?_
              have l391 : ((-1 : Int32)).toInt = -1 := rfl
              refine ⟨ci, rfl, ?_⟩
              · (try dsimp only) <;> first | omega | assumption
set_option maxRecDepth 4000 in
set_option maxHeartbeats 8000000 in
theorem s_SI_argumentEnd {n : Nat} {L : Int32} (hn : 8589934592 ≤ n) {x1 : Int32} {x2 : Int32} {t : mz_St}  (ci : CI L t)  : Tp (f_SI_argumentEnd n x1 x2 t) (fun r => CI L r.2 ∧ r.2 = t ∧ ((r.1).toInt = -1 ∨ x1.toInt ≤ (r.1).toInt ∧ (r.1).toInt ≤ x2.toInt ∨ (r.1).toInt = x2.toInt)) := by
  unfold f_SI_argumentEnd
  have i392 := ti_rg x2
  have l393 : ((0 : Int32)).toInt = 0 := rfl
  have i394 := ti_rg x1
  refine Tp_mo (l_SI_argumentEnd_5 hn (x1.toInt) n x2 (0 : Int32) x1 t ci (by omega) (by omega) (by omega)) (fun q395 h396 => ?_)
  obtain ⟨ci397, E398, p399⟩ := h396
  have i400 := ti_rg q395.1
  refine ⟨ci397, (E398), ?_⟩
  · (try dsimp only) <;> first | omega | assumption
set_option maxRecDepth 4000 in
set_option maxHeartbeats 8000000 in
theorem s_SI_startOf {n : Nat} {L : Int32} (hn : 8589934592 ≤ n) {x1 : Int32} {t : mz_St}  (ci : CI L t)  : Tp (f_SI_startOf n x1 t) (fun r => CI L r.2 ∧ r.2 = t ∧ -1 ≤ (r.1).toInt ∧ (r.1).toInt ≤ 6600) := by
  unfold f_SI_startOf
  refine Tp_if (fun h401 => ?_) (fun h401 => ?_)
  · have g402 := ti_l h401
    have i403 := ti_rg x1
    have l404 : (0 : Int32).toInt = 0 := rfl
    refine Tp_so ?_
    have l405 : ((0 : Int32)).toInt = 0 := rfl
    refine ⟨ci, rfl, ?_, ?_⟩
    · (try dsimp only) <;> first | omega | assumption
    · (try dsimp only) <;> first | omega | assumption
  · have g406 := ti_nl h401
    have i407 := ti_rg x1
    have l408 : (0 : Int32).toInt = 0 := rfl
    refine Tp_if (fun h409 => ?_) (fun h409 => ?_)
    · have g410 := ti_e h409
      have l411 : ((3001 : Int32)).toInt = 3001 := rfl
      refine Tp_so ?_
      have l412 : ((0 : Int32)).toInt = 0 := rfl
      refine ⟨ci, rfl, ?_, ?_⟩
      · (try dsimp only) <;> first | omega | assumption
      · (try dsimp only) <;> first | omega | assumption
    · have g413 := ti_ne h409
      have l414 : ((3001 : Int32)).toInt = 3001 := rfl
      refine Tp_gd (ti_ix (by omega) (by omega)) ?_
      refine Tp_so ?_
      have b415 := CI_g14 ci (c := 3) (p := x1.toNatClampNeg) rfl
      refine ⟨ci, rfl, ?_, ?_⟩
      · (try dsimp only) <;> first | omega | assumption
      · (try dsimp only) <;> first | omega | assumption
set_option maxRecDepth 4000 in
set_option maxHeartbeats 8000000 in
theorem s_SI_stopOf {n : Nat} {L : Int32} (hn : 8589934592 ≤ n) {x1 : Int32} {t : mz_St}  (ci : CI L t)  : Tp (f_SI_stopOf n x1 t) (fun r => CI L r.2 ∧ r.2 = t ∧ -1 ≤ (r.1).toInt ∧ (r.1).toInt ≤ 6600) := by
  unfold f_SI_stopOf
  refine Tp_if (fun h416 => ?_) (fun h416 => ?_)
  · have g417 := ti_l h416
    have i418 := ti_rg x1
    have l419 : (0 : Int32).toInt = 0 := rfl
    refine Tp_so ?_
    have l420 : ((0 : Int32)).toInt = 0 := rfl
    refine ⟨ci, rfl, ?_, ?_⟩
    · (try dsimp only) <;> first | omega | assumption
    · (try dsimp only) <;> first | omega | assumption
  · have g421 := ti_nl h416
    have i422 := ti_rg x1
    have l423 : (0 : Int32).toInt = 0 := rfl
    refine Tp_if (fun h424 => ?_) (fun h424 => ?_)
    · have g425 := ti_e h424
      have l426 : ((3001 : Int32)).toInt = 3001 := rfl
      refine Tp_so ?_
      have l427 : ((0 : Int32)).toInt = 0 := rfl
      refine ⟨ci, rfl, ?_, ?_⟩
      · (try dsimp only) <;> first | omega | assumption
      · (try dsimp only) <;> first | omega | assumption
    · have g428 := ti_ne h424
      have l429 : ((3001 : Int32)).toInt = 3001 := rfl
      refine Tp_gd (ti_ix (by omega) (by omega)) ?_
      refine Tp_so ?_
      have b430 := CI_g14 ci (c := 4) (p := x1.toNatClampNeg) rfl
      refine ⟨ci, rfl, ?_, ?_⟩
      · (try dsimp only) <;> first | omega | assumption
      · (try dsimp only) <;> first | omega | assumption
set_option maxRecDepth 4000 in
set_option maxHeartbeats 8000000 in
theorem s_SI_beginsWord {n : Nat} {L : Int32} (hn : 8589934592 ≤ n) {x0 : Int32} {t : mz_St}  (ci : CI L t)  : Tp (f_SI_beginsWord n x0 t) (fun r => CI L r.2 ∧ r.2 = t ∧ 0 ≤ (r.1).toInt ∧ (r.1).toInt ≤ 1) := by
  unfold f_SI_beginsWord
  refine Tp_if (fun h431 => ?_) (fun h431 => ?_)
  · have g432 := ti_l h431
    have i433 := ti_rg x0
    have l434 : ((97 : Int32)).toInt = 97 := rfl
    unfold f_SI_beginsWord_12
    refine Tp_if (fun h435 => ?_) (fun h435 => ?_)
    · have g436 := ti_q h435
      have l437 : ((95 : Int32)).toInt = 95 := rfl
      unfold f_SI_beginsWord_18
      refine Tp_so ?_
      have l438 : ((1 : Int32)).toInt = 1 := rfl
      refine ⟨ci, rfl, ?_, ?_⟩
      · (try dsimp only) <;> first | omega | assumption
      · (try dsimp only) <;> first | omega | assumption
    · have g439 := ti_nq h435
      have l440 : ((95 : Int32)).toInt = 95 := rfl
      refine Tp_so ?_
      have l441 : ((0 : Int32)).toInt = 0 := rfl
      refine ⟨ci, rfl, ?_, ?_⟩
      · (try dsimp only) <;> first | omega | assumption
      · (try dsimp only) <;> first | omega | assumption
  · have g442 := ti_nl h431
    have i443 := ti_rg x0
    have l444 : ((97 : Int32)).toInt = 97 := rfl
    refine Tp_if (fun h445 => ?_) (fun h445 => ?_)
    · have g446 := ti_e h445
      have l447 : ((122 : Int32)).toInt = 122 := rfl
      unfold f_SI_beginsWord_18
      refine Tp_so ?_
      have l448 : ((1 : Int32)).toInt = 1 := rfl
      refine ⟨ci, rfl, ?_, ?_⟩
      · (try dsimp only) <;> first | omega | assumption
      · (try dsimp only) <;> first | omega | assumption
    · have g449 := ti_ne h445
      have l450 : ((122 : Int32)).toInt = 122 := rfl
      unfold f_SI_beginsWord_12
      refine Tp_if (fun h451 => ?_) (fun h451 => ?_)
      · have g452 := ti_q h451
        have l453 : ((95 : Int32)).toInt = 95 := rfl
        unfold f_SI_beginsWord_18
        refine Tp_so ?_
        have l454 : ((1 : Int32)).toInt = 1 := rfl
        refine ⟨ci, rfl, ?_, ?_⟩
        · (try dsimp only) <;> first | omega | assumption
        · (try dsimp only) <;> first | omega | assumption
      · have g455 := ti_nq h451
        have l456 : ((95 : Int32)).toInt = 95 := rfl
        refine Tp_so ?_
        have l457 : ((0 : Int32)).toInt = 0 := rfl
        refine ⟨ci, rfl, ?_, ?_⟩
        · (try dsimp only) <;> first | omega | assumption
        · (try dsimp only) <;> first | omega | assumption
set_option maxRecDepth 4000 in
set_option maxHeartbeats 8000000 in
theorem s_SI_isDigit {n : Nat} {L : Int32} (hn : 8589934592 ≤ n) {x0 : Int32} {t : mz_St}  (ci : CI L t)  : Tp (f_SI_isDigit n x0 t) (fun r => CI L r.2 ∧ r.2 = t ∧ 0 ≤ (r.1).toInt ∧ (r.1).toInt ≤ 1) := by
  unfold f_SI_isDigit
  refine Tp_if (fun h458 => ?_) (fun h458 => ?_)
  · have g459 := ti_l h458
    have i460 := ti_rg x0
    have l461 : ((48 : Int32)).toInt = 48 := rfl
    refine Tp_so ?_
    have l462 : ((0 : Int32)).toInt = 0 := rfl
    refine ⟨ci, rfl, ?_, ?_⟩
    · (try dsimp only) <;> first | omega | assumption
    · (try dsimp only) <;> first | omega | assumption
  · have g463 := ti_nl h458
    have i464 := ti_rg x0
    have l465 : ((48 : Int32)).toInt = 48 := rfl
    refine Tp_if (fun h466 => ?_) (fun h466 => ?_)
    · have g467 := ti_l h466
      have l468 : ((57 : Int32)).toInt = 57 := rfl
      refine Tp_so ?_
      have l469 : ((0 : Int32)).toInt = 0 := rfl
      refine ⟨ci, rfl, ?_, ?_⟩
      · (try dsimp only) <;> first | omega | assumption
      · (try dsimp only) <;> first | omega | assumption
    · have g470 := ti_nl h466
      have l471 : ((57 : Int32)).toInt = 57 := rfl
      refine Tp_so ?_
      have l472 : ((1 : Int32)).toInt = 1 := rfl
      refine ⟨ci, rfl, ?_, ?_⟩
      · (try dsimp only) <;> first | omega | assumption
      · (try dsimp only) <;> first | omega | assumption
set_option maxRecDepth 4000 in
set_option maxHeartbeats 8000000 in
theorem l_SI_wordEnd_22 {n : Nat} {L : Int32} (hn : 8589934592 ≤ n) (g0 : Int) : ∀ (k : Nat) (x2 : Int32) (x3 : Int32) (t : mz_St), CI L t → (g0 ≤ x3.toInt) → (x3.toInt ≤ x2.toInt) → (2147483648 - x3.toInt).toNat < k → Tp (f_SI_wordEnd_22 n k x2 x3 t) (fun r => CI L r.2 ∧ r.2 = t ∧ g0 ≤ (r.1).toInt ∧ (r.1).toInt ≤ x2.toInt) := by
  intro k
  induction k with
  | zero => intros; omega
  | succ k ih =>
    intro x2 x3 t ci i0 i1 hm
    unfold f_SI_wordEnd_22
    refine Tp_if (fun h473 => ?_) (fun h473 => ?_)
    · have g474 := ti_e h473
      have i475 := ti_rg x2
      have i476 := ti_rg x3
      refine Tp_so ?_
      refine ⟨ci, rfl, ?_, ?_⟩
      · (try dsimp only) <;> first | omega | assumption
      · (try dsimp only) <;> first | omega | assumption
    · have g477 := ti_ne h473
      have i478 := ti_rg x2
      have i479 := ti_rg x3
      refine Tp_bi (s_SI_at hn ci  (t := t) (x1 := x3)) (fun q480 h481 => ?_)
      obtain ⟨ci482, E483⟩ := h481
      try rw [E483]
      have i486 := ti_rg q480.1
      refine Tp_bi (s_SI_beginsWord hn ci  (t := t) (x0 := q480.1)) (fun q484 h485 => ?_)
      obtain ⟨ci487, E488, p489, p490⟩ := h485
      try rw [E488]
      refine Tp_if (fun h491 => ?_) (fun h491 => ?_)
      · have g492 := ti_q h491
        have i493 := ti_rg q484.1
        have l494 : (0 : Int32).toInt = 0 := rfl
        refine Tp_bi (s_SI_at hn ci  (t := t) (x1 := x3)) (fun q495 h496 => ?_)
        obtain ⟨ci497, E498⟩ := h496
        try rw [E498]
        have i501 := ti_rg q495.1
        refine Tp_bi (s_SI_isDigit hn ci  (t := t) (x0 := q495.1)) (fun q499 h500 => ?_)
        obtain ⟨ci502, E503, p504, p505⟩ := h500
        try rw [E503]
        refine Tp_if (fun h506 => ?_) (fun h506 => ?_)
        · have g507 := ti_q h506
          have i508 := ti_rg q499.1
          refine Tp_so ?_
          refine ⟨ci, rfl, ?_, ?_⟩
          · (try dsimp only) <;> first | omega | assumption
          · (try dsimp only) <;> first | omega | assumption
        · have g509 := ti_nq h506
          have i510 := ti_rg q499.1
          unfold f_SI_wordEnd_49
          have l511 : ((1 : Int32)).toInt = 1 := rfl
          first | (have a512 : (x3 + (1 : Int32)).toInt = (x3).toInt + ((1 : Int32)).toInt := ti_add (by omega) (by omega)) | (have a513 := ti_rg (x3 + (1 : Int32)))
          exact ih x2 (x3 + (1 : Int32)) t ci (by omega) (by omega) (by omega)
      · have g514 := ti_nq h491
        have i515 := ti_rg q484.1
        have l516 : (0 : Int32).toInt = 0 := rfl
        unfold f_SI_wordEnd_49
        have l517 : ((1 : Int32)).toInt = 1 := rfl
        first | (have a518 : (x3 + (1 : Int32)).toInt = (x3).toInt + ((1 : Int32)).toInt := ti_add (by omega) (by omega)) | (have a519 := ti_rg (x3 + (1 : Int32)))
        exact ih x2 (x3 + (1 : Int32)) t ci (by omega) (by omega) (by omega)
set_option maxRecDepth 4000 in
set_option maxHeartbeats 8000000 in
theorem s_SI_wordEnd {n : Nat} {L : Int32} (hn : 8589934592 ≤ n) {x1 : Int32} {x2 : Int32} {t : mz_St}  (ci : CI L t)  : Tp (f_SI_wordEnd n x1 x2 t) (fun r => CI L r.2 ∧ r.2 = t ∧ x1.toInt ≤ (r.1).toInt ∧ ((r.1).toInt ≤ x2.toInt ∨ (r.1).toInt = x1.toInt)) := by
  unfold f_SI_wordEnd
  refine Tp_if (fun h520 => ?_) (fun h520 => ?_)
  · have g521 := ti_e h520
    have i522 := ti_rg x2
    have i523 := ti_rg x1
    refine Tp_so ?_
    refine ⟨ci, rfl, ?_, ?_⟩
    · (try dsimp only) <;> first | omega | assumption
    · (try dsimp only) <;> first | omega | assumption
  · have g524 := ti_ne h520
    have i525 := ti_rg x2
    have i526 := ti_rg x1
    refine Tp_bi (s_SI_at hn ci  (t := t) (x1 := x1)) (fun q527 h528 => ?_)
    obtain ⟨ci529, E530⟩ := h528
    try rw [E530]
    have i533 := ti_rg q527.1
    refine Tp_bi (s_SI_beginsWord hn ci  (t := t) (x0 := q527.1)) (fun q531 h532 => ?_)
    obtain ⟨ci534, E535, p536, p537⟩ := h532
    try rw [E535]
    refine Tp_if (fun h538 => ?_) (fun h538 => ?_)
    · have g539 := ti_q h538
      have i540 := ti_rg q531.1
      have l541 : (0 : Int32).toInt = 0 := rfl
      refine Tp_so ?_
      refine ⟨ci, rfl, ?_, ?_⟩
      · (try dsimp only) <;> first | omega | assumption
      · (try dsimp only) <;> first | omega | assumption
    · have g542 := ti_nq h538
      have i543 := ti_rg q531.1
      have l544 : (0 : Int32).toInt = 0 := rfl
      have l545 : ((1 : Int32)).toInt = 1 := rfl
      first | (have a546 : (x1 + (1 : Int32)).toInt = (x1).toInt + ((1 : Int32)).toInt := ti_add (by omega) (by omega)) | (have a547 := ti_rg (x1 + (1 : Int32)))
      refine Tp_mo (l_SI_wordEnd_22 hn ((x1 + (1 : Int32)).toInt) n x2 (x1 + (1 : Int32)) t ci (by omega) (by omega) (by omega)) (fun q548 h549 => ?_)
      obtain ⟨ci550, E551, p552, p553⟩ := h549
      have i554 := ti_rg q548.1
      refine ⟨ci550, (E551), ?_, ?_⟩
      · (try dsimp only) <;> first | omega | assumption
      · (try dsimp only) <;> first | omega | assumption
set_option maxRecDepth 4000 in
set_option maxHeartbeats 8000000 in
theorem s_SI_write {n : Nat} {L : Int32} (hn : 8589934592 ≤ n) {x1 : Int32} {x2 : Int32} {t : mz_St}  (ci : CI L t)  : Tp (f_SI_write n x1 x2 t) (fun r => CI L r ∧ (mz_gI r 30 8).toInt = (mz_gI t 30 8).toInt ∧ (mz_gI r 30 7).toInt = (mz_gI t 30 7).toInt) := by
  unfold f_SI_write
  have b555 := CI_g11 ci (c := 30) (p := 8) rfl
  have b556 := CI_g12 ci (c := 30) (p := 7) rfl
  refine Tp_if (fun h557 => ?_) (fun h557 => ?_)
  · have g558 := ti_l h557
    have i559 := ti_rg x1
    have l560 : (0 : Int32).toInt = 0 := rfl
    refine Tp_so ?_
    refine ⟨ci, ?_, ?_⟩
    · (try dsimp only) <;> first | omega | assumption
    · (try dsimp only) <;> first | omega | assumption
  · have g561 := ti_nl h557
    have i562 := ti_rg x1
    have l563 : (0 : Int32).toInt = 0 := rfl
    refine Tp_if (fun h564 => ?_) (fun h564 => ?_)
    · have g565 := ti_e h564
      have l566 : ((6600 : Int32)).toInt = 6600 := rfl
      refine Tp_so ?_
      refine ⟨ci, ?_, ?_⟩
      · (try dsimp only) <;> first | omega | assumption
      · (try dsimp only) <;> first | omega | assumption
    · have g567 := ti_ne h564
      have l568 : ((6600 : Int32)).toInt = 6600 := rfl
      refine Tp_gd (ti_ix (by omega) (by omega)) ?_
      refine Tp_le (fun t569 E570 => ?_)
      have ci571 := CI_p0 ci E570 rfl
      refine Tp_so ?_
      have b572 := CI_g11 ci571 (c := 30) (p := 8) rfl
      have e573 : (mz_gI t569 30 8).toInt = (mz_gI t 30 8).toInt := by rw [E570, gI_oth _ _ (by simp)]
      have b574 := CI_g12 ci571 (c := 30) (p := 7) rfl
      have e575 : (mz_gI t569 30 7).toInt = (mz_gI t 30 7).toInt := by rw [E570, gI_oth _ _ (by simp)]
      refine ⟨ci571, ?_, ?_⟩
      · (try dsimp only) <;> first | omega | assumption
      · (try dsimp only) <;> first | omega | assumption
set_option maxRecDepth 4000 in
set_option maxHeartbeats 8000000 in
theorem js_len : ∀ x, x < 15 → ((Int32.ofNat (mz_len.getD x 0)) >>> ((0 : Int32) &&& 31)).toInt = (mz_len.getD x 0 : Nat) ∧ mz_len.getD x 0 ≤ 6 ∧ (Int32.ofNat (mz_len.getD x 0)).toInt = (mz_len.getD x 0 : Nat) := by decide
set_option maxRecDepth 4000 in
set_option maxHeartbeats 8000000 in
theorem js_chr : ∀ x, x < 15 → ∀ i, i < 6 → ((((mz_byt.getD x []).getD i 0) &&& (255 : Int32)).toUInt32 % 65536).toInt32 = (((((mz_byt.getD x []).getD i 0) &&& (255 : Int32)).toUInt32 % 65536).toInt32.toUInt32 % 65536).toInt32 := by decide
set_option maxRecDepth 4000 in
set_option maxHeartbeats 8000000 in
theorem s_JS_length {n : Nat} {L : Int32} (hn : 8589934592 ≤ n) {x0 : Nat} {t : mz_St} (ci : CI L t) (h : x0 < 15) : Tp (f_JS_length n x0 t) (fun r => CI L r.2 ∧ r.2 = t ∧ (r.1).toInt = (mz_len.getD x0 0 : Nat) ∧ mz_len.getD x0 0 ≤ 6) := by
  have e : f_JS_length n x0 t = some ((Int32.ofNat (mz_len.getD x0 0)) >>> ((0 : Int32) &&& 31), t) := by
    unfold f_JS_length f_JS_coder
    rw [if_pos h, if_pos h, if_pos h, if_neg (by decide), if_pos h]
    rfl
  exact ⟨_, e, ci, rfl, (js_len x0 h).1, (js_len x0 h).2.1⟩
set_option maxRecDepth 4000 in
set_option maxHeartbeats 8000000 in
theorem s_JS_charAt {n : Nat} {L : Int32} (hn : 8589934592 ≤ n) {x0 : Nat} {x1 : Int32} {t : mz_St} (ci : CI L t) (h : x0 < 15) (h1 : 0 ≤ x1.toInt) (h2 : x1.toInt < (mz_len.getD x0 0 : Nat)) : Tp (f_JS_charAt n x0 x1 t) (fun r => CI L r.2 ∧ r.2 = t) := by
  have hl := js_len x0 h
  have hb := js_chr x0 h x1.toNatClampNeg (by rw [ti_cl]; omega)
  have a1 : ¬ x1 < 0 := fun q => by have := ti_l q; rw [show (0 : Int32).toInt = 0 from rfl] at this; omega
  have a2 : x1 < Int32.ofNat (mz_len.getD x0 0) := Int32.lt_iff_toInt_lt.mpr (by rw [hl.2.2]; exact h2)
  have e : f_JS_charAt n x0 x1 t = some (((((mz_byt.getD x0 []).getD x1.toNatClampNeg 0) &&& (255 : Int32)).toUInt32 % 65536).toInt32, t) := by
    unfold f_JS_charAt f_JS_isLatin1 f_JL_charAt f_JS_checkIndex f_JP_checkIndex
    rw [if_pos h, if_neg (by decide), if_pos h, if_pos rfl]
    simp only [Option.bind_some]
    rw [if_neg (by decide), if_pos h, if_pos h, if_neg a1, if_pos a2]
    simp only [Option.bind_some]
    rw [if_pos h, if_pos (ti_ix h1 h2)]
    simp only [Option.bind_some]
    rw [if_pos hb]
  exact ⟨_, e, ci, rfl⟩
set_option maxRecDepth 4000 in
set_option maxHeartbeats 8000000 in
theorem je_or : ∀ x, x < 16 → 0 ≤ (mz_or.getD x 0).toInt ∧ (mz_or.getD x 0).toInt ≤ 15 := by decide
set_option maxRecDepth 4000 in
set_option maxHeartbeats 8000000 in
theorem s_JE_ordinal {n : Nat} {L : Int32} (hn : 8589934592 ≤ n) {x0 : Int32} {t : mz_St} (ci : CI L t) (h : x0.toInt ≤ 15) : Tp (f_JE_ordinal n x0 t) (fun r => CI L r.2 ∧ r.2 = t ∧ 0 ≤ (r.1).toInt ∧ (r.1).toInt ≤ 15) := by
  have h16 : x0.toNatClampNeg < 16 := ti_c16 (by decide) (by omega)
  unfold f_JE_ordinal
  rw [if_pos h16]
  exact ⟨_, rfl, ci, rfl, (je_or _ h16).1, (je_or _ h16).2⟩
set_option maxRecDepth 4000 in
set_option maxHeartbeats 8000000 in
theorem l_SI_spells_15 {n : Nat} {L : Int32} (hn : 8589934592 ≤ n)  : ∀ (k : Nat) (x1 : Int32) (x3 : Nat) (x4 : Int32) (t : mz_St), CI L t → (x3 < 15) → (0 ≤ x4.toInt) → (2147483648 - x4.toInt).toNat < k → Tp (f_SI_spells_15 n k x1 x3 x4 t) (fun r => CI L r.2 ∧ r.2 = t ∧ 0 ≤ (r.1).toInt ∧ (r.1).toInt ≤ 1) := by
  intro k
  induction k with
  | zero => intros; omega
  | succ k ih =>
    intro x1 x3 x4 t ci i0 i1 hm
    unfold f_SI_spells_15
    refine Tp_gd (by omega) ?_
    refine Tp_bi (s_JS_length hn ci (by omega) (t := t) (x0 := x3)) (fun q576 h577 => ?_)
    obtain ⟨ci578, E579, p580, p581⟩ := h577
    try rw [E579]
    refine Tp_if (fun h582 => ?_) (fun h582 => ?_)
    · have g583 := ti_e h582
      have i584 := ti_rg q576.1
      have i585 := ti_rg x4
      refine Tp_so ?_
      have l586 : ((1 : Int32)).toInt = 1 := rfl
      refine ⟨ci, rfl, ?_, ?_⟩
      · (try dsimp only) <;> first | omega | assumption
      · (try dsimp only) <;> first | omega | assumption
    · have g587 := ti_ne h582
      have i588 := ti_rg q576.1
      have i589 := ti_rg x4
      have i592 := ti_rg x1
      first | (have a593 : (x1 + x4).toInt = (x1).toInt + (x4).toInt := ti_add (by omega) (by omega)) | (have a594 := ti_rg (x1 + x4))
      refine Tp_bi (s_SI_at hn ci  (t := t) (x1 := x1 + x4)) (fun q590 h591 => ?_)
      obtain ⟨ci595, E596⟩ := h591
      try rw [E596]
      refine Tp_gd (by omega) ?_
      refine Tp_bi (s_JS_charAt hn ci (by omega) (by omega) (by omega) (t := t) (x0 := x3) (x1 := x4)) (fun q597 h598 => ?_)
      obtain ⟨ci599, E600⟩ := h598
      try rw [E600]
      refine Tp_if (fun h601 => ?_) (fun h601 => ?_)
      · have g602 := ti_q h601
        have i603 := ti_rg q590.1
        have i604 := ti_rg q597.1
        have l605 : ((1 : Int32)).toInt = 1 := rfl
        first | (have a606 : (x4 + (1 : Int32)).toInt = (x4).toInt + ((1 : Int32)).toInt := ti_add (by omega) (by omega)) | (have a607 := ti_rg (x4 + (1 : Int32)))
        exact ih x1 x3 (x4 + (1 : Int32)) t ci (by omega) (by omega) (by omega)
      · have g608 := ti_nq h601
        have i609 := ti_rg q590.1
        have i610 := ti_rg q597.1
        refine Tp_so ?_
        have l611 : ((0 : Int32)).toInt = 0 := rfl
        refine ⟨ci, rfl, ?_, ?_⟩
        · (try dsimp only) <;> first | omega | assumption
        · (try dsimp only) <;> first | omega | assumption
set_option maxRecDepth 4000 in
set_option maxHeartbeats 8000000 in
theorem s_SI_spells {n : Nat} {L : Int32} (hn : 8589934592 ≤ n) {x1 : Int32} {x2 : Int32} {x3 : Nat} {t : mz_St}  (ci : CI L t) (i0 : x3 < 15) : Tp (f_SI_spells n x1 x2 x3 t) (fun r => CI L r.2 ∧ r.2 = t ∧ 0 ≤ (r.1).toInt ∧ (r.1).toInt ≤ 1) := by
  unfold f_SI_spells
  refine Tp_gd (by omega) ?_
  refine Tp_bi (s_JS_length hn ci (by omega) (t := t) (x0 := x3)) (fun q612 h613 => ?_)
  obtain ⟨ci614, E615, p616, p617⟩ := h613
  try rw [E615]
  refine Tp_if (fun h618 => ?_) (fun h618 => ?_)
  · have g619 := ti_q h618
    have i620 := ti_rg x2
    have i621 := ti_rg x1
    first | (have a622 : (x2 - x1).toInt = (x2).toInt - (x1).toInt := ti_sub (by omega) (by omega)) | (have a623 := ti_rg (x2 - x1))
    have i624 := ti_rg q612.1
    have l625 : ((0 : Int32)).toInt = 0 := rfl
    refine Tp_mo (l_SI_spells_15 hn  n x1 x3 (0 : Int32) t ci (by omega) (by omega) (by omega)) (fun q626 h627 => ?_)
    obtain ⟨ci628, E629, p630, p631⟩ := h627
    have i632 := ti_rg q626.1
    refine ⟨ci628, (E629), ?_, ?_⟩
    · (try dsimp only) <;> first | omega | assumption
    · (try dsimp only) <;> first | omega | assumption
  · have g633 := ti_nq h618
    have i634 := ti_rg x2
    have i635 := ti_rg x1
    first | (have a636 : (x2 - x1).toInt = (x2).toInt - (x1).toInt := ti_sub (by omega) (by omega)) | (have a637 := ti_rg (x2 - x1))
    have i638 := ti_rg q612.1
    refine Tp_so ?_
    have l639 : ((0 : Int32)).toInt = 0 := rfl
    refine ⟨ci, rfl, ?_, ?_⟩
    · (try dsimp only) <;> first | omega | assumption
    · (try dsimp only) <;> first | omega | assumption
set_option maxRecDepth 4000 in
set_option maxHeartbeats 8000000 in
theorem l_SI_same_42 {n : Nat} {L : Int32} (hn : 8589934592 ≤ n)  : ∀ (k : Nat) (x1 : Int32) (x2 : Int32) (x3 : Int32) (x5 : Int32) (t : mz_St), CI L t → (0 ≤ x1.toInt) → (x2.toInt ≤ 6600) → (0 ≤ x3.toInt) → (-1 ≤ x2.toInt) → (x3.toInt + (x2.toInt - x1.toInt) ≤ 6600) → (0 ≤ x5.toInt) → (2147483648 - x5.toInt).toNat < k → Tp (f_SI_same_42 n k x1 x2 x3 x5 t) (fun r => CI L r.2 ∧ r.2 = t ∧ 0 ≤ (r.1).toInt ∧ (r.1).toInt ≤ 1) := by
  intro k
  induction k with
  | zero => intros; omega
  | succ k ih =>
    intro x1 x2 x3 x5 t ci i0 i1 i2 i3 i4 i5 hm
    unfold f_SI_same_42
    refine Tp_if (fun h640 => ?_) (fun h640 => ?_)
    · have g641 := ti_e h640
      have i642 := ti_rg x2
      have i643 := ti_rg x1
      first | (have a644 : (x2 - x1).toInt = (x2).toInt - (x1).toInt := ti_sub (by omega) (by omega)) | (have a645 := ti_rg (x2 - x1))
      have i646 := ti_rg x5
      refine Tp_so ?_
      have l647 : ((1 : Int32)).toInt = 1 := rfl
      refine ⟨ci, rfl, ?_, ?_⟩
      · (try dsimp only) <;> first | omega | assumption
      · (try dsimp only) <;> first | omega | assumption
    · have g648 := ti_ne h640
      have i649 := ti_rg x2
      have i650 := ti_rg x1
      first | (have a651 : (x2 - x1).toInt = (x2).toInt - (x1).toInt := ti_sub (by omega) (by omega)) | (have a652 := ti_rg (x2 - x1))
      have i653 := ti_rg x5
      first | (have a654 : (x1 + x5).toInt = (x1).toInt + (x5).toInt := ti_add (by omega) (by omega)) | (have a655 := ti_rg (x1 + x5))
      refine Tp_gd (ti_ix (by omega) (by omega)) ?_
      have i656 := ti_rg x3
      first | (have a657 : (x3 + x5).toInt = (x3).toInt + (x5).toInt := ti_add (by omega) (by omega)) | (have a658 := ti_rg (x3 + x5))
      refine Tp_gd (ti_ix (by omega) (by omega)) ?_
      refine Tp_if (fun h659 => ?_) (fun h659 => ?_)
      · have g660 := ti_q h659
        have i661 := ti_rg (mz_gI t 2 (x1 + x5).toNatClampNeg)
        have i662 := ti_rg (mz_gI t 2 (x3 + x5).toNatClampNeg)
        have l663 : ((1 : Int32)).toInt = 1 := rfl
        first | (have a664 : (x5 + (1 : Int32)).toInt = (x5).toInt + ((1 : Int32)).toInt := ti_add (by omega) (by omega)) | (have a665 := ti_rg (x5 + (1 : Int32)))
        exact ih x1 x2 x3 (x5 + (1 : Int32)) t ci (by omega) (by omega) (by omega) (by omega) (by omega) (by omega) (by omega)
      · have g666 := ti_nq h659
        have i667 := ti_rg (mz_gI t 2 (x1 + x5).toNatClampNeg)
        have i668 := ti_rg (mz_gI t 2 (x3 + x5).toNatClampNeg)
        refine Tp_so ?_
        have l669 : ((0 : Int32)).toInt = 0 := rfl
        refine ⟨ci, rfl, ?_, ?_⟩
        · (try dsimp only) <;> first | omega | assumption
        · (try dsimp only) <;> first | omega | assumption
set_option maxRecDepth 4000 in
set_option maxHeartbeats 8000000 in
theorem s_SI_same {n : Nat} {L : Int32} (hn : 8589934592 ≤ n) {x1 : Int32} {x2 : Int32} {x3 : Int32} {x4 : Int32} {t : mz_St}  (ci : CI L t) (i0 : -1 ≤ x1.toInt) (i1 : -1 ≤ x3.toInt) (i2 : -1 ≤ x2.toInt) (i3 : -1 ≤ x4.toInt) (i4 : x2.toInt ≤ 7000) (i5 : x4.toInt ≤ 7000) : Tp (f_SI_same n x1 x2 x3 x4 t) (fun r => CI L r.2 ∧ r.2 = t ∧ 0 ≤ (r.1).toInt ∧ (r.1).toInt ≤ 1) := by
  unfold f_SI_same
  refine Tp_if (fun h670 => ?_) (fun h670 => ?_)
  · have g671 := ti_q h670
    have i672 := ti_rg x2
    have i673 := ti_rg x1
    first | (have a674 : (x2 - x1).toInt = (x2).toInt - (x1).toInt := ti_sub (by omega) (by omega)) | (have a675 := ti_rg (x2 - x1))
    have i676 := ti_rg x4
    have i677 := ti_rg x3
    first | (have a678 : (x4 - x3).toInt = (x4).toInt - (x3).toInt := ti_sub (by omega) (by omega)) | (have a679 := ti_rg (x4 - x3))
    refine Tp_if (fun h680 => ?_) (fun h680 => ?_)
    · have g681 := ti_l h680
      have l682 : (0 : Int32).toInt = 0 := rfl
      refine Tp_so ?_
      have l683 : ((0 : Int32)).toInt = 0 := rfl
      refine ⟨ci, rfl, ?_, ?_⟩
      · (try dsimp only) <;> first | omega | assumption
      · (try dsimp only) <;> first | omega | assumption
    · have g684 := ti_nl h680
      have l685 : (0 : Int32).toInt = 0 := rfl
      refine Tp_if (fun h686 => ?_) (fun h686 => ?_)
      · have g687 := ti_l h686
        refine Tp_so ?_
        have l688 : ((0 : Int32)).toInt = 0 := rfl
        refine ⟨ci, rfl, ?_, ?_⟩
        · (try dsimp only) <;> first | omega | assumption
        · (try dsimp only) <;> first | omega | assumption
      · have g689 := ti_nl h686
        refine Tp_if (fun h690 => ?_) (fun h690 => ?_)
        · have g691 := ti_l h690
          have l692 : ((6600 : Int32)).toInt = 6600 := rfl
          refine Tp_so ?_
          have l693 : ((0 : Int32)).toInt = 0 := rfl
          refine ⟨ci, rfl, ?_, ?_⟩
          · (try dsimp only) <;> first | omega | assumption
          · (try dsimp only) <;> first | omega | assumption
        · have g694 := ti_nl h690
          have l695 : ((6600 : Int32)).toInt = 6600 := rfl
          refine Tp_if (fun h696 => ?_) (fun h696 => ?_)
          · have g697 := ti_e h696
            have l698 : ((0 : Int32)).toInt = 0 := rfl
            refine Tp_mo (l_SI_same_42 hn  n x1 x2 x3 (0 : Int32) t ci (by omega) (by omega) (by omega) (by omega) (by omega) (by omega) (by omega)) (fun q699 h700 => ?_)
            obtain ⟨ci701, E702, p703, p704⟩ := h700
            have i705 := ti_rg q699.1
            refine ⟨ci701, (E702), ?_, ?_⟩
            · (try dsimp only) <;> first | omega | assumption
            · (try dsimp only) <;> first | omega | assumption
          · have g706 := ti_ne h696
            refine Tp_so ?_
            have l707 : ((0 : Int32)).toInt = 0 := rfl
            refine ⟨ci, rfl, ?_, ?_⟩
            · (try dsimp only) <;> first | omega | assumption
            · (try dsimp only) <;> first | omega | assumption
  · have g708 := ti_nq h670
    have i709 := ti_rg x2
    have i710 := ti_rg x1
    first | (have a711 : (x2 - x1).toInt = (x2).toInt - (x1).toInt := ti_sub (by omega) (by omega)) | (have a712 := ti_rg (x2 - x1))
    have i713 := ti_rg x4
    have i714 := ti_rg x3
    first | (have a715 : (x4 - x3).toInt = (x4).toInt - (x3).toInt := ti_sub (by omega) (by omega)) | (have a716 := ti_rg (x4 - x3))
    refine Tp_so ?_
    have l717 : ((0 : Int32)).toInt = 0 := rfl
    refine ⟨ci, rfl, ?_, ?_⟩
    · (try dsimp only) <;> first | omega | assumption
    · (try dsimp only) <;> first | omega | assumption
set_option maxRecDepth 4000 in
set_option maxHeartbeats 8000000 in
theorem s_SI_mayStand {n : Nat} {L : Int32} (hn : 8589934592 ≤ n) {x0 : Int32} {t : mz_St}  (ci : CI L t)  : Tp (f_SI_mayStand n x0 t) (fun r => CI L r.2 ∧ r.2 = t ∧ 0 ≤ (r.1).toInt ∧ (r.1).toInt ≤ 1) := by
  unfold f_SI_mayStand
  refine Tp_if (fun h718 => ?_) (fun h718 => ?_)
  · have g719 := ti_q h718
    have i720 := ti_rg x0
    have l721 : ((10 : Int32)).toInt = 10 := rfl
    unfold f_SI_mayStand_18
    refine Tp_so ?_
    have l722 : ((1 : Int32)).toInt = 1 := rfl
    refine ⟨ci, rfl, ?_, ?_⟩
    · (try dsimp only) <;> first | omega | assumption
    · (try dsimp only) <;> first | omega | assumption
  · have g723 := ti_nq h718
    have i724 := ti_rg x0
    have l725 : ((10 : Int32)).toInt = 10 := rfl
    refine Tp_if (fun h726 => ?_) (fun h726 => ?_)
    · have g727 := ti_l h726
      have l728 : ((32 : Int32)).toInt = 32 := rfl
      refine Tp_so ?_
      have l729 : ((0 : Int32)).toInt = 0 := rfl
      refine ⟨ci, rfl, ?_, ?_⟩
      · (try dsimp only) <;> first | omega | assumption
      · (try dsimp only) <;> first | omega | assumption
    · have g730 := ti_nl h726
      have l731 : ((32 : Int32)).toInt = 32 := rfl
      refine Tp_if (fun h732 => ?_) (fun h732 => ?_)
      · have g733 := ti_l h732
        have l734 : ((126 : Int32)).toInt = 126 := rfl
        refine Tp_so ?_
        have l735 : ((0 : Int32)).toInt = 0 := rfl
        refine ⟨ci, rfl, ?_, ?_⟩
        · (try dsimp only) <;> first | omega | assumption
        · (try dsimp only) <;> first | omega | assumption
      · have g736 := ti_nl h732
        have l737 : ((126 : Int32)).toInt = 126 := rfl
        unfold f_SI_mayStand_18
        refine Tp_so ?_
        have l738 : ((1 : Int32)).toInt = 1 := rfl
        refine ⟨ci, rfl, ?_, ?_⟩
        · (try dsimp only) <;> first | omega | assumption
        · (try dsimp only) <;> first | omega | assumption
set_option maxRecDepth 4000 in
set_option maxHeartbeats 8000000 in
theorem s_NA_lengthOf_c {n : Nat} {L : Int32} (hn : 8589934592 ≤ n) {x1 : Int32} {t : mz_St}  (ci : CI L t)  : Tp (f_NA_lengthOf_c n x1 t) (fun r => CI L r.2 ∧ r.2 = t ∧ (r.1).toInt ≤ 12 ∧ ((r.1).toInt = 0 ∨ 0 ≤ x1.toInt ∧ x1.toInt < 64)) := by
  unfold f_NA_lengthOf_c
  refine Tp_if (fun h739 => ?_) (fun h739 => ?_)
  · have g740 := ti_l h739
    have i741 := ti_rg x1
    have l742 : (0 : Int32).toInt = 0 := rfl
    refine Tp_so ?_
    have l743 : ((0 : Int32)).toInt = 0 := rfl
    refine ⟨ci, rfl, ?_, ?_⟩
    · (try dsimp only) <;> first | omega | assumption
    · (try dsimp only) <;> first | omega | assumption
  · have g744 := ti_nl h739
    have i745 := ti_rg x1
    have l746 : (0 : Int32).toInt = 0 := rfl
    refine Tp_if (fun h747 => ?_) (fun h747 => ?_)
    · have g748 := ti_e h747
      have b749 := CI_g5 ci (c := 15) (p := 4) rfl
      refine Tp_so ?_
      have l750 : ((0 : Int32)).toInt = 0 := rfl
      refine ⟨ci, rfl, ?_, ?_⟩
      · (try dsimp only) <;> first | omega | assumption
      · (try dsimp only) <;> first | omega | assumption
    · have g751 := ti_ne h747
      have b752 := CI_g5 ci (c := 15) (p := 4) rfl
      refine Tp_if (fun h753 => ?_) (fun h753 => ?_)
      · have g754 := ti_e h753
        have l755 : ((64 : Int32)).toInt = 64 := rfl
        refine Tp_so ?_
        have l756 : ((0 : Int32)).toInt = 0 := rfl
        refine ⟨ci, rfl, ?_, ?_⟩
        · (try dsimp only) <;> first | omega | assumption
        · (try dsimp only) <;> first | omega | assumption
      · have g757 := ti_ne h753
        have l758 : ((64 : Int32)).toInt = 64 := rfl
        refine Tp_gd (ti_ix (by omega) (by omega)) ?_
        refine Tp_so ?_
        have b759 := CI_g9 ci (c := 17) (p := x1.toNatClampNeg) rfl
        refine ⟨ci, rfl, ?_, ?_⟩
        · (try dsimp only) <;> first | omega | assumption
        · (try dsimp only) <;> first | omega | assumption
set_option maxRecDepth 4000 in
set_option maxHeartbeats 8000000 in
theorem l_NA_is_c_44 {n : Nat} {L : Int32} (hn : 8589934592 ≤ n)  : ∀ (k : Nat) (x2 : Int32) (x4 : Int32) (x5 : Int32) (x6 : Int32) (t : mz_St), CI L t → (0 ≤ x4.toInt) → (x4.toInt + x5.toInt ≤ 768) → (0 ≤ x6.toInt) → (x4.toInt ≤ 10000) → (2147483648 - x6.toInt).toNat < k → Tp (f_NA_is_c_44 n k x2 x4 x5 x6 t) (fun r => CI L r.2 ∧ r.2 = t ∧ 0 ≤ (r.1).toInt ∧ (r.1).toInt ≤ 1) := by
  intro k
  induction k with
  | zero => intros; omega
  | succ k ih =>
    intro x2 x4 x5 x6 t ci i0 i1 i2 i3 hm
    unfold f_NA_is_c_44
    refine Tp_if (fun h760 => ?_) (fun h760 => ?_)
    · have g761 := ti_e h760
      have i762 := ti_rg x5
      have i763 := ti_rg x6
      refine Tp_so ?_
      have l764 : ((1 : Int32)).toInt = 1 := rfl
      refine ⟨ci, rfl, ?_, ?_⟩
      · (try dsimp only) <;> first | omega | assumption
      · (try dsimp only) <;> first | omega | assumption
    · have g765 := ti_ne h760
      have i766 := ti_rg x5
      have i767 := ti_rg x6
      have i768 := ti_rg x4
      first | (have a769 : (x4 + x6).toInt = (x4).toInt + (x6).toInt := ti_add (by omega) (by omega)) | (have a770 := ti_rg (x4 + x6))
      refine Tp_gd (ti_ix (by omega) (by omega)) ?_
      have i773 := ti_rg x2
      first | (have a774 : (x2 + x6).toInt = (x2).toInt + (x6).toInt := ti_add (by omega) (by omega)) | (have a775 := ti_rg (x2 + x6))
      refine Tp_bi (s_SI_at hn ci  (t := t) (x1 := x2 + x6)) (fun q771 h772 => ?_)
      obtain ⟨ci776, E777⟩ := h772
      try rw [E777]
      refine Tp_if (fun h778 => ?_) (fun h778 => ?_)
      · have g779 := ti_q h778
        have i780 := ti_rg (mz_gI t 16 (x4 + x6).toNatClampNeg)
        have i781 := ti_rg q771.1
        have l782 : ((1 : Int32)).toInt = 1 := rfl
        first | (have a783 : (x6 + (1 : Int32)).toInt = (x6).toInt + ((1 : Int32)).toInt := ti_add (by omega) (by omega)) | (have a784 := ti_rg (x6 + (1 : Int32)))
        exact ih x2 x4 x5 (x6 + (1 : Int32)) t ci (by omega) (by omega) (by omega) (by omega) (by omega)
      · have g785 := ti_nq h778
        have i786 := ti_rg (mz_gI t 16 (x4 + x6).toNatClampNeg)
        have i787 := ti_rg q771.1
        refine Tp_so ?_
        have l788 : ((0 : Int32)).toInt = 0 := rfl
        refine ⟨ci, rfl, ?_, ?_⟩
        · (try dsimp only) <;> first | omega | assumption
        · (try dsimp only) <;> first | omega | assumption
