/-! TOTAL: written by vcg.py -/
set_option maxRecDepth 4000 in
set_option maxHeartbeats 8000000 in
theorem s_MO_in {n : Nat} {s : mz_St} (hn : 8589934592 ≤ n) {x0 : Int32} {x1 : Int32} {x2 : Int32} {t : mz_St}  (ci : MI s t)  : Tp (f_MO_in n x0 x1 x2 t) (fun r => MI s r.2 ∧ r.2 = t ∧ 0 ≤ (r.1).toInt ∧ (r.1).toInt ≤ 1 ∧ ((r.1).toInt = 0 ∨ x1.toInt ≤ x0.toInt ∧ x0.toInt ≤ x2.toInt)) := by
  unfold f_MO_in
  refine Tp_if (fun h1 => ?_) (fun h1 => ?_)
  · have g2 := ti_l h1
    have i3 := ti_rg x0
    have i4 := ti_rg x1
    refine Tp_so ?_
    have l5 : ((0 : Int32)).toInt = 0 := rfl
    refine ⟨ci, rfl, ?_, ?_, ?_⟩
    · (try dsimp only) <;> first | omega | assumption
    · (try dsimp only) <;> first | omega | assumption
    · (try dsimp only) <;> first | omega | assumption
  · have g6 := ti_nl h1
    have i7 := ti_rg x0
    have i8 := ti_rg x1
    refine Tp_if (fun h9 => ?_) (fun h9 => ?_)
    · have g10 := ti_l h9
      have i11 := ti_rg x2
      refine Tp_so ?_
      have l12 : ((0 : Int32)).toInt = 0 := rfl
      refine ⟨ci, rfl, ?_, ?_, ?_⟩
      · (try dsimp only) <;> first | omega | assumption
      · (try dsimp only) <;> first | omega | assumption
      · (try dsimp only) <;> first | omega | assumption
    · have g13 := ti_nl h9
      have i14 := ti_rg x2
      refine Tp_so ?_
      have l15 : ((1 : Int32)).toInt = 1 := rfl
      refine ⟨ci, rfl, ?_, ?_, ?_⟩
      · (try dsimp only) <;> first | omega | assumption
      · (try dsimp only) <;> first | omega | assumption
      · (try dsimp only) <;> first | omega | assumption
set_option maxRecDepth 4000 in
set_option maxHeartbeats 8000000 in
theorem s_MO_fail {n : Nat} {s : mz_St} (hn : 8589934592 ≤ n) {x1 : Int32} {x2 : Int32} {t : mz_St}  (ci : MI s t) (i0 : 0 ≤ x1.toInt) : Tp (f_MO_fail n x1 x2 t) (fun r => MI s r ∧ (x1.toInt = 0 ∨ ¬ (mz_gI r 0 6).toInt = 0) ∧ ((mz_gI t 0 6).toInt = 0 ∨ (mz_gI r 0 6).toInt = (mz_gI t 0 6).toInt) ∧ (mz_gI r 0 60).toInt = (mz_gI t 0 60).toInt) := by
  unfold f_MO_fail
  have b16 := MI_g29 ci (c := 0) (p := 6) rfl
  have b17 := MI_g23 ci (c := 0) (p := 60) rfl
  refine Tp_if (fun h18 => ?_) (fun h18 => ?_)
  · have g19 := ti_q h18
    have l20 : (0 : Int32).toInt = 0 := rfl
    have i23 := ti_rg x1
    refine Tp_le (fun t21 E22 => ?_)
    have l25 : (6 : Int32).toInt = 6 := rfl
    have ci24 := MI_p29 ci E22 rfl (by omega) (by omega)
    have i28 := ti_rg x2
    refine Tp_le (fun t26 E27 => ?_)
    have ci29 := MI_p0 ci24 E27 rfl
    refine Tp_so ?_
    have b30 := MI_g29 ci29 (c := 0) (p := 6) rfl
    have e31 : (mz_gI t26 0 6).toInt = (mz_gI t21 0 6).toInt := by rw [E27, gI_oth _ _ (by simp)]
    have b32 := MI_g29 ci24 (c := 0) (p := 6) rfl
    have e33 : (mz_gI t21 0 6).toInt = (x1).toInt := by rw [E22, gI_same]
    have b34 := MI_g23 ci29 (c := 0) (p := 60) rfl
    have e35 : (mz_gI t26 0 60).toInt = (mz_gI t21 0 60).toInt := by rw [E27, gI_oth _ _ (by simp)]
    have b36 := MI_g23 ci24 (c := 0) (p := 60) rfl
    have e37 : (mz_gI t21 0 60).toInt = (mz_gI t 0 60).toInt := by rw [E22, gI_oth _ _ (by simp)]
    refine ⟨ci29, ?_, ?_, ?_⟩
    · (try dsimp only) <;> first | omega | assumption
    · (try dsimp only) <;> first | omega | assumption
    · (try dsimp only) <;> first | omega | assumption
  · have g38 := ti_nq h18
    have l39 : (0 : Int32).toInt = 0 := rfl
    refine Tp_so ?_
    refine ⟨ci, ?_, ?_, ?_⟩
    · (try dsimp only) <;> first | omega | assumption
    · (try dsimp only) <;> first | omega | assumption
    · (try dsimp only) <;> first | omega | assumption
set_option maxRecDepth 4000 in
set_option maxHeartbeats 8000000 in
theorem s_MO_isBegin {n : Nat} {s : mz_St} (hn : 8589934592 ≤ n) {x0 : Int32} {t : mz_St}  (ci : MI s t)  : Tp (f_MO_isBegin n x0 t) (fun r => MI s r.2 ∧ r.2 = t ∧ 0 ≤ (r.1).toInt ∧ (r.1).toInt ≤ 1 ∧ ((r.1).toInt = 0 ∨ 32 < x0.toInt)) := by
  unfold f_MO_isBegin
  refine Tp_if (fun h40 => ?_) (fun h40 => ?_)
  · have g41 := ti_l h40
    have i42 := ti_rg x0
    have l43 : ((97 : Int32)).toInt = 97 := rfl
    unfold f_MO_isBegin_12
    refine Tp_if (fun h44 => ?_) (fun h44 => ?_)
    · have g45 := ti_q h44
      have l46 : ((95 : Int32)).toInt = 95 := rfl
      unfold f_MO_isBegin_18
      refine Tp_so ?_
      have l47 : ((1 : Int32)).toInt = 1 := rfl
      refine ⟨ci, rfl, ?_, ?_, ?_⟩
      · (try dsimp only) <;> first | omega | assumption
      · (try dsimp only) <;> first | omega | assumption
      · (try dsimp only) <;> first | omega | assumption
    · have g48 := ti_nq h44
      have l49 : ((95 : Int32)).toInt = 95 := rfl
      refine Tp_so ?_
      have l50 : ((0 : Int32)).toInt = 0 := rfl
      refine ⟨ci, rfl, ?_, ?_, ?_⟩
      · (try dsimp only) <;> first | omega | assumption
      · (try dsimp only) <;> first | omega | assumption
      · (try dsimp only) <;> first | omega | assumption
  · have g51 := ti_nl h40
    have i52 := ti_rg x0
    have l53 : ((97 : Int32)).toInt = 97 := rfl
    refine Tp_if (fun h54 => ?_) (fun h54 => ?_)
    · have g55 := ti_e h54
      have l56 : ((122 : Int32)).toInt = 122 := rfl
      unfold f_MO_isBegin_18
      refine Tp_so ?_
      have l57 : ((1 : Int32)).toInt = 1 := rfl
      refine ⟨ci, rfl, ?_, ?_, ?_⟩
      · (try dsimp only) <;> first | omega | assumption
      · (try dsimp only) <;> first | omega | assumption
      · (try dsimp only) <;> first | omega | assumption
    · have g58 := ti_ne h54
      have l59 : ((122 : Int32)).toInt = 122 := rfl
      unfold f_MO_isBegin_12
      refine Tp_if (fun h60 => ?_) (fun h60 => ?_)
      · have g61 := ti_q h60
        have l62 : ((95 : Int32)).toInt = 95 := rfl
        unfold f_MO_isBegin_18
        refine Tp_so ?_
        have l63 : ((1 : Int32)).toInt = 1 := rfl
        refine ⟨ci, rfl, ?_, ?_, ?_⟩
        · (try dsimp only) <;> first | omega | assumption
        · (try dsimp only) <;> first | omega | assumption
        · (try dsimp only) <;> first | omega | assumption
      · have g64 := ti_nq h60
        have l65 : ((95 : Int32)).toInt = 95 := rfl
        refine Tp_so ?_
        have l66 : ((0 : Int32)).toInt = 0 := rfl
        refine ⟨ci, rfl, ?_, ?_, ?_⟩
        · (try dsimp only) <;> first | omega | assumption
        · (try dsimp only) <;> first | omega | assumption
        · (try dsimp only) <;> first | omega | assumption
set_option maxRecDepth 4000 in
set_option maxHeartbeats 8000000 in
theorem s_MO_isDigit {n : Nat} {s : mz_St} (hn : 8589934592 ≤ n) {x0 : Int32} {t : mz_St}  (ci : MI s t)  : Tp (f_MO_isDigit n x0 t) (fun r => MI s r.2 ∧ r.2 = t ∧ 0 ≤ (r.1).toInt ∧ (r.1).toInt ≤ 1 ∧ ((r.1).toInt = 0 ∨ 32 < x0.toInt)) := by
  unfold f_MO_isDigit
  refine Tp_if (fun h67 => ?_) (fun h67 => ?_)
  · have g68 := ti_l h67
    have i69 := ti_rg x0
    have l70 : ((48 : Int32)).toInt = 48 := rfl
    refine Tp_so ?_
    have l71 : ((0 : Int32)).toInt = 0 := rfl
    refine ⟨ci, rfl, ?_, ?_, ?_⟩
    · (try dsimp only) <;> first | omega | assumption
    · (try dsimp only) <;> first | omega | assumption
    · (try dsimp only) <;> first | omega | assumption
  · have g72 := ti_nl h67
    have i73 := ti_rg x0
    have l74 : ((48 : Int32)).toInt = 48 := rfl
    refine Tp_if (fun h75 => ?_) (fun h75 => ?_)
    · have g76 := ti_l h75
      have l77 : ((57 : Int32)).toInt = 57 := rfl
      refine Tp_so ?_
      have l78 : ((0 : Int32)).toInt = 0 := rfl
      refine ⟨ci, rfl, ?_, ?_, ?_⟩
      · (try dsimp only) <;> first | omega | assumption
      · (try dsimp only) <;> first | omega | assumption
      · (try dsimp only) <;> first | omega | assumption
    · have g79 := ti_nl h75
      have l80 : ((57 : Int32)).toInt = 57 := rfl
      refine Tp_so ?_
      have l81 : ((1 : Int32)).toInt = 1 := rfl
      refine ⟨ci, rfl, ?_, ?_, ?_⟩
      · (try dsimp only) <;> first | omega | assumption
      · (try dsimp only) <;> first | omega | assumption
      · (try dsimp only) <;> first | omega | assumption
set_option maxRecDepth 4000 in
set_option maxHeartbeats 8000000 in
theorem s_MO_isWordSign {n : Nat} {s : mz_St} (hn : 8589934592 ≤ n) {x0 : Int32} {t : mz_St}  (ci : MI s t)  : Tp (f_MO_isWordSign n x0 t) (fun r => MI s r.2 ∧ r.2 = t ∧ 0 ≤ (r.1).toInt ∧ (r.1).toInt ≤ 1 ∧ ((r.1).toInt = 0 ∨ 32 < x0.toInt)) := by
  unfold f_MO_isWordSign
  have i84 := ti_rg x0
  refine Tp_bi (s_MO_isBegin hn ci  (t := t) (x0 := x0)) (fun q82 h83 => ?_)
  obtain ⟨ci85, E86, p87, p88, p89⟩ := h83
  try rw [E86]
  refine Tp_if (fun h90 => ?_) (fun h90 => ?_)
  · have g91 := ti_q h90
    have i92 := ti_rg q82.1
    have l93 : (0 : Int32).toInt = 0 := rfl
    refine Tp_bi (s_MO_isDigit hn ci  (t := t) (x0 := x0)) (fun q94 h95 => ?_)
    obtain ⟨ci96, E97, p98, p99, p100⟩ := h95
    try rw [E97]
    refine Tp_if (fun h101 => ?_) (fun h101 => ?_)
    · have g102 := ti_q h101
      have i103 := ti_rg q94.1
      refine Tp_so ?_
      have l104 : ((0 : Int32)).toInt = 0 := rfl
      refine ⟨ci, rfl, ?_, ?_, ?_⟩
      · (try dsimp only) <;> first | omega | assumption
      · (try dsimp only) <;> first | omega | assumption
      · (try dsimp only) <;> first | omega | assumption
    · have g105 := ti_nq h101
      have i106 := ti_rg q94.1
      unfold f_MO_isWordSign_14
      refine Tp_so ?_
      have l107 : ((1 : Int32)).toInt = 1 := rfl
      refine ⟨ci, rfl, ?_, ?_, ?_⟩
      · (try dsimp only) <;> first | omega | assumption
      · (try dsimp only) <;> first | omega | assumption
      · (try dsimp only) <;> first | omega | assumption
  · have g108 := ti_nq h90
    have i109 := ti_rg q82.1
    have l110 : (0 : Int32).toInt = 0 := rfl
    unfold f_MO_isWordSign_14
    refine Tp_so ?_
    have l111 : ((1 : Int32)).toInt = 1 := rfl
    refine ⟨ci, rfl, ?_, ?_, ?_⟩
    · (try dsimp only) <;> first | omega | assumption
    · (try dsimp only) <;> first | omega | assumption
    · (try dsimp only) <;> first | omega | assumption
set_option maxRecDepth 4000 in
set_option maxHeartbeats 8000000 in
theorem s_MO_directiveOf {n : Nat} {s : mz_St} (hn : 8589934592 ≤ n) {x0 : Int64} {t : mz_St}  (ci : MI s t)  : Tp (f_MO_directiveOf n x0 t) (fun r => MI s r.2 ∧ r.2 = t ∧ 0 ≤ (r.1).toInt ∧ (r.1).toInt ≤ 14) := by
  unfold f_MO_directiveOf
  refine Tp_if (fun h112 => ?_) (fun h112 => ?_)
  · skip
    refine Tp_so ?_
    have l113 : ((1 : Int32)).toInt = 1 := rfl
    refine ⟨ci, rfl, ?_, ?_⟩
    · (try dsimp only) <;> first | omega | assumption
    · (try dsimp only) <;> first | omega | assumption
  · skip
    refine Tp_if (fun h114 => ?_) (fun h114 => ?_)
    · skip
      refine Tp_so ?_
      have l115 : ((2 : Int32)).toInt = 2 := rfl
      refine ⟨ci, rfl, ?_, ?_⟩
      · (try dsimp only) <;> first | omega | assumption
      · (try dsimp only) <;> first | omega | assumption
    · skip
      refine Tp_if (fun h116 => ?_) (fun h116 => ?_)
      · skip
        refine Tp_so ?_
        have l117 : ((3 : Int32)).toInt = 3 := rfl
        refine ⟨ci, rfl, ?_, ?_⟩
        · (try dsimp only) <;> first | omega | assumption
        · (try dsimp only) <;> first | omega | assumption
      · skip
        refine Tp_if (fun h118 => ?_) (fun h118 => ?_)
        · skip
          refine Tp_so ?_
          have l119 : ((4 : Int32)).toInt = 4 := rfl
          refine ⟨ci, rfl, ?_, ?_⟩
          · (try dsimp only) <;> first | omega | assumption
          · (try dsimp only) <;> first | omega | assumption
        · skip
          refine Tp_if (fun h120 => ?_) (fun h120 => ?_)
          · skip
            refine Tp_so ?_
            have l121 : ((5 : Int32)).toInt = 5 := rfl
            refine ⟨ci, rfl, ?_, ?_⟩
            · (try dsimp only) <;> first | omega | assumption
            · (try dsimp only) <;> first | omega | assumption
          · skip
            refine Tp_if (fun h122 => ?_) (fun h122 => ?_)
            · skip
              refine Tp_so ?_
              have l123 : ((6 : Int32)).toInt = 6 := rfl
              refine ⟨ci, rfl, ?_, ?_⟩
              · (try dsimp only) <;> first | omega | assumption
              · (try dsimp only) <;> first | omega | assumption
            · skip
              refine Tp_if (fun h124 => ?_) (fun h124 => ?_)
              · skip
                refine Tp_so ?_
                have l125 : ((7 : Int32)).toInt = 7 := rfl
                refine ⟨ci, rfl, ?_, ?_⟩
                · (try dsimp only) <;> first | omega | assumption
                · (try dsimp only) <;> first | omega | assumption
              · skip
                refine Tp_if (fun h126 => ?_) (fun h126 => ?_)
                · skip
                  refine Tp_so ?_
                  have l127 : ((8 : Int32)).toInt = 8 := rfl
                  refine ⟨ci, rfl, ?_, ?_⟩
                  · (try dsimp only) <;> first | omega | assumption
                  · (try dsimp only) <;> first | omega | assumption
                · skip
                  refine Tp_if (fun h128 => ?_) (fun h128 => ?_)
                  · skip
                    refine Tp_so ?_
                    have l129 : ((9 : Int32)).toInt = 9 := rfl
                    refine ⟨ci, rfl, ?_, ?_⟩
                    · (try dsimp only) <;> first | omega | assumption
                    · (try dsimp only) <;> first | omega | assumption
                  · skip
                    refine Tp_if (fun h130 => ?_) (fun h130 => ?_)
                    · skip
                      refine Tp_so ?_
                      have l131 : ((10 : Int32)).toInt = 10 := rfl
                      refine ⟨ci, rfl, ?_, ?_⟩
                      · (try dsimp only) <;> first | omega | assumption
                      · (try dsimp only) <;> first | omega | assumption
                    · skip
                      refine Tp_if (fun h132 => ?_) (fun h132 => ?_)
                      · skip
                        refine Tp_so ?_
                        have l133 : ((11 : Int32)).toInt = 11 := rfl
                        refine ⟨ci, rfl, ?_, ?_⟩
                        · (try dsimp only) <;> first | omega | assumption
                        · (try dsimp only) <;> first | omega | assumption
                      · skip
                        refine Tp_if (fun h134 => ?_) (fun h134 => ?_)
                        · skip
                          refine Tp_so ?_
                          have l135 : ((12 : Int32)).toInt = 12 := rfl
                          refine ⟨ci, rfl, ?_, ?_⟩
                          · (try dsimp only) <;> first | omega | assumption
                          · (try dsimp only) <;> first | omega | assumption
                        · skip
                          refine Tp_if (fun h136 => ?_) (fun h136 => ?_)
                          · skip
                            refine Tp_so ?_
                            have l137 : ((13 : Int32)).toInt = 13 := rfl
                            refine ⟨ci, rfl, ?_, ?_⟩
                            · (try dsimp only) <;> first | omega | assumption
                            · (try dsimp only) <;> first | omega | assumption
                          · skip
                            refine Tp_if (fun h138 => ?_) (fun h138 => ?_)
                            · skip
                              refine Tp_so ?_
                              have l139 : ((14 : Int32)).toInt = 14 := rfl
                              refine ⟨ci, rfl, ?_, ?_⟩
                              · (try dsimp only) <;> first | omega | assumption
                              · (try dsimp only) <;> first | omega | assumption
                            · skip
                              refine Tp_so ?_
                              have l140 : ((0 : Int32)).toInt = 0 := rfl
                              refine ⟨ci, rfl, ?_, ?_⟩
                              · (try dsimp only) <;> first | omega | assumption
                              · (try dsimp only) <;> first | omega | assumption
set_option maxRecDepth 4000 in
set_option maxHeartbeats 8000000 in
theorem l_MO_firstOf_38 {n : Nat} {s : mz_St} (hn : 8589934592 ≤ n)  : ∀ (k : Nat) (x1 : Int32) (x2 : Int32) (x3 : Int64) (x5 : Int32) (t : mz_St), MI s t → (0 ≤ x1.toInt) → (x1.toInt ≤ 3000) → (0 ≤ x2.toInt) → (x2.toInt ≤ 3001) → (2147483648 - x2.toInt).toNat < k → Tp (f_MO_firstOf_38 n k x1 x2 x3 x5 t) (fun r => MI s r.2 ∧ r.2 = t ∧ 0 ≤ (r.1).toInt ∧ (r.1).toInt ≤ 14) := by
  intro k
  induction k with
  | zero => intros; omega
  | succ k ih =>
    intro x1 x2 x3 x5 t ci i0 i1 i2 i3 hm
    unfold f_MO_firstOf_38
    have i141 := ti_rg x1
    refine Tp_gd (ti_ix (by omega) (by omega)) ?_
    refine Tp_if (fun h142 => ?_) (fun h142 => ?_)
    · have g143 := ti_e h142
      have b144 := MI_13 ci (c := 3) (p := x1.toNatClampNeg) rfl
      have b145 := FX_3 ci.1 x1.toNatClampNeg
      have b146 := FX_l ci.1 x1.toNatClampNeg
      have i147 := ti_rg x2
      unfold f_MO_firstOf_116
      refine Tp_if (fun h148 => ?_) (fun h148 => ?_)
      · have g149 := ti_e h148
        have i150 := ti_rg x5
        have l151 : ((8 : Int32)).toInt = 8 := rfl
        refine Tp_bi (s_MO_directiveOf hn ci  (t := t) (x0 := x3)) (fun q152 h153 => ?_)
        obtain ⟨ci154, E155, p156, p157⟩ := h153
        try rw [E155]
        refine Tp_so ?_
        have i158 := ti_rg q152.1
        refine ⟨ci, rfl, ?_, ?_⟩
        · (try dsimp only) <;> first | omega | assumption
        · (try dsimp only) <;> first | omega | assumption
      · have g159 := ti_ne h148
        have i160 := ti_rg x5
        have l161 : ((8 : Int32)).toInt = 8 := rfl
        refine Tp_so ?_
        have l162 : ((0 : Int32)).toInt = 0 := rfl
        refine ⟨ci, rfl, ?_, ?_⟩
        · (try dsimp only) <;> first | omega | assumption
        · (try dsimp only) <;> first | omega | assumption
    · have g163 := ti_ne h142
      have b164 := MI_13 ci (c := 3) (p := x1.toNatClampNeg) rfl
      have b165 := FX_3 ci.1 x1.toNatClampNeg
      have b166 := FX_l ci.1 x1.toNatClampNeg
      have i167 := ti_rg x2
      refine Tp_if (fun h168 => ?_) (fun h168 => ?_)
      · have g169 := ti_q h168
        have i170 := ti_rg x5
        have l171 : (0 : Int32).toInt = 0 := rfl
        refine Tp_gd (ti_ix (by omega) (by omega)) ?_
        have b174 := MI_13 ci (c := 1) (p := x2.toNatClampNeg) rfl
        have i175 := ti_rg (mz_gI s 1 x2.toNatClampNeg)
        refine Tp_bi (s_MO_isBegin hn ci  (t := t) (x0 := mz_gI t 1 x2.toNatClampNeg)) (fun q172 h173 => ?_)
        obtain ⟨ci176, E177, p178, p179, p180⟩ := h173
        try rw [E177]
        refine Tp_if (fun h181 => ?_) (fun h181 => ?_)
        · have g182 := ti_q h181
          have i183 := ti_rg q172.1
          unfold f_MO_firstOf_116
          refine Tp_if (fun h184 => ?_) (fun h184 => ?_)
          · have g185 := ti_e h184
            have l186 : ((8 : Int32)).toInt = 8 := rfl
            refine Tp_bi (s_MO_directiveOf hn ci  (t := t) (x0 := x3)) (fun q187 h188 => ?_)
            obtain ⟨ci189, E190, p191, p192⟩ := h188
            try rw [E190]
            refine Tp_so ?_
            have i193 := ti_rg q187.1
            refine ⟨ci, rfl, ?_, ?_⟩
            · (try dsimp only) <;> first | omega | assumption
            · (try dsimp only) <;> first | omega | assumption
          · have g194 := ti_ne h184
            have l195 : ((8 : Int32)).toInt = 8 := rfl
            refine Tp_so ?_
            have l196 : ((0 : Int32)).toInt = 0 := rfl
            refine ⟨ci, rfl, ?_, ?_⟩
            · (try dsimp only) <;> first | omega | assumption
            · (try dsimp only) <;> first | omega | assumption
        · have g197 := ti_nq h181
          have i198 := ti_rg q172.1
          unfold f_MO_firstOf_80
          refine Tp_if (fun h199 => ?_) (fun h199 => ?_)
          · have g200 := ti_e h199
            have l201 : ((8 : Int32)).toInt = 8 := rfl
            unfold f_MO_firstOf_106
            have l202 : ((1 : Int32)).toInt = 1 := rfl
            first | (have a203 : (x2 + (1 : Int32)).toInt = (x2).toInt + ((1 : Int32)).toInt := ti_add (by omega) (by omega)) | (have a204 := ti_rg (x2 + (1 : Int32)))
            first | (have a205 : (x5 + (1 : Int32)).toInt = (x5).toInt + ((1 : Int32)).toInt := ti_add (by omega) (by omega)) | (have a206 := ti_rg (x5 + (1 : Int32)))
            exact ih x1 (x2 + (1 : Int32)) x3 (x5 + (1 : Int32)) t ci (by omega) (by omega) (by omega) (by omega) (by omega)
          · have g207 := ti_ne h199
            have l208 : ((8 : Int32)).toInt = 8 := rfl
            refine Tp_gd (ti_ix (by omega) (by omega)) ?_
            unfold f_MO_firstOf_106
            have l209 : ((1 : Int32)).toInt = 1 := rfl
            first | (have a210 : (x2 + (1 : Int32)).toInt = (x2).toInt + ((1 : Int32)).toInt := ti_add (by omega) (by omega)) | (have a211 := ti_rg (x2 + (1 : Int32)))
            first | (have a212 : (x5 + (1 : Int32)).toInt = (x5).toInt + ((1 : Int32)).toInt := ti_add (by omega) (by omega)) | (have a213 := ti_rg (x5 + (1 : Int32)))
            exact ih x1 (x2 + (1 : Int32)) (x3 ||| ((mz_gI t 1 x2.toNatClampNeg).toInt64 <<< (((8 : Int32) * x5).toInt64 &&& 63))) (x5 + (1 : Int32)) t ci (by omega) (by omega) (by omega) (by omega) (by omega)
      · have g214 := ti_nq h168
        have i215 := ti_rg x5
        have l216 : (0 : Int32).toInt = 0 := rfl
        refine Tp_gd (ti_ix (by omega) (by omega)) ?_
        have b219 := MI_13 ci (c := 1) (p := x2.toNatClampNeg) rfl
        have i220 := ti_rg (mz_gI s 1 x2.toNatClampNeg)
        refine Tp_bi (s_MO_isWordSign hn ci  (t := t) (x0 := mz_gI t 1 x2.toNatClampNeg)) (fun q217 h218 => ?_)
        obtain ⟨ci221, E222, p223, p224, p225⟩ := h218
        try rw [E222]
        refine Tp_if (fun h226 => ?_) (fun h226 => ?_)
        · have g227 := ti_q h226
          have i228 := ti_rg q217.1
          unfold f_MO_firstOf_116
          refine Tp_if (fun h229 => ?_) (fun h229 => ?_)
          · have g230 := ti_e h229
            have l231 : ((8 : Int32)).toInt = 8 := rfl
            refine Tp_bi (s_MO_directiveOf hn ci  (t := t) (x0 := x3)) (fun q232 h233 => ?_)
            obtain ⟨ci234, E235, p236, p237⟩ := h233
            try rw [E235]
            refine Tp_so ?_
            have i238 := ti_rg q232.1
            refine ⟨ci, rfl, ?_, ?_⟩
            · (try dsimp only) <;> first | omega | assumption
            · (try dsimp only) <;> first | omega | assumption
          · have g239 := ti_ne h229
            have l240 : ((8 : Int32)).toInt = 8 := rfl
            refine Tp_so ?_
            have l241 : ((0 : Int32)).toInt = 0 := rfl
            refine ⟨ci, rfl, ?_, ?_⟩
            · (try dsimp only) <;> first | omega | assumption
            · (try dsimp only) <;> first | omega | assumption
        · have g242 := ti_nq h226
          have i243 := ti_rg q217.1
          unfold f_MO_firstOf_80
          refine Tp_if (fun h244 => ?_) (fun h244 => ?_)
          · have g245 := ti_e h244
            have l246 : ((8 : Int32)).toInt = 8 := rfl
            unfold f_MO_firstOf_106
            have l247 : ((1 : Int32)).toInt = 1 := rfl
            first | (have a248 : (x2 + (1 : Int32)).toInt = (x2).toInt + ((1 : Int32)).toInt := ti_add (by omega) (by omega)) | (have a249 := ti_rg (x2 + (1 : Int32)))
            first | (have a250 : (x5 + (1 : Int32)).toInt = (x5).toInt + ((1 : Int32)).toInt := ti_add (by omega) (by omega)) | (have a251 := ti_rg (x5 + (1 : Int32)))
            exact ih x1 (x2 + (1 : Int32)) x3 (x5 + (1 : Int32)) t ci (by omega) (by omega) (by omega) (by omega) (by omega)
          · have g252 := ti_ne h244
            have l253 : ((8 : Int32)).toInt = 8 := rfl
            refine Tp_gd (ti_ix (by omega) (by omega)) ?_
            unfold f_MO_firstOf_106
            have l254 : ((1 : Int32)).toInt = 1 := rfl
            first | (have a255 : (x2 + (1 : Int32)).toInt = (x2).toInt + ((1 : Int32)).toInt := ti_add (by omega) (by omega)) | (have a256 := ti_rg (x2 + (1 : Int32)))
            first | (have a257 : (x5 + (1 : Int32)).toInt = (x5).toInt + ((1 : Int32)).toInt := ti_add (by omega) (by omega)) | (have a258 := ti_rg (x5 + (1 : Int32)))
            exact ih x1 (x2 + (1 : Int32)) (x3 ||| ((mz_gI t 1 x2.toNatClampNeg).toInt64 <<< (((8 : Int32) * x5).toInt64 &&& 63))) (x5 + (1 : Int32)) t ci (by omega) (by omega) (by omega) (by omega) (by omega)
set_option maxRecDepth 4000 in
set_option maxHeartbeats 8000000 in
theorem s_MO_firstOf {n : Nat} {s : mz_St} (hn : 8589934592 ≤ n) {x1 : Int32} {t : mz_St}  (ci : MI s t) (i0 : 0 ≤ x1.toInt) (i1 : x1.toInt ≤ 3000) : Tp (f_MO_firstOf n x1 t) (fun r => MI s r.2 ∧ r.2 = t ∧ 0 ≤ (r.1).toInt ∧ (r.1).toInt ≤ 14) := by
  unfold f_MO_firstOf
  have i259 := ti_rg x1
  refine Tp_gd (ti_ix (by omega) (by omega)) ?_
  refine Tp_gd (ti_ix (by omega) (by omega)) ?_
  refine Tp_if (fun h260 => ?_) (fun h260 => ?_)
  · have g261 := ti_q h260
    have b262 := MI_13 ci (c := 2) (p := x1.toNatClampNeg) rfl
    have b263 := FX_2 ci.1 x1.toNatClampNeg
    have b264 := FX_l ci.1 x1.toNatClampNeg
    have b265 := MI_13 ci (c := 3) (p := x1.toNatClampNeg) rfl
    have b266 := FX_3 ci.1 x1.toNatClampNeg
    have b267 := FX_l ci.1 x1.toNatClampNeg
    refine Tp_so ?_
    have l268 : ((0 : Int32)).toInt = 0 := rfl
    refine ⟨ci, rfl, ?_, ?_⟩
    · (try dsimp only) <;> first | omega | assumption
    · (try dsimp only) <;> first | omega | assumption
  · have g269 := ti_nq h260
    have b270 := MI_13 ci (c := 2) (p := x1.toNatClampNeg) rfl
    have b271 := FX_2 ci.1 x1.toNatClampNeg
    have b272 := FX_l ci.1 x1.toNatClampNeg
    have b273 := MI_13 ci (c := 3) (p := x1.toNatClampNeg) rfl
    have b274 := FX_3 ci.1 x1.toNatClampNeg
    have b275 := FX_l ci.1 x1.toNatClampNeg
    refine Tp_gd (ti_ix (by omega) (by omega)) ?_
    refine Tp_if (fun h276 => ?_) (fun h276 => ?_)
    · have g277 := ti_q h276
      have b278 := MI_13 ci (c := 1) (p := (mz_gI t 2 x1.toNatClampNeg).toNatClampNeg) rfl
      have i279 := ti_rg (mz_gI s 1 (mz_gI t 2 x1.toNatClampNeg).toNatClampNeg)
      have l280 : ((46 : Int32)).toInt = 46 := rfl
      have l281 : ((1 : Int32)).toInt = 1 := rfl
      first | (have a282 : ((mz_gI t 2 x1.toNatClampNeg) + (1 : Int32)).toInt = (mz_gI t 2 x1.toNatClampNeg).toInt + ((1 : Int32)).toInt := ti_add (by omega) (by omega)) | (have a283 := ti_rg ((mz_gI t 2 x1.toNatClampNeg) + (1 : Int32)))
      have l284 : ((0 : Int32)).toInt = 0 := rfl
      refine Tp_mo (l_MO_firstOf_38 hn  n x1 ((mz_gI t 2 x1.toNatClampNeg) + (1 : Int32)) (0 : Int64) (0 : Int32) t ci (by omega) (by omega) (by omega) (by omega) (by omega)) (fun q285 h286 => ?_)
      obtain ⟨ci287, E288, p289, p290⟩ := h286
      have i291 := ti_rg q285.1
      refine ⟨ci287, (E288), ?_, ?_⟩
      · (try dsimp only) <;> first | omega | assumption
      · (try dsimp only) <;> first | omega | assumption
    · have g292 := ti_nq h276
      have b293 := MI_13 ci (c := 1) (p := (mz_gI t 2 x1.toNatClampNeg).toNatClampNeg) rfl
      have i294 := ti_rg (mz_gI s 1 (mz_gI t 2 x1.toNatClampNeg).toNatClampNeg)
      have l295 : ((46 : Int32)).toInt = 46 := rfl
      refine Tp_so ?_
      have l296 : ((0 : Int32)).toInt = 0 := rfl
      refine ⟨ci, rfl, ?_, ?_⟩
      · (try dsimp only) <;> first | omega | assumption
      · (try dsimp only) <;> first | omega | assumption
set_option maxRecDepth 4000 in
set_option maxHeartbeats 8000000 in
theorem s_MO_add {n : Nat} {s : mz_St} (hn : 8589934592 ≤ n) {x1 : Int32} {t : mz_St}  (ci : MI s t)  : Tp (f_MO_add n x1 t) (fun r => MI s r ∧ (mz_gI t 0 60).toInt ≤ (mz_gI r 0 60).toInt ∧ (mz_gI r 0 60).toInt ≤ (mz_gI t 0 60).toInt + 1) := by
  unfold f_MO_add
  have b297 := MI_g23 ci (c := 0) (p := 60) rfl
  refine Tp_if (fun h298 => ?_) (fun h298 => ?_)
  · have g299 := ti_e h298
    have l300 : ((6000 : Int32)).toInt = 6000 := rfl
    refine Tp_so ?_
    refine ⟨ci, ?_, ?_⟩
    · (try dsimp only) <;> first | omega | assumption
    · (try dsimp only) <;> first | omega | assumption
  · have g301 := ti_ne h298
    have l302 : ((6000 : Int32)).toInt = 6000 := rfl
    refine Tp_gd (ti_ix (by omega) (by omega)) ?_
    have i305 := ti_rg x1
    refine Tp_le (fun t303 E304 => ?_)
    have ci306 := MI_p0 ci E304 rfl
    have b309 := MI_g23 ci306 (c := 0) (p := 60) rfl
    have e310 : (mz_gI t303 0 60).toInt = (mz_gI t 0 60).toInt := by rw [E304, gI_oth _ _ (by simp)]
    have l311 : ((1 : Int32)).toInt = 1 := rfl
    first | (have a312 : ((mz_gI t303 0 60) + (1 : Int32)).toInt = (mz_gI t303 0 60).toInt + ((1 : Int32)).toInt := ti_add (by omega) (by omega)) | (have a313 := ti_rg ((mz_gI t303 0 60) + (1 : Int32)))
    refine Tp_le (fun t307 E308 => ?_)
    have l315 : (60 : Int32).toInt = 60 := rfl
    have ci314 := MI_p23 ci306 E308 rfl (by omega) (by omega)
    refine Tp_so ?_
    have b316 := MI_g23 ci314 (c := 0) (p := 60) rfl
    have e317 : (mz_gI t307 0 60).toInt = ((mz_gI t303 0 60) + (1 : Int32)).toInt := by rw [E308, gI_same]
    refine ⟨ci314, ?_, ?_⟩
    · (try dsimp only) <;> first | omega | assumption
    · (try dsimp only) <;> first | omega | assumption
set_option maxRecDepth 4000 in
set_option maxHeartbeats 8000000 in
theorem l_MO_macroFrame_7 {n : Nat} {s : mz_St} (hn : 8589934592 ≤ n) (g0 : Int) : ∀ (k : Nat) (x1 : Int32) (t : mz_St), MI s t → (x1.toInt ≤ 12) → (x1.toInt ≤ g0) → (x1.toInt + 2147483648).toNat < k → Tp (f_MO_macroFrame_7 n k x1 t) (fun r => MI s r.2 ∧ r.2 = t ∧ -1 ≤ (r.1).toInt ∧ (r.1).toInt ≤ 12 ∧ ¬ (r.1).toInt = 0 ∧ ((r.1).toInt = -1 ∨ (r.1).toInt ≤ g0)) := by
  intro k
  induction k with
  | zero => intros; omega
  | succ k ih =>
    intro x1 t ci i0 i1 hm
    unfold f_MO_macroFrame_7
    simp only [ti_m1]
    refine Tp_if (fun h318 => ?_) (fun h318 => ?_)
    · have g319 := ti_e h318
      have i320 := ti_rg x1
      have l321 : (0 : Int32).toInt = 0 := rfl
      unfold f_MO_macroFrame_27
      refine Tp_if (fun h322 => ?_) (fun h322 => ?_)
      · have g323 := ti_e h322
        refine Tp_so ?_
        have l324 : ((-1 : Int32)).toInt = -1 := rfl
        refine ⟨ci, rfl, ?_, ?_, ?_, ?_⟩
        · (try dsimp only) <;> first | omega | assumption
        · (try dsimp only) <;> first | omega | assumption
        · (try dsimp only) <;> first | omega | assumption
        · (try dsimp only) <;> first | omega | assumption
      · have g325 := ti_ne h322
        refine Tp_so ?_
        refine ⟨ci, rfl, ?_, ?_, ?_, ?_⟩
        · (try dsimp only) <;> first | omega | assumption
        · (try dsimp only) <;> first | omega | assumption
        · (try dsimp only) <;> first | omega | assumption
        · (try dsimp only) <;> first | omega | assumption
    · have g326 := ti_ne h318
      have i327 := ti_rg x1
      have l328 : (0 : Int32).toInt = 0 := rfl
      refine Tp_gd (ti_ix (by omega) (by omega)) ?_
      refine Tp_if (fun h329 => ?_) (fun h329 => ?_)
      · have g330 := ti_q h329
        have b331 := MI_13 ci (c := 22) (p := x1.toNatClampNeg) rfl
        have i332 := ti_rg (mz_gI s 22 x1.toNatClampNeg)
        have l333 : ((1 : Int32)).toInt = 1 := rfl
        unfold f_MO_macroFrame_27
        refine Tp_if (fun h334 => ?_) (fun h334 => ?_)
        · have g335 := ti_e h334
          refine Tp_so ?_
          have l336 : ((-1 : Int32)).toInt = -1 := rfl
          refine ⟨ci, rfl, ?_, ?_, ?_, ?_⟩
          · (try dsimp only) <;> first | omega | assumption
          · (try dsimp only) <;> first | omega | assumption
          · (try dsimp only) <;> first | omega | assumption
          · (try dsimp only) <;> first | omega | assumption
        · have g337 := ti_ne h334
          refine Tp_so ?_
          refine ⟨ci, rfl, ?_, ?_, ?_, ?_⟩
          · (try dsimp only) <;> first | omega | assumption
          · (try dsimp only) <;> first | omega | assumption
          · (try dsimp only) <;> first | omega | assumption
          · (try dsimp only) <;> first | omega | assumption
      · have g338 := ti_nq h329
        have b339 := MI_13 ci (c := 22) (p := x1.toNatClampNeg) rfl
        have i340 := ti_rg (mz_gI s 22 x1.toNatClampNeg)
        have l341 : ((1 : Int32)).toInt = 1 := rfl
        first | (have a342 : (x1 - (1 : Int32)).toInt = (x1).toInt - ((1 : Int32)).toInt := ti_sub (by omega) (by omega)) | (have a343 := ti_rg (x1 - (1 : Int32)))
        exact ih (x1 - (1 : Int32)) t ci (by omega) (by omega) (by omega)
set_option maxRecDepth 4000 in
set_option maxHeartbeats 8000000 in
theorem s_MO_macroFrame {n : Nat} {s : mz_St} (hn : 8589934592 ≤ n) {t : mz_St}  (ci : MI s t)  : Tp (f_MO_macroFrame n t) (fun r => MI s r.2 ∧ r.2 = t ∧ -1 ≤ (r.1).toInt ∧ (r.1).toInt ≤ 12 ∧ ¬ (r.1).toInt = 0 ∧ ((r.1).toInt = -1 ∨ (r.1).toInt < (mz_gI t 0 34).toInt)) := by
  unfold f_MO_macroFrame
  have b344 := MI_13 ci (c := 0) (p := 34) rfl
  have b345 := FX_0_34 ci.1
  have l346 : ((1 : Int32)).toInt = 1 := rfl
  first | (have a347 : ((mz_gI t 0 34) - (1 : Int32)).toInt = (mz_gI t 0 34).toInt - ((1 : Int32)).toInt := ti_sub (by omega) (by omega)) | (have a348 := ti_rg ((mz_gI t 0 34) - (1 : Int32)))
  refine Tp_mo (l_MO_macroFrame_7 hn (((mz_gI t 0 34) - (1 : Int32)).toInt) n ((mz_gI t 0 34) - (1 : Int32)) t ci (by omega) (by omega) (by omega)) (fun q349 h350 => ?_)
  obtain ⟨ci351, E352, p353, p354, p355, p356⟩ := h350
  have i357 := ti_rg q349.1
  refine ⟨ci351, (E352), ?_, ?_, ?_, ?_⟩
  · (try dsimp only) <;> first | omega | assumption
  · (try dsimp only) <;> first | omega | assumption
  · (try dsimp only) <;> first | omega | assumption
  · (try dsimp only) <;> first | omega | assumption
set_option maxRecDepth 4000 in
set_option maxHeartbeats 8000000 in
theorem s_MO_givingFrame {n : Nat} {s : mz_St} (hn : 8589934592 ≤ n) {t : mz_St}  (ci : MI s t)  : Tp (f_MO_givingFrame n t) (fun r => MI s r.2 ∧ r.2 = t ∧ -1 ≤ (r.1).toInt ∧ (r.1).toInt ≤ 12) := by
  unfold f_MO_givingFrame
  refine Tp_if (fun h358 => ?_) (fun h358 => ?_)
  · have g359 := ti_e h358
    have b360 := MI_13 ci (c := 0) (p := 34) rfl
    have b361 := FX_0_34 ci.1
    have l362 : ((1 : Int32)).toInt = 1 := rfl
    first | (have a363 : ((mz_gI t 0 34) - (1 : Int32)).toInt = (mz_gI t 0 34).toInt - ((1 : Int32)).toInt := ti_sub (by omega) (by omega)) | (have a364 := ti_rg ((mz_gI t 0 34) - (1 : Int32)))
    have l365 : (0 : Int32).toInt = 0 := rfl
    refine Tp_so ?_
    have l366 : ((-1 : Int32)).toInt = -1 := rfl
    refine ⟨ci, rfl, ?_, ?_⟩
    · (try dsimp only) <;> first | omega | assumption
    · (try dsimp only) <;> first | omega | assumption
  · have g367 := ti_ne h358
    have b368 := MI_13 ci (c := 0) (p := 34) rfl
    have b369 := FX_0_34 ci.1
    have l370 : ((1 : Int32)).toInt = 1 := rfl
    first | (have a371 : ((mz_gI t 0 34) - (1 : Int32)).toInt = (mz_gI t 0 34).toInt - ((1 : Int32)).toInt := ti_sub (by omega) (by omega)) | (have a372 := ti_rg ((mz_gI t 0 34) - (1 : Int32)))
    have l373 : (0 : Int32).toInt = 0 := rfl
    refine Tp_gd (ti_ix (by omega) (by omega)) ?_
    refine Tp_if (fun h374 => ?_) (fun h374 => ?_)
    · have g375 := ti_q h374
      have b376 := MI_13 ci (c := 22) (p := ((mz_gI t 0 34) - (1 : Int32)).toNatClampNeg) rfl
      have i377 := ti_rg (mz_gI s 22 ((mz_gI t 0 34) - (1 : Int32)).toNatClampNeg)
      refine Tp_so ?_
      have l378 : ((-1 : Int32)).toInt = -1 := rfl
      refine ⟨ci, rfl, ?_, ?_⟩
      · (try dsimp only) <;> first | omega | assumption
      · (try dsimp only) <;> first | omega | assumption
    · have g379 := ti_nq h374
      have b380 := MI_13 ci (c := 22) (p := ((mz_gI t 0 34) - (1 : Int32)).toNatClampNeg) rfl
      have i381 := ti_rg (mz_gI s 22 ((mz_gI t 0 34) - (1 : Int32)).toNatClampNeg)
      refine Tp_so ?_
      refine ⟨ci, rfl, ?_, ?_⟩
      · (try dsimp only) <;> first | omega | assumption
      · (try dsimp only) <;> first | omega | assumption
set_option maxRecDepth 4000 in
set_option maxHeartbeats 8000000 in
theorem l_MO_addNumber_4 {n : Nat} {s : mz_St} (hn : 8589934592 ≤ n)  : ∀ (k : Nat) (x1 : Int32) (x2 : Int32) (t : mz_St), MI s t → (0 ≤ x2.toInt) → (x2.toInt ≤ 10000) → (x2.toInt + 0).toNat < k → Tp (f_MO_addNumber_4 n k x1 x2 t) (fun r => MI s r) := by
  intro k
  induction k with
  | zero => intros; omega
  | succ k ih =>
    intro x1 x2 t ci i0 i1 hm
    unfold f_MO_addNumber_4
    refine Tp_if (fun h382 => ?_) (fun h382 => ?_)
    · have g383 := ti_e h382
      have i384 := ti_rg x2
      have l385 : (0 : Int32).toInt = 0 := rfl
      refine Tp_so ?_
      exact ci
    · have g386 := ti_ne h382
      have i387 := ti_rg x2
      have l388 : (0 : Int32).toInt = 0 := rfl
      refine Tp_if (fun h389 => ?_) (fun h389 => ?_)
      · have g390 := ti_e h389
        have i391 := ti_rg x1
        unfold f_MO_addNumber_18
        refine Tp_gd (ti_n0 (by omega)) ?_
        have l392 : ((10 : Int32)).toInt = 10 := rfl
        refine Tp_gd (ti_n0 (by omega)) ?_
        have l395 : ((48 : Int32)).toInt = 48 := rfl
        have a396 := ti_rg (x1 / x2)
        first | (have a397 : ((x1 / x2) / (10 : Int32)).toInt = (x1 / x2).toInt / 10 := ti_divr rfl (by omega) (by omega)) | (have a398 := ti_rg ((x1 / x2) / (10 : Int32)))
        first | (have a399 : (((x1 / x2) / (10 : Int32)) * (10 : Int32)).toInt = ((x1 / x2) / (10 : Int32)).toInt * 10 := ti_mulr rfl (by omega) (by omega)) | (have a400 := ti_rg (((x1 / x2) / (10 : Int32)) * (10 : Int32)))
        first | (have a401 : ((x1 / x2) - (((x1 / x2) / (10 : Int32)) * (10 : Int32))).toInt = (x1 / x2).toInt - (((x1 / x2) / (10 : Int32)) * (10 : Int32)).toInt := ti_sub (by omega) (by omega)) | (have a402 := ti_rg ((x1 / x2) - (((x1 / x2) / (10 : Int32)) * (10 : Int32))))
        first | (have a403 : ((48 : Int32) + ((x1 / x2) - (((x1 / x2) / (10 : Int32)) * (10 : Int32)))).toInt = ((48 : Int32)).toInt + ((x1 / x2) - (((x1 / x2) / (10 : Int32)) * (10 : Int32))).toInt := ti_add (by omega) (by omega)) | (have a404 := ti_rg ((48 : Int32) + ((x1 / x2) - (((x1 / x2) / (10 : Int32)) * (10 : Int32)))))
        refine Tp_bi (s_MO_add hn ci  (t := t) (x1 := (48 : Int32) + ((x1 / x2) - (((x1 / x2) / (10 : Int32)) * (10 : Int32))))) (fun q393 h394 => ?_)
        obtain ⟨ci405, p406, p407⟩ := h394
        have b408 := MI_g23 ci (c := 0) (p := 60) rfl
        have b409 := MI_g23 ci405 (c := 0) (p := 60) rfl
        unfold f_MO_addNumber_31
        refine Tp_gd (ti_n0 (by omega)) ?_
        first | (have a410 : (x2 / (10 : Int32)).toInt = (x2).toInt / 10 := ti_divr rfl (by omega) (by omega)) | (have a411 := ti_rg (x2 / (10 : Int32)))
        exact ih x1 (x2 / (10 : Int32)) q393 ci405 (by omega) (by omega) (by omega)
      · have g412 := ti_ne h389
        have i413 := ti_rg x1
        refine Tp_if (fun h414 => ?_) (fun h414 => ?_)
        · have g415 := ti_q h414
          have l416 : ((1 : Int32)).toInt = 1 := rfl
          unfold f_MO_addNumber_18
          refine Tp_gd (ti_n0 (by omega)) ?_
          have l417 : ((10 : Int32)).toInt = 10 := rfl
          refine Tp_gd (ti_n0 (by omega)) ?_
          have l420 : ((48 : Int32)).toInt = 48 := rfl
          have a421 := ti_rg (x1 / x2)
          first | (have a422 : ((x1 / x2) / (10 : Int32)).toInt = (x1 / x2).toInt / 10 := ti_divr rfl (by omega) (by omega)) | (have a423 := ti_rg ((x1 / x2) / (10 : Int32)))
          first | (have a424 : (((x1 / x2) / (10 : Int32)) * (10 : Int32)).toInt = ((x1 / x2) / (10 : Int32)).toInt * 10 := ti_mulr rfl (by omega) (by omega)) | (have a425 := ti_rg (((x1 / x2) / (10 : Int32)) * (10 : Int32)))
          first | (have a426 : ((x1 / x2) - (((x1 / x2) / (10 : Int32)) * (10 : Int32))).toInt = (x1 / x2).toInt - (((x1 / x2) / (10 : Int32)) * (10 : Int32)).toInt := ti_sub (by omega) (by omega)) | (have a427 := ti_rg ((x1 / x2) - (((x1 / x2) / (10 : Int32)) * (10 : Int32))))
          first | (have a428 : ((48 : Int32) + ((x1 / x2) - (((x1 / x2) / (10 : Int32)) * (10 : Int32)))).toInt = ((48 : Int32)).toInt + ((x1 / x2) - (((x1 / x2) / (10 : Int32)) * (10 : Int32))).toInt := ti_add (by omega) (by omega)) | (have a429 := ti_rg ((48 : Int32) + ((x1 / x2) - (((x1 / x2) / (10 : Int32)) * (10 : Int32)))))
          refine Tp_bi (s_MO_add hn ci  (t := t) (x1 := (48 : Int32) + ((x1 / x2) - (((x1 / x2) / (10 : Int32)) * (10 : Int32))))) (fun q418 h419 => ?_)
          obtain ⟨ci430, p431, p432⟩ := h419
          have b433 := MI_g23 ci (c := 0) (p := 60) rfl
          have b434 := MI_g23 ci430 (c := 0) (p := 60) rfl
          unfold f_MO_addNumber_31
          refine Tp_gd (ti_n0 (by omega)) ?_
          first | (have a435 : (x2 / (10 : Int32)).toInt = (x2).toInt / 10 := ti_divr rfl (by omega) (by omega)) | (have a436 := ti_rg (x2 / (10 : Int32)))
          exact ih x1 (x2 / (10 : Int32)) q418 ci430 (by omega) (by omega) (by omega)
        · have g437 := ti_nq h414
          have l438 : ((1 : Int32)).toInt = 1 := rfl
          unfold f_MO_addNumber_31
          have l439 : ((10 : Int32)).toInt = 10 := rfl
          refine Tp_gd (ti_n0 (by omega)) ?_
          first | (have a440 : (x2 / (10 : Int32)).toInt = (x2).toInt / 10 := ti_divr rfl (by omega) (by omega)) | (have a441 := ti_rg (x2 / (10 : Int32)))
          exact ih x1 (x2 / (10 : Int32)) t ci (by omega) (by omega) (by omega)
set_option maxRecDepth 4000 in
set_option maxHeartbeats 8000000 in
theorem s_MO_addNumber {n : Nat} {s : mz_St} (hn : 8589934592 ≤ n) {x1 : Int32} {t : mz_St}  (ci : MI s t)  : Tp (f_MO_addNumber n x1 t) (fun r => MI s r) := by
  unfold f_MO_addNumber
  have i442 := ti_rg x1
  have l443 : ((10000 : Int32)).toInt = 10000 := rfl
  refine Tp_mo (l_MO_addNumber_4 hn  n x1 (10000 : Int32) t ci (by omega) (by omega) (by omega)) (fun q444 h445 => ?_)
  have ci446 := h445
  exact ci446
set_option maxRecDepth 4000 in
set_option maxHeartbeats 8000000 in
theorem l_MO_addHeld_7 {n : Nat} {s : mz_St} (hn : 8589934592 ≤ n)  : ∀ (k : Nat) (x1 : Int32) (x2 : Int32) (t : mz_St), MI s t → (0 ≤ x1.toInt) → (x1.toInt < 24000) → (0 ≤ x2.toInt) → (2147483648 - x2.toInt).toNat < k → Tp (f_MO_addHeld_7 n k x1 x2 t) (fun r => MI s r) := by
  intro k
  induction k with
  | zero => intros; omega
  | succ k ih =>
    intro x1 x2 t ci i0 i1 i2 hm
    unfold f_MO_addHeld_7
    have i447 := ti_rg x1
    refine Tp_gd (ti_ix (by omega) (by omega)) ?_
    refine Tp_if (fun h448 => ?_) (fun h448 => ?_)
    · have g449 := ti_e h448
      have b450 := MI_13 ci (c := 36) (p := x1.toNatClampNeg) rfl
      have b451 := FX_36 ci.1 x1.toNatClampNeg
      have i452 := ti_rg x2
      refine Tp_so ?_
      exact ci
    · have g453 := ti_ne h448
      have b454 := MI_13 ci (c := 36) (p := x1.toNatClampNeg) rfl
      have b455 := FX_36 ci.1 x1.toNatClampNeg
      have i456 := ti_rg x2
      refine Tp_gd (ti_ix (by omega) (by omega)) ?_
      have b459 := MI_13 ci (c := 37) (p := x2.toNatClampNeg) rfl
      have i460 := ti_rg (mz_gI s 37 x2.toNatClampNeg)
      refine Tp_bi (s_MO_add hn ci  (t := t) (x1 := mz_gI t 37 x2.toNatClampNeg)) (fun q457 h458 => ?_)
      obtain ⟨ci461, p462, p463⟩ := h458
      have b464 := MI_g23 ci (c := 0) (p := 60) rfl
      have b465 := MI_g23 ci461 (c := 0) (p := 60) rfl
      have l466 : ((1 : Int32)).toInt = 1 := rfl
      first | (have a467 : (x2 + (1 : Int32)).toInt = (x2).toInt + ((1 : Int32)).toInt := ti_add (by omega) (by omega)) | (have a468 := ti_rg (x2 + (1 : Int32)))
      exact ih x1 (x2 + (1 : Int32)) q457 ci461 (by omega) (by omega) (by omega) (by omega)
set_option maxRecDepth 4000 in
set_option maxHeartbeats 8000000 in
theorem s_MO_addHeld {n : Nat} {s : mz_St} (hn : 8589934592 ≤ n) {x1 : Int32} {t : mz_St}  (ci : MI s t) (i0 : 0 ≤ x1.toInt) (i1 : x1.toInt < 24000) : Tp (f_MO_addHeld n x1 t) (fun r => MI s r) := by
  unfold f_MO_addHeld
  have i469 := ti_rg x1
  refine Tp_gd (ti_ix (by omega) (by omega)) ?_
  have b470 := MI_13 ci (c := 35) (p := x1.toNatClampNeg) rfl
  have b471 := FX_35 ci.1 x1.toNatClampNeg
  refine Tp_mo (l_MO_addHeld_7 hn  n x1 (mz_gI t 35 x1.toNatClampNeg) t ci (by omega) (by omega) (by omega) (by omega)) (fun q472 h473 => ?_)
  have ci474 := h473
  exact ci474
set_option maxRecDepth 4000 in
set_option maxHeartbeats 8000000 in
theorem l_MO_addWord_95 {n : Nat} {s : mz_St} (hn : 8589934592 ≤ n)  : ∀ (k : Nat) (x1 : Int64) (x3 : Int64) (x5 : Int32) (x6 : Int32) (x7 : Int32) (t : mz_St), MI s t → (0 ≤ x5.toInt) → (x5.toInt ≤ 12) → (0 ≤ x6.toInt) → (x6.toInt ≤ 15) → (0 ≤ x7.toInt) → (2147483648 - x7.toInt).toNat < k → Tp (f_MO_addWord_95 n k x1 x3 x5 x6 x7 t) (fun r => MI s r.2 ∧ 0 ≤ (r.1).toInt ∧ (r.1).toInt ≤ 1) := by
  intro k
  induction k with
  | zero => intros; omega
  | succ k ih =>
    intro x1 x3 x5 x6 x7 t ci i0 i1 i2 i3 i4 hm
    unfold f_MO_addWord_95
    have i475 := ti_rg x6
    refine Tp_gd (ti_ix (by omega) (by omega)) ?_
    refine Tp_if (fun h476 => ?_) (fun h476 => ?_)
    · have g477 := ti_e h476
      have b478 := MI_13 ci (c := 10) (p := x6.toNatClampNeg) rfl
      have b479 := FX_10 ci.1 x6.toNatClampNeg
      have i480 := ti_rg x7
      refine Tp_so ?_
      have l481 : ((0 : Int32)).toInt = 0 := rfl
      refine ⟨ci, ?_, ?_⟩
      · (try dsimp only) <;> first | omega | assumption
      · (try dsimp only) <;> first | omega | assumption
    · have g482 := ti_ne h476
      have b483 := MI_13 ci (c := 10) (p := x6.toNatClampNeg) rfl
      have b484 := FX_10 ci.1 x6.toNatClampNeg
      have i485 := ti_rg x7
      have l486 : ((6 : Int32)).toInt = 6 := rfl
      first | (have a487 : ((6 : Int32) * x6).toInt = 6 * (x6).toInt := ti_mull rfl (by omega) (by omega)) | (have a488 := ti_rg ((6 : Int32) * x6))
      first | (have a489 : (((6 : Int32) * x6) + x7).toInt = ((6 : Int32) * x6).toInt + (x7).toInt := ti_add (by omega) (by omega)) | (have a490 := ti_rg (((6 : Int32) * x6) + x7))
      refine Tp_gd (ti_ix (by omega) (by omega)) ?_
      refine Tp_if (fun h491 => ?_) (fun h491 => ?_)
      · skip
        refine Tp_gd (ti_ix (by omega) (by omega)) ?_
        refine Tp_if (fun h492 => ?_) (fun h492 => ?_)
        · skip
          have i493 := ti_rg x5
          refine Tp_gd (ti_ix (by omega) (by omega)) ?_
          have b496 := MI_13 ci (c := 31) (p := x5.toNatClampNeg) rfl
          have b497 := FX_31 ci.1 x5.toNatClampNeg
          first | (have a498 : ((mz_gI t 31 x5.toNatClampNeg) + x7).toInt = (mz_gI t 31 x5.toNatClampNeg).toInt + (x7).toInt := ti_add (by omega) (by omega)) | (have a499 := ti_rg ((mz_gI t 31 x5.toNatClampNeg) + x7))
          refine Tp_bi (s_MO_addHeld hn ci (by omega) (by omega) (t := t) (x1 := (mz_gI t 31 x5.toNatClampNeg) + x7)) (fun q494 h495 => ?_)
          have ci500 := h495
          refine Tp_so ?_
          have l501 : ((1 : Int32)).toInt = 1 := rfl
          refine ⟨ci500, ?_, ?_⟩
          · (try dsimp only) <;> first | omega | assumption
          · (try dsimp only) <;> first | omega | assumption
        · skip
          unfold f_MO_addWord_159
          have i502 := ti_rg x5
          have l503 : ((1 : Int32)).toInt = 1 := rfl
          first | (have a504 : (x7 + (1 : Int32)).toInt = (x7).toInt + ((1 : Int32)).toInt := ti_add (by omega) (by omega)) | (have a505 := ti_rg (x7 + (1 : Int32)))
          exact ih x1 x3 x5 x6 (x7 + (1 : Int32)) t ci (by omega) (by omega) (by omega) (by omega) (by omega) (by omega)
      · skip
        unfold f_MO_addWord_159
        have i506 := ti_rg x5
        have l507 : ((1 : Int32)).toInt = 1 := rfl
        first | (have a508 : (x7 + (1 : Int32)).toInt = (x7).toInt + ((1 : Int32)).toInt := ti_add (by omega) (by omega)) | (have a509 := ti_rg (x7 + (1 : Int32)))
        exact ih x1 x3 x5 x6 (x7 + (1 : Int32)) t ci (by omega) (by omega) (by omega) (by omega) (by omega) (by omega)
set_option maxRecDepth 4000 in
set_option maxHeartbeats 8000000 in
theorem l_MO_addWord_8 {n : Nat} {s : mz_St} (hn : 8589934592 ≤ n)  : ∀ (k : Nat) (x1 : Int64) (x3 : Int64) (x5 : Int32) (t : mz_St), MI s t → (x5.toInt ≤ 12) → (x5.toInt + 2147483648).toNat < k → Tp (f_MO_addWord_8 n k x1 x3 x5 t) (fun r => MI s r.2 ∧ 0 ≤ (r.1).toInt ∧ (r.1).toInt ≤ 1) := by
  intro k
  induction k with
  | zero => intros; omega
  | succ k ih =>
    intro x1 x3 x5 t ci i0 hm
    unfold f_MO_addWord_8
    refine Tp_if (fun h510 => ?_) (fun h510 => ?_)
    · have g511 := ti_e h510
      have i512 := ti_rg x5
      have l513 : (0 : Int32).toInt = 0 := rfl
      refine Tp_so ?_
      have l514 : ((0 : Int32)).toInt = 0 := rfl
      refine ⟨ci, ?_, ?_⟩
      · (try dsimp only) <;> first | omega | assumption
      · (try dsimp only) <;> first | omega | assumption
    · have g515 := ti_ne h510
      have i516 := ti_rg x5
      have l517 : (0 : Int32).toInt = 0 := rfl
      refine Tp_gd (ti_ix (by omega) (by omega)) ?_
      refine Tp_if (fun h518 => ?_) (fun h518 => ?_)
      · have g519 := ti_q h518
        have b520 := MI_13 ci (c := 22) (p := x5.toNatClampNeg) rfl
        have i521 := ti_rg (mz_gI s 22 x5.toNatClampNeg)
        have l522 : ((3 : Int32)).toInt = 3 := rfl
        refine Tp_gd (ti_ix (by omega) (by omega)) ?_
        refine Tp_if (fun h523 => ?_) (fun h523 => ?_)
        · skip
          refine Tp_gd (ti_ix (by omega) (by omega)) ?_
          refine Tp_if (fun h524 => ?_) (fun h524 => ?_)
          · skip
            refine Tp_gd (ti_ix (by omega) (by omega)) ?_
            refine Tp_gd (ti_ix (by omega) (by omega)) ?_
            have b527 := MI_13 ci (c := 31) (p := x5.toNatClampNeg) rfl
            have b528 := FX_31 ci.1 x5.toNatClampNeg
            have b529 := MI_13 ci (c := 27) (p := x5.toNatClampNeg) rfl
            have b530 := FX_27 ci.1 x5.toNatClampNeg
            first | (have a531 : ((mz_gI t 31 x5.toNatClampNeg) + (mz_gI t 27 x5.toNatClampNeg)).toInt = (mz_gI t 31 x5.toNatClampNeg).toInt + (mz_gI t 27 x5.toNatClampNeg).toInt := ti_add (by omega) (by omega)) | (have a532 := ti_rg ((mz_gI t 31 x5.toNatClampNeg) + (mz_gI t 27 x5.toNatClampNeg)))
            refine Tp_bi (s_MO_addHeld hn ci (by omega) (by omega) (t := t) (x1 := (mz_gI t 31 x5.toNatClampNeg) + (mz_gI t 27 x5.toNatClampNeg))) (fun q525 h526 => ?_)
            have ci533 := h526
            refine Tp_so ?_
            have l534 : ((1 : Int32)).toInt = 1 := rfl
            refine ⟨ci533, ?_, ?_⟩
            · (try dsimp only) <;> first | omega | assumption
            · (try dsimp only) <;> first | omega | assumption
          · skip
            unfold f_MO_addWord_69
            simp only [ti_m1]
            refine Tp_gd (ti_ix (by omega) (by omega)) ?_
            refine Tp_if (fun h535 => ?_) (fun h535 => ?_)
            · have g536 := ti_q h535
              have l537 : ((1 : Int32)).toInt = 1 := rfl
              refine Tp_gd (ti_ix (by omega) (by omega)) ?_
              have b538 := MI_13 ci (c := 28) (p := x5.toNatClampNeg) rfl
              have b539 := FX_28 ci.1 x5.toNatClampNeg
              have l540 : ((0 : Int32)).toInt = 0 := rfl
              refine Tp_mo (l_MO_addWord_95 hn  n x1 x3 x5 (mz_gI t 28 x5.toNatClampNeg) (0 : Int32) t ci (by omega) (by omega) (by omega) (by omega) (by omega) (by omega)) (fun q541 h542 => ?_)
              obtain ⟨ci543, p544, p545⟩ := h542
              have i546 := ti_rg q541.1
              refine ⟨ci543, ?_, ?_⟩
              · (try dsimp only) <;> first | omega | assumption
              · (try dsimp only) <;> first | omega | assumption
            · have g547 := ti_nq h535
              have l548 : ((1 : Int32)).toInt = 1 := rfl
              first | (have a549 : (x5 - (1 : Int32)).toInt = (x5).toInt - ((1 : Int32)).toInt := ti_sub (by omega) (by omega)) | (have a550 := ti_rg (x5 - (1 : Int32)))
              exact ih x1 x3 (x5 - (1 : Int32)) t ci (by omega) (by omega)
        · skip
          unfold f_MO_addWord_69
          simp only [ti_m1]
          refine Tp_gd (ti_ix (by omega) (by omega)) ?_
          refine Tp_if (fun h551 => ?_) (fun h551 => ?_)
          · have g552 := ti_q h551
            have l553 : ((1 : Int32)).toInt = 1 := rfl
            refine Tp_gd (ti_ix (by omega) (by omega)) ?_
            have b554 := MI_13 ci (c := 28) (p := x5.toNatClampNeg) rfl
            have b555 := FX_28 ci.1 x5.toNatClampNeg
            have l556 : ((0 : Int32)).toInt = 0 := rfl
            refine Tp_mo (l_MO_addWord_95 hn  n x1 x3 x5 (mz_gI t 28 x5.toNatClampNeg) (0 : Int32) t ci (by omega) (by omega) (by omega) (by omega) (by omega) (by omega)) (fun q557 h558 => ?_)
            obtain ⟨ci559, p560, p561⟩ := h558
            have i562 := ti_rg q557.1
            refine ⟨ci559, ?_, ?_⟩
            · (try dsimp only) <;> first | omega | assumption
            · (try dsimp only) <;> first | omega | assumption
          · have g563 := ti_nq h551
            have l564 : ((1 : Int32)).toInt = 1 := rfl
            first | (have a565 : (x5 - (1 : Int32)).toInt = (x5).toInt - ((1 : Int32)).toInt := ti_sub (by omega) (by omega)) | (have a566 := ti_rg (x5 - (1 : Int32)))
            exact ih x1 x3 (x5 - (1 : Int32)) t ci (by omega) (by omega)
      · have g567 := ti_nq h518
        have b568 := MI_13 ci (c := 22) (p := x5.toNatClampNeg) rfl
        have i569 := ti_rg (mz_gI s 22 x5.toNatClampNeg)
        have l570 : ((3 : Int32)).toInt = 3 := rfl
        unfold f_MO_addWord_69
        simp only [ti_m1]
        refine Tp_gd (ti_ix (by omega) (by omega)) ?_
        refine Tp_if (fun h571 => ?_) (fun h571 => ?_)
        · have g572 := ti_q h571
          have l573 : ((1 : Int32)).toInt = 1 := rfl
          refine Tp_gd (ti_ix (by omega) (by omega)) ?_
          have b574 := MI_13 ci (c := 28) (p := x5.toNatClampNeg) rfl
          have b575 := FX_28 ci.1 x5.toNatClampNeg
          have l576 : ((0 : Int32)).toInt = 0 := rfl
          refine Tp_mo (l_MO_addWord_95 hn  n x1 x3 x5 (mz_gI t 28 x5.toNatClampNeg) (0 : Int32) t ci (by omega) (by omega) (by omega) (by omega) (by omega) (by omega)) (fun q577 h578 => ?_)
          obtain ⟨ci579, p580, p581⟩ := h578
          have i582 := ti_rg q577.1
          refine ⟨ci579, ?_, ?_⟩
          · (try dsimp only) <;> first | omega | assumption
          · (try dsimp only) <;> first | omega | assumption
        · have g583 := ti_nq h571
          have l584 : ((1 : Int32)).toInt = 1 := rfl
          first | (have a585 : (x5 - (1 : Int32)).toInt = (x5).toInt - ((1 : Int32)).toInt := ti_sub (by omega) (by omega)) | (have a586 := ti_rg (x5 - (1 : Int32)))
          exact ih x1 x3 (x5 - (1 : Int32)) t ci (by omega) (by omega)
set_option maxRecDepth 4000 in
set_option maxHeartbeats 8000000 in
theorem s_MO_addWord {n : Nat} {s : mz_St} (hn : 8589934592 ≤ n) {x1 : Int64} {x3 : Int64} {t : mz_St}  (ci : MI s t)  : Tp (f_MO_addWord n x1 x3 t) (fun r => MI s r.2 ∧ 0 ≤ (r.1).toInt ∧ (r.1).toInt ≤ 1) := by
  unfold f_MO_addWord
  have b587 := MI_13 ci (c := 0) (p := 34) rfl
  have b588 := FX_0_34 ci.1
  have l589 : ((1 : Int32)).toInt = 1 := rfl
  first | (have a590 : ((mz_gI t 0 34) - (1 : Int32)).toInt = (mz_gI t 0 34).toInt - ((1 : Int32)).toInt := ti_sub (by omega) (by omega)) | (have a591 := ti_rg ((mz_gI t 0 34) - (1 : Int32)))
  refine Tp_mo (l_MO_addWord_8 hn  n x1 x3 ((mz_gI t 0 34) - (1 : Int32)) t ci (by omega) (by omega)) (fun q592 h593 => ?_)
  obtain ⟨ci594, p595, p596⟩ := h593
  have i597 := ti_rg q592.1
  refine ⟨ci594, ?_, ?_⟩
  · (try dsimp only) <;> first | omega | assumption
  · (try dsimp only) <;> first | omega | assumption
set_option maxRecDepth 4000 in
set_option maxHeartbeats 8000000 in
theorem l_MO_takeLine_178 {n : Nat} {s : mz_St} (hn : 8589934592 ≤ n) {K14 : Int32 → Int32 → Int32 → mz_St → Option (Int32 × mz_St)} (g1 : Int) : ∀ (k : Nat) (x1 : Int32) (x2 : Int32) (x3 : Int32) (x7 : Int64) (x9 : Int64) (x11 : Int32) (t : mz_St), MI s t → (0 ≤ x1.toInt) → (x1.toInt ≤ 3000) → (0 ≤ x3.toInt) → (x3.toInt ≤ 3001) → (g1 < x3.toInt) → (¬ (mz_gI s 0 34).toInt = 1) → (∀ (y z : Int32) (u : mz_St), MI s u → g1 < z.toInt → z.toInt ≤ 3005 → Tp (K14 x1 y z u) (fun r : Int32 × mz_St => MI s r.2 ∧ 0 ≤ (r.1).toInt ∧ (¬ (r.1).toInt = 0 ∨ (mz_gI s 0 34).toInt ≤ 1 ∨ (mz_gI r.2 0 60).toInt ≤ 300) ∧ (¬ (mz_gI s 0 34).toInt = 1 ∨ (mz_gI r.2 0 60).toInt ≤ (mz_gI s 3 x1.toNatClampNeg).toInt - (mz_gI s 2 x1.toNatClampNeg).toInt))) → (2147483648 - x3.toInt).toNat < k → Tp (f_MO_takeLine_178 n K14 k x1 x2 x3 x7 x9 x11 t) (fun r => MI s r.2 ∧ 0 ≤ (r.1).toInt ∧ (¬ (r.1).toInt = 0 ∨ (mz_gI s 0 34).toInt ≤ 1 ∨ (mz_gI r.2 0 60).toInt ≤ 300) ∧ (¬ (mz_gI s 0 34).toInt = 1 ∨ (mz_gI r.2 0 60).toInt ≤ (mz_gI s 3 x1.toNatClampNeg).toInt - (mz_gI s 2 x1.toNatClampNeg).toInt)) := by
  intro k
  induction k with
  | zero => intros; omega
  | succ k ih =>
    intro x1 x2 x3 x7 x9 x11 t ci i0 i1 i2 i3 i4 i5 i6 hm
    unfold f_MO_takeLine_178
    have i598 := ti_rg x1
    refine Tp_gd (ti_ix (by omega) (by omega)) ?_
    refine Tp_if (fun h599 => ?_) (fun h599 => ?_)
    · have g600 := ti_e h599
      have b601 := MI_13 ci (c := 3) (p := x1.toNatClampNeg) rfl
      have b602 := FX_3 ci.1 x1.toNatClampNeg
      have b603 := FX_l ci.1 x1.toNatClampNeg
      have i604 := ti_rg x3
      unfold f_MO_takeLine_299
      have i607 := ti_rg x11
      have l608 : ((1 : Int32)).toInt = 1 := rfl
      have l609 : ((12 : Int32)).toInt = 12 := rfl
      refine Tp_bi (s_MO_in hn ci  (t := t) (x0 := x11) (x1 := (1 : Int32)) (x2 := (12 : Int32))) (fun q605 h606 => ?_)
      obtain ⟨ci610, E611, p612, p613, p614⟩ := h606
      try rw [E611]
      refine Tp_if (fun h615 => ?_) (fun h615 => ?_)
      · have g616 := ti_q h615
        have i617 := ti_rg q605.1
        have l618 : (0 : Int32).toInt = 0 := rfl
        unfold f_MO_takeLine_329
        unfold f_MO_takeLine_330
        have l619 : ((0 : Int32)).toInt = 0 := rfl
        exact i6 (0 : Int32) x3 t ci (by omega) (by omega)
      · have g620 := ti_nq h615
        have i621 := ti_rg q605.1
        have l622 : (0 : Int32).toInt = 0 := rfl
        refine Tp_bi (s_MO_addWord hn ci  (t := t) (x1 := x7) (x3 := x9)) (fun q623 h624 => ?_)
        obtain ⟨ci625, p626, p627⟩ := h624
        refine Tp_if (fun h628 => ?_) (fun h628 => ?_)
        · have g629 := ti_q h628
          have i630 := ti_rg q623.1
          unfold f_MO_takeLine_329
          unfold f_MO_takeLine_330
          have l631 : ((0 : Int32)).toInt = 0 := rfl
          exact i6 (0 : Int32) x3 q623.2 ci625 (by omega) (by omega)
        · have g632 := ti_nq h628
          have i633 := ti_rg q623.1
          refine Tp_if (fun h634 => ?_) (fun h634 => ?_)
          · have g635 := ti_q h634
            have i636 := ti_rg x2
            unfold f_MO_takeLine_329
            unfold f_MO_takeLine_330
            have l637 : ((0 : Int32)).toInt = 0 := rfl
            exact i6 (0 : Int32) x3 q623.2 ci625 (by omega) (by omega)
          · have g638 := ti_nq h634
            have i639 := ti_rg x2
            unfold f_MO_takeLine_330
            exact i6 (1 : Int32) x3 q623.2 ci625 (by omega) (by omega)
    · have g640 := ti_ne h599
      have b641 := MI_13 ci (c := 3) (p := x1.toNatClampNeg) rfl
      have b642 := FX_3 ci.1 x1.toNatClampNeg
      have b643 := FX_l ci.1 x1.toNatClampNeg
      have i644 := ti_rg x3
      refine Tp_if (fun h645 => ?_) (fun h645 => ?_)
      · have g646 := ti_q h645
        have i647 := ti_rg x11
        have l648 : (0 : Int32).toInt = 0 := rfl
        refine Tp_gd (ti_ix (by omega) (by omega)) ?_
        have b651 := MI_13 ci (c := 1) (p := x3.toNatClampNeg) rfl
        have i652 := ti_rg (mz_gI s 1 x3.toNatClampNeg)
        refine Tp_bi (s_MO_isBegin hn ci  (t := t) (x0 := mz_gI t 1 x3.toNatClampNeg)) (fun q649 h650 => ?_)
        obtain ⟨ci653, E654, p655, p656, p657⟩ := h650
        try rw [E654]
        refine Tp_if (fun h658 => ?_) (fun h658 => ?_)
        · have g659 := ti_q h658
          have i660 := ti_rg q649.1
          unfold f_MO_takeLine_299
          have l663 : ((1 : Int32)).toInt = 1 := rfl
          have l664 : ((12 : Int32)).toInt = 12 := rfl
          refine Tp_bi (s_MO_in hn ci  (t := t) (x0 := x11) (x1 := (1 : Int32)) (x2 := (12 : Int32))) (fun q661 h662 => ?_)
          obtain ⟨ci665, E666, p667, p668, p669⟩ := h662
          try rw [E666]
          refine Tp_if (fun h670 => ?_) (fun h670 => ?_)
          · have g671 := ti_q h670
            have i672 := ti_rg q661.1
            unfold f_MO_takeLine_329
            unfold f_MO_takeLine_330
            have l673 : ((0 : Int32)).toInt = 0 := rfl
            exact i6 (0 : Int32) x3 t ci (by omega) (by omega)
          · have g674 := ti_nq h670
            have i675 := ti_rg q661.1
            refine Tp_bi (s_MO_addWord hn ci  (t := t) (x1 := x7) (x3 := x9)) (fun q676 h677 => ?_)
            obtain ⟨ci678, p679, p680⟩ := h677
            refine Tp_if (fun h681 => ?_) (fun h681 => ?_)
            · have g682 := ti_q h681
              have i683 := ti_rg q676.1
              unfold f_MO_takeLine_329
              unfold f_MO_takeLine_330
              have l684 : ((0 : Int32)).toInt = 0 := rfl
              exact i6 (0 : Int32) x3 q676.2 ci678 (by omega) (by omega)
            · have g685 := ti_nq h681
              have i686 := ti_rg q676.1
              refine Tp_if (fun h687 => ?_) (fun h687 => ?_)
              · have g688 := ti_q h687
                have i689 := ti_rg x2
                unfold f_MO_takeLine_329
                unfold f_MO_takeLine_330
                have l690 : ((0 : Int32)).toInt = 0 := rfl
                exact i6 (0 : Int32) x3 q676.2 ci678 (by omega) (by omega)
              · have g691 := ti_nq h687
                have i692 := ti_rg x2
                unfold f_MO_takeLine_330
                exact i6 (1 : Int32) x3 q676.2 ci678 (by omega) (by omega)
        · have g693 := ti_nq h658
          have i694 := ti_rg q649.1
          unfold f_MO_takeLine_220
          refine Tp_if (fun h695 => ?_) (fun h695 => ?_)
          · have g696 := ti_e h695
            have l697 : ((8 : Int32)).toInt = 8 := rfl
            unfold f_MO_takeLine_248
            refine Tp_if (fun h698 => ?_) (fun h698 => ?_)
            · have g699 := ti_l h698
              unfold f_MO_takeLine_286
              unfold f_MO_takeLine_288
              have i700 := ti_rg x2
              have l701 : ((1 : Int32)).toInt = 1 := rfl
              first | (have a702 : (x3 + (1 : Int32)).toInt = (x3).toInt + ((1 : Int32)).toInt := ti_add (by omega) (by omega)) | (have a703 := ti_rg (x3 + (1 : Int32)))
              first | (have a704 : (x11 + (1 : Int32)).toInt = (x11).toInt + ((1 : Int32)).toInt := ti_add (by omega) (by omega)) | (have a705 := ti_rg (x11 + (1 : Int32)))
              exact ih x1 x2 (x3 + (1 : Int32)) x7 x9 (x11 + (1 : Int32)) t ci (by omega) (by omega) (by omega) (by omega) (by omega) (by omega) i6 (by omega)
            · have g706 := ti_nl h698
              refine Tp_if (fun h707 => ?_) (fun h707 => ?_)
              · have g708 := ti_e h707
                have l709 : ((12 : Int32)).toInt = 12 := rfl
                unfold f_MO_takeLine_286
                unfold f_MO_takeLine_288
                have i710 := ti_rg x2
                have l711 : ((1 : Int32)).toInt = 1 := rfl
                first | (have a712 : (x3 + (1 : Int32)).toInt = (x3).toInt + ((1 : Int32)).toInt := ti_add (by omega) (by omega)) | (have a713 := ti_rg (x3 + (1 : Int32)))
                first | (have a714 : (x11 + (1 : Int32)).toInt = (x11).toInt + ((1 : Int32)).toInt := ti_add (by omega) (by omega)) | (have a715 := ti_rg (x11 + (1 : Int32)))
                exact ih x1 x2 (x3 + (1 : Int32)) x7 x9 (x11 + (1 : Int32)) t ci (by omega) (by omega) (by omega) (by omega) (by omega) (by omega) i6 (by omega)
              · have g716 := ti_ne h707
                have l717 : ((12 : Int32)).toInt = 12 := rfl
                refine Tp_gd (ti_ix (by omega) (by omega)) ?_
                unfold f_MO_takeLine_288
                have i718 := ti_rg x2
                have l719 : ((1 : Int32)).toInt = 1 := rfl
                first | (have a720 : (x3 + (1 : Int32)).toInt = (x3).toInt + ((1 : Int32)).toInt := ti_add (by omega) (by omega)) | (have a721 := ti_rg (x3 + (1 : Int32)))
                first | (have a722 : (x11 + (1 : Int32)).toInt = (x11).toInt + ((1 : Int32)).toInt := ti_add (by omega) (by omega)) | (have a723 := ti_rg (x11 + (1 : Int32)))
                exact ih x1 x2 (x3 + (1 : Int32)) x7 (x9 ||| ((mz_gI t 1 x3.toNatClampNeg).toInt64 <<< (((8 : Int32) * (x11 - (8 : Int32))).toInt64 &&& 63))) (x11 + (1 : Int32)) t ci (by omega) (by omega) (by omega) (by omega) (by omega) (by omega) i6 (by omega)
          · have g724 := ti_ne h695
            have l725 : ((8 : Int32)).toInt = 8 := rfl
            refine Tp_gd (ti_ix (by omega) (by omega)) ?_
            unfold f_MO_takeLine_248
            refine Tp_if (fun h726 => ?_) (fun h726 => ?_)
            · have g727 := ti_l h726
              unfold f_MO_takeLine_286
              unfold f_MO_takeLine_288
              have i728 := ti_rg x2
              have l729 : ((1 : Int32)).toInt = 1 := rfl
              first | (have a730 : (x3 + (1 : Int32)).toInt = (x3).toInt + ((1 : Int32)).toInt := ti_add (by omega) (by omega)) | (have a731 := ti_rg (x3 + (1 : Int32)))
              first | (have a732 : (x11 + (1 : Int32)).toInt = (x11).toInt + ((1 : Int32)).toInt := ti_add (by omega) (by omega)) | (have a733 := ti_rg (x11 + (1 : Int32)))
              exact ih x1 x2 (x3 + (1 : Int32)) (x7 ||| ((mz_gI t 1 x3.toNatClampNeg).toInt64 <<< (((8 : Int32) * x11).toInt64 &&& 63))) x9 (x11 + (1 : Int32)) t ci (by omega) (by omega) (by omega) (by omega) (by omega) (by omega) i6 (by omega)
            · have g734 := ti_nl h726
              refine Tp_if (fun h735 => ?_) (fun h735 => ?_)
              · have g736 := ti_e h735
                have l737 : ((12 : Int32)).toInt = 12 := rfl
                unfold f_MO_takeLine_286
                unfold f_MO_takeLine_288
                have i738 := ti_rg x2
                have l739 : ((1 : Int32)).toInt = 1 := rfl
                first | (have a740 : (x3 + (1 : Int32)).toInt = (x3).toInt + ((1 : Int32)).toInt := ti_add (by omega) (by omega)) | (have a741 := ti_rg (x3 + (1 : Int32)))
                first | (have a742 : (x11 + (1 : Int32)).toInt = (x11).toInt + ((1 : Int32)).toInt := ti_add (by omega) (by omega)) | (have a743 := ti_rg (x11 + (1 : Int32)))
                exact ih x1 x2 (x3 + (1 : Int32)) (x7 ||| ((mz_gI t 1 x3.toNatClampNeg).toInt64 <<< (((8 : Int32) * x11).toInt64 &&& 63))) x9 (x11 + (1 : Int32)) t ci (by omega) (by omega) (by omega) (by omega) (by omega) (by omega) i6 (by omega)
              · have g744 := ti_ne h735
                have l745 : ((12 : Int32)).toInt = 12 := rfl
                refine Tp_gd (ti_ix (by omega) (by omega)) ?_
                unfold f_MO_takeLine_288
                have i746 := ti_rg x2
                have l747 : ((1 : Int32)).toInt = 1 := rfl
                first | (have a748 : (x3 + (1 : Int32)).toInt = (x3).toInt + ((1 : Int32)).toInt := ti_add (by omega) (by omega)) | (have a749 := ti_rg (x3 + (1 : Int32)))
                first | (have a750 : (x11 + (1 : Int32)).toInt = (x11).toInt + ((1 : Int32)).toInt := ti_add (by omega) (by omega)) | (have a751 := ti_rg (x11 + (1 : Int32)))
                exact ih x1 x2 (x3 + (1 : Int32)) (x7 ||| ((mz_gI t 1 x3.toNatClampNeg).toInt64 <<< (((8 : Int32) * x11).toInt64 &&& 63))) (x9 ||| ((mz_gI t 1 x3.toNatClampNeg).toInt64 <<< (((8 : Int32) * (x11 - (8 : Int32))).toInt64 &&& 63))) (x11 + (1 : Int32)) t ci (by omega) (by omega) (by omega) (by omega) (by omega) (by omega) i6 (by omega)
      · have g752 := ti_nq h645
        have i753 := ti_rg x11
        have l754 : (0 : Int32).toInt = 0 := rfl
        refine Tp_gd (ti_ix (by omega) (by omega)) ?_
        have b757 := MI_13 ci (c := 1) (p := x3.toNatClampNeg) rfl
        have i758 := ti_rg (mz_gI s 1 x3.toNatClampNeg)
        refine Tp_bi (s_MO_isWordSign hn ci  (t := t) (x0 := mz_gI t 1 x3.toNatClampNeg)) (fun q755 h756 => ?_)
        obtain ⟨ci759, E760, p761, p762, p763⟩ := h756
        try rw [E760]
        refine Tp_if (fun h764 => ?_) (fun h764 => ?_)
        · have g765 := ti_q h764
          have i766 := ti_rg q755.1
          unfold f_MO_takeLine_299
          have l769 : ((1 : Int32)).toInt = 1 := rfl
          have l770 : ((12 : Int32)).toInt = 12 := rfl
          refine Tp_bi (s_MO_in hn ci  (t := t) (x0 := x11) (x1 := (1 : Int32)) (x2 := (12 : Int32))) (fun q767 h768 => ?_)
          obtain ⟨ci771, E772, p773, p774, p775⟩ := h768
          try rw [E772]
          refine Tp_if (fun h776 => ?_) (fun h776 => ?_)
          · have g777 := ti_q h776
            have i778 := ti_rg q767.1
            unfold f_MO_takeLine_329
            unfold f_MO_takeLine_330
            have l779 : ((0 : Int32)).toInt = 0 := rfl
            exact i6 (0 : Int32) x3 t ci (by omega) (by omega)
          · have g780 := ti_nq h776
            have i781 := ti_rg q767.1
            refine Tp_bi (s_MO_addWord hn ci  (t := t) (x1 := x7) (x3 := x9)) (fun q782 h783 => ?_)
            obtain ⟨ci784, p785, p786⟩ := h783
            refine Tp_if (fun h787 => ?_) (fun h787 => ?_)
            · have g788 := ti_q h787
              have i789 := ti_rg q782.1
              unfold f_MO_takeLine_329
              unfold f_MO_takeLine_330
              have l790 : ((0 : Int32)).toInt = 0 := rfl
              exact i6 (0 : Int32) x3 q782.2 ci784 (by omega) (by omega)
            · have g791 := ti_nq h787
              have i792 := ti_rg q782.1
              refine Tp_if (fun h793 => ?_) (fun h793 => ?_)
              · have g794 := ti_q h793
                have i795 := ti_rg x2
                unfold f_MO_takeLine_329
                unfold f_MO_takeLine_330
                have l796 : ((0 : Int32)).toInt = 0 := rfl
                exact i6 (0 : Int32) x3 q782.2 ci784 (by omega) (by omega)
              · have g797 := ti_nq h793
                have i798 := ti_rg x2
                unfold f_MO_takeLine_330
                exact i6 (1 : Int32) x3 q782.2 ci784 (by omega) (by omega)
        · have g799 := ti_nq h764
          have i800 := ti_rg q755.1
          unfold f_MO_takeLine_220
          refine Tp_if (fun h801 => ?_) (fun h801 => ?_)
          · have g802 := ti_e h801
            have l803 : ((8 : Int32)).toInt = 8 := rfl
            unfold f_MO_takeLine_248
            refine Tp_if (fun h804 => ?_) (fun h804 => ?_)
            · have g805 := ti_l h804
              unfold f_MO_takeLine_286
              unfold f_MO_takeLine_288
              have i806 := ti_rg x2
              have l807 : ((1 : Int32)).toInt = 1 := rfl
              first | (have a808 : (x3 + (1 : Int32)).toInt = (x3).toInt + ((1 : Int32)).toInt := ti_add (by omega) (by omega)) | (have a809 := ti_rg (x3 + (1 : Int32)))
              first | (have a810 : (x11 + (1 : Int32)).toInt = (x11).toInt + ((1 : Int32)).toInt := ti_add (by omega) (by omega)) | (have a811 := ti_rg (x11 + (1 : Int32)))
              exact ih x1 x2 (x3 + (1 : Int32)) x7 x9 (x11 + (1 : Int32)) t ci (by omega) (by omega) (by omega) (by omega) (by omega) (by omega) i6 (by omega)
            · have g812 := ti_nl h804
              refine Tp_if (fun h813 => ?_) (fun h813 => ?_)
              · have g814 := ti_e h813
                have l815 : ((12 : Int32)).toInt = 12 := rfl
                unfold f_MO_takeLine_286
                unfold f_MO_takeLine_288
                have i816 := ti_rg x2
                have l817 : ((1 : Int32)).toInt = 1 := rfl
                first | (have a818 : (x3 + (1 : Int32)).toInt = (x3).toInt + ((1 : Int32)).toInt := ti_add (by omega) (by omega)) | (have a819 := ti_rg (x3 + (1 : Int32)))
                first | (have a820 : (x11 + (1 : Int32)).toInt = (x11).toInt + ((1 : Int32)).toInt := ti_add (by omega) (by omega)) | (have a821 := ti_rg (x11 + (1 : Int32)))
                exact ih x1 x2 (x3 + (1 : Int32)) x7 x9 (x11 + (1 : Int32)) t ci (by omega) (by omega) (by omega) (by omega) (by omega) (by omega) i6 (by omega)
              · have g822 := ti_ne h813
                have l823 : ((12 : Int32)).toInt = 12 := rfl
                refine Tp_gd (ti_ix (by omega) (by omega)) ?_
                unfold f_MO_takeLine_288
                have i824 := ti_rg x2
                have l825 : ((1 : Int32)).toInt = 1 := rfl
                first | (have a826 : (x3 + (1 : Int32)).toInt = (x3).toInt + ((1 : Int32)).toInt := ti_add (by omega) (by omega)) | (have a827 := ti_rg (x3 + (1 : Int32)))
                first | (have a828 : (x11 + (1 : Int32)).toInt = (x11).toInt + ((1 : Int32)).toInt := ti_add (by omega) (by omega)) | (have a829 := ti_rg (x11 + (1 : Int32)))
                exact ih x1 x2 (x3 + (1 : Int32)) x7 (x9 ||| ((mz_gI t 1 x3.toNatClampNeg).toInt64 <<< (((8 : Int32) * (x11 - (8 : Int32))).toInt64 &&& 63))) (x11 + (1 : Int32)) t ci (by omega) (by omega) (by omega) (by omega) (by omega) (by omega) i6 (by omega)
          · have g830 := ti_ne h801
            have l831 : ((8 : Int32)).toInt = 8 := rfl
            refine Tp_gd (ti_ix (by omega) (by omega)) ?_
            unfold f_MO_takeLine_248
            refine Tp_if (fun h832 => ?_) (fun h832 => ?_)
            · have g833 := ti_l h832
              unfold f_MO_takeLine_286
              unfold f_MO_takeLine_288
              have i834 := ti_rg x2
              have l835 : ((1 : Int32)).toInt = 1 := rfl
              first | (have a836 : (x3 + (1 : Int32)).toInt = (x3).toInt + ((1 : Int32)).toInt := ti_add (by omega) (by omega)) | (have a837 := ti_rg (x3 + (1 : Int32)))
              first | (have a838 : (x11 + (1 : Int32)).toInt = (x11).toInt + ((1 : Int32)).toInt := ti_add (by omega) (by omega)) | (have a839 := ti_rg (x11 + (1 : Int32)))
              exact ih x1 x2 (x3 + (1 : Int32)) (x7 ||| ((mz_gI t 1 x3.toNatClampNeg).toInt64 <<< (((8 : Int32) * x11).toInt64 &&& 63))) x9 (x11 + (1 : Int32)) t ci (by omega) (by omega) (by omega) (by omega) (by omega) (by omega) i6 (by omega)
            · have g840 := ti_nl h832
              refine Tp_if (fun h841 => ?_) (fun h841 => ?_)
              · have g842 := ti_e h841
                have l843 : ((12 : Int32)).toInt = 12 := rfl
                unfold f_MO_takeLine_286
                unfold f_MO_takeLine_288
                have i844 := ti_rg x2
                have l845 : ((1 : Int32)).toInt = 1 := rfl
                first | (have a846 : (x3 + (1 : Int32)).toInt = (x3).toInt + ((1 : Int32)).toInt := ti_add (by omega) (by omega)) | (have a847 := ti_rg (x3 + (1 : Int32)))
                first | (have a848 : (x11 + (1 : Int32)).toInt = (x11).toInt + ((1 : Int32)).toInt := ti_add (by omega) (by omega)) | (have a849 := ti_rg (x11 + (1 : Int32)))
                exact ih x1 x2 (x3 + (1 : Int32)) (x7 ||| ((mz_gI t 1 x3.toNatClampNeg).toInt64 <<< (((8 : Int32) * x11).toInt64 &&& 63))) x9 (x11 + (1 : Int32)) t ci (by omega) (by omega) (by omega) (by omega) (by omega) (by omega) i6 (by omega)
              · have g850 := ti_ne h841
                have l851 : ((12 : Int32)).toInt = 12 := rfl
                refine Tp_gd (ti_ix (by omega) (by omega)) ?_
                unfold f_MO_takeLine_288
                have i852 := ti_rg x2
                have l853 : ((1 : Int32)).toInt = 1 := rfl
                first | (have a854 : (x3 + (1 : Int32)).toInt = (x3).toInt + ((1 : Int32)).toInt := ti_add (by omega) (by omega)) | (have a855 := ti_rg (x3 + (1 : Int32)))
                first | (have a856 : (x11 + (1 : Int32)).toInt = (x11).toInt + ((1 : Int32)).toInt := ti_add (by omega) (by omega)) | (have a857 := ti_rg (x11 + (1 : Int32)))
                exact ih x1 x2 (x3 + (1 : Int32)) (x7 ||| ((mz_gI t 1 x3.toNatClampNeg).toInt64 <<< (((8 : Int32) * x11).toInt64 &&& 63))) (x9 ||| ((mz_gI t 1 x3.toNatClampNeg).toInt64 <<< (((8 : Int32) * (x11 - (8 : Int32))).toInt64 &&& 63))) (x11 + (1 : Int32)) t ci (by omega) (by omega) (by omega) (by omega) (by omega) (by omega) i6 (by omega)
