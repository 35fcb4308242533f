/-! TOTAL: written by vcg.py -/
set_option maxRecDepth 4000 in
set_option maxHeartbeats 8000000 in
theorem s_MO_lineEnds {n : Nat} {s : mz_St} (hn : 8589934592 ≤ n) {t : mz_St}  (ci : MI s t)  : Tp (f_MO_lineEnds n t) (fun r => MI s r ∧ (mz_gI r 0 60).toInt = (mz_gI t 0 60).toInt ∧ (¬ (mz_gI t 0 62).toInt = 0 ∨ (mz_gI r 0 62).toInt = 0)) := by
  unfold f_MO_lineEnds
  have b2678 := MI_g23 ci (c := 0) (p := 60) rfl
  have b2679 := MI_g2 ci (c := 0) (p := 62) rfl
  refine Tp_bi (s_MO_blanks hn ci  (t := t)) (fun q2680 h2681 => ?_)
  obtain ⟨ci2682, p2683, p2684, p2685, p2686⟩ := h2681
  have b2687 := MI_g24 ci (c := 0) (p := 61) rfl
  have b2688 := MI_g23 ci2682 (c := 0) (p := 60) rfl
  have b2689 := MI_g24 ci2682 (c := 0) (p := 61) rfl
  have b2690 := MI_g2 ci2682 (c := 0) (p := 62) rfl
  refine Tp_if (fun h2691 => ?_) (fun h2691 => ?_)
  · have g2692 := ti_q h2691
    have l2693 : (0 : Int32).toInt = 0 := rfl
    unfold f_MO_lineEnds_27
    unfold f_MO_lineEnds_28
    have l2694 : ((0 : Int32)).toInt = 0 := rfl
    refine Tp_gd (ti_b (by omega) (by omega)) ?_
    refine Tp_le (fun t2695 E2696 => ?_)
    have l2698 : (62 : Int32).toInt = 62 := rfl
    have ci2697 := MI_p2 ci2682 E2696 rfl (by omega) (by omega)
    refine Tp_so ?_
    have b2699 := MI_g23 ci2697 (c := 0) (p := 60) rfl
    have e2700 : (mz_gI t2695 0 60).toInt = (mz_gI q2680 0 60).toInt := by rw [E2696, gI_oth _ _ (by simp)]
    have b2701 := MI_g24 ci2697 (c := 0) (p := 61) rfl
    have e2702 : (mz_gI t2695 0 61).toInt = (mz_gI q2680 0 61).toInt := by rw [E2696, gI_oth _ _ (by simp)]
    have b2703 := MI_g2 ci2697 (c := 0) (p := 62) rfl
    have e2704 : (mz_gI t2695 0 62).toInt = ((0 : Int32)).toInt := by rw [E2696, gI_same]
    refine ⟨ci2697, ?_, ?_⟩
    · (try dsimp only) <;> first | omega | assumption
    · (try dsimp only) <;> first | omega | assumption
  · have g2705 := ti_nq h2691
    have l2706 : (0 : Int32).toInt = 0 := rfl
    refine Tp_if (fun h2707 => ?_) (fun h2707 => ?_)
    · have g2708 := ti_l h2707
      unfold f_MO_lineEnds_27
      unfold f_MO_lineEnds_28
      have l2709 : ((0 : Int32)).toInt = 0 := rfl
      refine Tp_gd (ti_b (by omega) (by omega)) ?_
      refine Tp_le (fun t2710 E2711 => ?_)
      have l2713 : (62 : Int32).toInt = 62 := rfl
      have ci2712 := MI_p2 ci2682 E2711 rfl (by omega) (by omega)
      refine Tp_so ?_
      have b2714 := MI_g23 ci2712 (c := 0) (p := 60) rfl
      have e2715 : (mz_gI t2710 0 60).toInt = (mz_gI q2680 0 60).toInt := by rw [E2711, gI_oth _ _ (by simp)]
      have b2716 := MI_g24 ci2712 (c := 0) (p := 61) rfl
      have e2717 : (mz_gI t2710 0 61).toInt = (mz_gI q2680 0 61).toInt := by rw [E2711, gI_oth _ _ (by simp)]
      have b2718 := MI_g2 ci2712 (c := 0) (p := 62) rfl
      have e2719 : (mz_gI t2710 0 62).toInt = ((0 : Int32)).toInt := by rw [E2711, gI_same]
      refine ⟨ci2712, ?_, ?_⟩
      · (try dsimp only) <;> first | omega | assumption
      · (try dsimp only) <;> first | omega | assumption
    · have g2720 := ti_nl h2707
      unfold f_MO_lineEnds_28
      have l2721 : ((1 : Int32)).toInt = 1 := rfl
      refine Tp_gd (ti_b (by omega) (by omega)) ?_
      refine Tp_le (fun t2722 E2723 => ?_)
      have l2725 : (62 : Int32).toInt = 62 := rfl
      have ci2724 := MI_p2 ci2682 E2723 rfl (by omega) (by omega)
      refine Tp_so ?_
      have b2726 := MI_g23 ci2724 (c := 0) (p := 60) rfl
      have e2727 : (mz_gI t2722 0 60).toInt = (mz_gI q2680 0 60).toInt := by rw [E2723, gI_oth _ _ (by simp)]
      have b2728 := MI_g24 ci2724 (c := 0) (p := 61) rfl
      have e2729 : (mz_gI t2722 0 61).toInt = (mz_gI q2680 0 61).toInt := by rw [E2723, gI_oth _ _ (by simp)]
      have b2730 := MI_g2 ci2724 (c := 0) (p := 62) rfl
      have e2731 : (mz_gI t2722 0 62).toInt = ((1 : Int32)).toInt := by rw [E2723, gI_same]
      refine ⟨ci2724, ?_, ?_⟩
      · (try dsimp only) <;> first | omega | assumption
      · (try dsimp only) <;> first | omega | assumption
set_option maxRecDepth 4000 in
set_option maxHeartbeats 8000000 in
theorem nI_mk {x : Int32} (h : 0 ≤ x.toInt) : x = nI x.toNatClampNeg := by
  apply Int32.toInt_inj.mp
  have h2 := ti_hi x
  show x.toInt = (Int32.ofNat x.toNatClampNeg).toInt
  rw [Int32.toInt_ofNat_of_lt (by have := ti_cl x; omega)]
  have := ti_cl x
  omega
set_option maxRecDepth 4000 in
set_option maxHeartbeats 8000000 in
theorem ti_nI {k : Nat} (h : k < 2147483648) : (nI k).toInt = k := by
  show (Int32.ofNat k).toInt = k
  exact Int32.toInt_ofNat_of_lt h
set_option maxRecDepth 4000 in
set_option maxHeartbeats 8000000 in
theorem MI_mvF {s t t' : mz_St} (h : MI s t) (F : mv_F t t') (h61 : 0 ≤ (mz_gI t' 0 61).toInt ∧ (mz_gI t' 0 61).toInt ≤ 7000) (h62 : 0 ≤ (mz_gI t' 0 62).toInt ∧ (mz_gI t' 0 62).toInt ≤ 1) : MI s t' := by
  refine ⟨h.1, fun c p hc => ?_, fun c p => ?_⟩
  · rw [F.1 c p (fun q => ?_) (fun q => ?_)]
    · exact h.2.1 c p hc
    · obtain ⟨rfl, rfl | rfl | rfl | rfl⟩ := q <;> exact absurd hc (by decide)
    · have : ∀ c, 44 ≤ c → c ≤ 50 → bxM c p = 0 := by
        intro c h1 h2
        rcases (show c = 44 ∨ c = 45 ∨ c = 46 ∨ c = 47 ∨ c = 48 ∨ c = 49 ∨ c = 50 by omega) with rfl | rfl | rfl | rfl | rfl | rfl | rfl <;> rfl
      rw [this c q.1 q.2] at hc
      exact absurd hc (by decide)
  · by_cases q1 : c = 0 ∧ (p = 61 ∨ p = 62 ∨ p = 64 ∨ p = 67)
    · obtain ⟨rfl, rfl | rfl | rfl | rfl⟩ := q1
      · exact h61
      · exact h62
      · exact ti_rg _
      · exact ti_rg _
    · by_cases q2 : 44 ≤ c ∧ c ≤ 50
      · have : ∀ c, 44 ≤ c → c ≤ 50 → bxM c p = 0 := by
          intro c h1 h2
          rcases (show c = 44 ∨ c = 45 ∨ c = 46 ∨ c = 47 ∨ c = 48 ∨ c = 49 ∨ c = 50 by omega) with rfl | rfl | rfl | rfl | rfl | rfl | rfl <;> rfl
        rw [this c q2.1 q2.2]
        exact ti_rg _
      · rw [F.1 c p q1 q2]; exact h.2.2 c p
set_option maxRecDepth 4000 in
set_option maxHeartbeats 8000000 in
theorem s_MO_value {n : Nat} {s : mz_St} (hn : 8589934592 ≤ n) {t : mz_St} (ci : MI s t) (i0 : ((mz_gI t 0 62).toInt = 0 ∨ (mz_gI t 0 61).toInt ≤ (mz_gI t 0 60).toInt)) : Tp (f_MO_value n t) (fun r => MI s r.2) := by
  have b60 := MI_g23 ci (c := 0) (p := 60) rfl
  have b61 := MI_g24 ci (c := 0) (p := 61) rfl
  have b62 := MI_g2 ci (c := 0) (p := 62) rfl
  have b24 := MI_g5 ci (c := 0) (p := 24) rfl
  by_cases h0 : (mz_gI t 0 62).toInt = 0
  · obtain ⟨t', e, e62, e61, F⟩ := mv_value0 (n := n) (by omega) (show mz_gI t 0 62 = 0 from Int32.toInt_inj.mp h0)
    refine ⟨_, e, MI_mvF ci F (by rw [e61]; exact b61) (by rw [e62]; exact ⟨by decide, by decide⟩)⟩
  · have h1 : mz_gI t 0 62 = 1 := Int32.toInt_inj.mp (show (mz_gI t 0 62).toInt = 1 by omega)
    have c60 := ti_cl (mz_gI t 0 60)
    have c61 := ti_cl (mz_gI t 0 61)
    have c24 := ti_cl (mz_gI t 0 24)
    have hR : mr_R t (mz_gI t 0 60).toNatClampNeg (mz_gI t 0 61).toNatClampNeg := ⟨nI_mk (by omega), nI_mk (by omega), by omega, by omega⟩
    have hv := mv_value (n := n) (L := mz_gI t 43) (cnt := (mz_gI t 0 24).toNatClampNeg) (ga := mz_gL t 15) (gb := mz_gL t 16) (nu := mz_gI t 17) (by omega) hR (by omega) rfl h1 ⟨nI_mk (by omega), by omega, rfl, rfl, rfl⟩ (by omega)
    revert hv
    split
    · intro hv
      obtain ⟨t', p, e, e62, R, hp, F⟩ := hv
      refine ⟨_, e, MI_mvF ci F ?_ (by rw [e62]; exact ⟨by decide, by decide⟩)⟩
      rw [R.2.1, ti_nI (by omega)]
      omega
    · intro hv
      obtain ⟨t', e, e62, -, ⟨p, R, -, hp⟩, hz, F⟩ := hv
      have hle := sp_nb_le (mz_gI t 43) hz
      refine ⟨_, e, MI_mvF ci F ?_ (by rw [e62]; exact ⟨by decide, by decide⟩)⟩
      rw [R.2.1, ti_nI (by omega)]
      omega
set_option maxRecDepth 4000 in
set_option maxHeartbeats 8000000 in
theorem s_MO_wholeValue {n : Nat} {s : mz_St} (hn : 8589934592 ≤ n) {t : mz_St}  (ci : MI s t) (i0 : ((mz_gI t 0 62).toInt = 0 ∨ (mz_gI t 0 61).toInt ≤ (mz_gI t 0 60).toInt)) : Tp (f_MO_wholeValue n t) (fun r => MI s r.2) := by
  unfold f_MO_wholeValue
  have b2732 := MI_g2 ci (c := 0) (p := 62) rfl
  have b2733 := MI_g24 ci (c := 0) (p := 61) rfl
  have b2734 := MI_g23 ci (c := 0) (p := 60) rfl
  refine Tp_bi (s_MO_value hn ci (by omega) (t := t)) (fun q2735 h2736 => ?_)
  have ci2737 := h2736
  refine Tp_bi (s_MO_lineEnds hn ci2737  (t := q2735.2)) (fun q2738 h2739 => ?_)
  obtain ⟨ci2740, p2741, p2742⟩ := h2739
  have b2743 := MI_g23 ci2737 (c := 0) (p := 60) rfl
  have b2744 := MI_g2 ci2737 (c := 0) (p := 62) rfl
  have b2745 := MI_g23 ci2740 (c := 0) (p := 60) rfl
  have b2746 := MI_g24 ci2740 (c := 0) (p := 61) rfl
  have b2747 := MI_g24 ci2737 (c := 0) (p := 61) rfl
  have b2748 := MI_g2 ci2740 (c := 0) (p := 62) rfl
  refine Tp_if (fun h2749 => ?_) (fun h2749 => ?_)
  · have g2750 := ti_q h2749
    have l2751 : (0 : Int32).toInt = 0 := rfl
    have l2754 : ((1 : Int32)).toInt = 1 := rfl
    have i2755 := ti_rg (mz_gI q2738 0 63)
    refine Tp_bi (s_MO_fail hn ci2740 (by omega) (t := q2738) (x1 := (1 : Int32)) (x2 := mz_gI q2738 0 63)) (fun q2752 h2753 => ?_)
    obtain ⟨ci2756, p2757, p2758, p2759⟩ := h2753
    have b2760 := MI_g29 ci2740 (c := 0) (p := 6) rfl
    have b2761 := MI_g29 ci2756 (c := 0) (p := 6) rfl
    have b2762 := MI_g23 ci2756 (c := 0) (p := 60) rfl
    refine Tp_so ?_
    have i2763 := ti_rg q2735.1
    exact ci2756
  · have g2764 := ti_nq h2749
    have l2765 : (0 : Int32).toInt = 0 := rfl
    refine Tp_if (fun h2766 => ?_) (fun h2766 => ?_)
    · have g2767 := ti_e h2766
      have i2768 := ti_rg (mz_gI q2738 0 64)
      refine Tp_so ?_
      have i2769 := ti_rg q2735.1
      exact ci2740
    · have g2770 := ti_ne h2766
      have i2771 := ti_rg (mz_gI q2738 0 64)
      have i2774 := ti_rg (mz_gI q2738 0 63)
      refine Tp_bi (s_MO_fail hn ci2740 (by omega) (t := q2738) (x1 := mz_gI q2738 0 64) (x2 := mz_gI q2738 0 63)) (fun q2772 h2773 => ?_)
      obtain ⟨ci2775, p2776, p2777, p2778⟩ := h2773
      have b2779 := MI_g29 ci2740 (c := 0) (p := 6) rfl
      have b2780 := MI_g29 ci2775 (c := 0) (p := 6) rfl
      have b2781 := MI_g23 ci2775 (c := 0) (p := 60) rfl
      refine Tp_so ?_
      have i2782 := ti_rg q2735.1
      exact ci2775
set_option maxRecDepth 4000 in
set_option maxHeartbeats 8000000 in
theorem l_MO_constantOf_6 {n : Nat} {s : mz_St} (hn : 8589934592 ≤ n)  : ∀ (k : Nat) (x1 : Int64) (x3 : Int64) (x5 : Int32) (x6 : Int32) (t : mz_St), MI s t → (0 ≤ x6.toInt) → (-1 ≤ x5.toInt) → ((x5.toInt = -1 ∨ x5.toInt < (mz_gI t 0 24).toInt)) → (2147483648 - x6.toInt).toNat < k → Tp (f_MO_constantOf_6 n k x1 x3 x5 x6 t) (fun r => MI s r.2 ∧ r.2 = t ∧ -1 ≤ (r.1).toInt ∧ ((r.1).toInt = -1 ∨ (r.1).toInt < (mz_gI t 0 24).toInt)) := by
  intro k
  induction k with
  | zero => intros; omega
  | succ k ih =>
    intro x1 x3 x5 x6 t ci i0 i1 i2 hm
    unfold f_MO_constantOf_6
    have b2783 := MI_g5 ci (c := 0) (p := 24) rfl
    refine Tp_if (fun h2784 => ?_) (fun h2784 => ?_)
    · have g2785 := ti_e h2784
      have i2786 := ti_rg x6
      refine Tp_so ?_
      have i2787 := ti_rg x5
      refine ⟨ci, rfl, ?_, ?_⟩
      · (try dsimp only) <;> first | omega | assumption
      · (try dsimp only) <;> first | omega | assumption
    · have g2788 := ti_ne h2784
      have i2789 := ti_rg x6
      refine Tp_gd (ti_ix (by omega) (by omega)) ?_
      refine Tp_if (fun h2790 => ?_) (fun h2790 => ?_)
      · skip
        refine Tp_gd (ti_ix (by omega) (by omega)) ?_
        refine Tp_if (fun h2791 => ?_) (fun h2791 => ?_)
        · skip
          unfold f_MO_constantOf_46
          have l2792 : ((1 : Int32)).toInt = 1 := rfl
          first | (have a2793 : (x6 + (1 : Int32)).toInt = (x6).toInt + ((1 : Int32)).toInt := ti_add (by omega) (by omega)) | (have a2794 := ti_rg (x6 + (1 : Int32)))
          exact ih x1 x3 x6 (x6 + (1 : Int32)) t ci (by omega) (by omega) (by omega) (by omega)
        · skip
          unfold f_MO_constantOf_44
          unfold f_MO_constantOf_46
          have i2795 := ti_rg x5
          have l2796 : ((1 : Int32)).toInt = 1 := rfl
          first | (have a2797 : (x6 + (1 : Int32)).toInt = (x6).toInt + ((1 : Int32)).toInt := ti_add (by omega) (by omega)) | (have a2798 := ti_rg (x6 + (1 : Int32)))
          exact ih x1 x3 x5 (x6 + (1 : Int32)) t ci (by omega) (by omega) (by omega) (by omega)
      · skip
        unfold f_MO_constantOf_44
        unfold f_MO_constantOf_46
        have i2799 := ti_rg x5
        have l2800 : ((1 : Int32)).toInt = 1 := rfl
        first | (have a2801 : (x6 + (1 : Int32)).toInt = (x6).toInt + ((1 : Int32)).toInt := ti_add (by omega) (by omega)) | (have a2802 := ti_rg (x6 + (1 : Int32)))
        exact ih x1 x3 x5 (x6 + (1 : Int32)) t ci (by omega) (by omega) (by omega) (by omega)
set_option maxRecDepth 4000 in
set_option maxHeartbeats 8000000 in
theorem s_MO_constantOf {n : Nat} {s : mz_St} (hn : 8589934592 ≤ n) {x1 : Int64} {x3 : Int64} {t : mz_St}  (ci : MI s t)  : Tp (f_MO_constantOf n x1 x3 t) (fun r => MI s r.2 ∧ r.2 = t ∧ -1 ≤ (r.1).toInt ∧ ((r.1).toInt = -1 ∨ (r.1).toInt < (mz_gI t 0 24).toInt)) := by
  unfold f_MO_constantOf
  have b2803 := MI_g5 ci (c := 0) (p := 24) rfl
  have l2804 : ((-1 : Int32)).toInt = -1 := rfl
  have l2805 : ((0 : Int32)).toInt = 0 := rfl
  refine Tp_mo (l_MO_constantOf_6 hn  n x1 x3 (-1 : Int32) (0 : Int32) t ci (by omega) (by omega) (by omega) (by omega)) (fun q2806 h2807 => ?_)
  obtain ⟨ci2808, E2809, p2810, p2811⟩ := h2807
  have i2812 := ti_rg q2806.1
  refine ⟨ci2808, (E2809), ?_, ?_⟩
  · (try dsimp only) <;> first | omega | assumption
  · (try dsimp only) <;> first | omega | assumption
set_option maxRecDepth 4000 in
set_option maxHeartbeats 8000000 in
theorem l_MO_macroOf_6 {n : Nat} {s : mz_St} (hn : 8589934592 ≤ n)  : ∀ (k : Nat) (x1 : Int64) (x3 : Int64) (x5 : Int32) (x6 : Int32) (t : mz_St), MI s t → (0 ≤ x6.toInt) → (-1 ≤ x5.toInt) → ((x5.toInt = -1 ∨ x5.toInt < (mz_gI t 0 12).toInt)) → (2147483648 - x6.toInt).toNat < k → Tp (f_MO_macroOf_6 n k x1 x3 x5 x6 t) (fun r => MI s r.2 ∧ r.2 = t ∧ -1 ≤ (r.1).toInt ∧ ((r.1).toInt = -1 ∨ (r.1).toInt < (mz_gI t 0 12).toInt)) := by
  intro k
  induction k with
  | zero => intros; omega
  | succ k ih =>
    intro x1 x3 x5 x6 t ci i0 i1 i2 hm
    unfold f_MO_macroOf_6
    have b2813 := MI_13 ci (c := 0) (p := 12) rfl
    have b2814 := FX_0_12 ci.1
    refine Tp_if (fun h2815 => ?_) (fun h2815 => ?_)
    · have g2816 := ti_e h2815
      have i2817 := ti_rg x6
      refine Tp_so ?_
      have i2818 := ti_rg x5
      refine ⟨ci, rfl, ?_, ?_⟩
      · (try dsimp only) <;> first | omega | assumption
      · (try dsimp only) <;> first | omega | assumption
    · have g2819 := ti_ne h2815
      have i2820 := ti_rg x6
      refine Tp_gd (ti_ix (by omega) (by omega)) ?_
      refine Tp_if (fun h2821 => ?_) (fun h2821 => ?_)
      · skip
        refine Tp_gd (ti_ix (by omega) (by omega)) ?_
        refine Tp_if (fun h2822 => ?_) (fun h2822 => ?_)
        · skip
          unfold f_MO_macroOf_46
          have l2823 : ((1 : Int32)).toInt = 1 := rfl
          first | (have a2824 : (x6 + (1 : Int32)).toInt = (x6).toInt + ((1 : Int32)).toInt := ti_add (by omega) (by omega)) | (have a2825 := ti_rg (x6 + (1 : Int32)))
          exact ih x1 x3 x6 (x6 + (1 : Int32)) t ci (by omega) (by omega) (by omega) (by omega)
        · skip
          unfold f_MO_macroOf_44
          unfold f_MO_macroOf_46
          have i2826 := ti_rg x5
          have l2827 : ((1 : Int32)).toInt = 1 := rfl
          first | (have a2828 : (x6 + (1 : Int32)).toInt = (x6).toInt + ((1 : Int32)).toInt := ti_add (by omega) (by omega)) | (have a2829 := ti_rg (x6 + (1 : Int32)))
          exact ih x1 x3 x5 (x6 + (1 : Int32)) t ci (by omega) (by omega) (by omega) (by omega)
      · skip
        unfold f_MO_macroOf_44
        unfold f_MO_macroOf_46
        have i2830 := ti_rg x5
        have l2831 : ((1 : Int32)).toInt = 1 := rfl
        first | (have a2832 : (x6 + (1 : Int32)).toInt = (x6).toInt + ((1 : Int32)).toInt := ti_add (by omega) (by omega)) | (have a2833 := ti_rg (x6 + (1 : Int32)))
        exact ih x1 x3 x5 (x6 + (1 : Int32)) t ci (by omega) (by omega) (by omega) (by omega)
set_option maxRecDepth 4000 in
set_option maxHeartbeats 8000000 in
theorem s_MO_macroOf {n : Nat} {s : mz_St} (hn : 8589934592 ≤ n) {x1 : Int64} {x3 : Int64} {t : mz_St}  (ci : MI s t)  : Tp (f_MO_macroOf n x1 x3 t) (fun r => MI s r.2 ∧ r.2 = t ∧ -1 ≤ (r.1).toInt ∧ ((r.1).toInt = -1 ∨ (r.1).toInt < (mz_gI t 0 12).toInt)) := by
  unfold f_MO_macroOf
  have b2834 := MI_13 ci (c := 0) (p := 12) rfl
  have b2835 := FX_0_12 ci.1
  have l2836 : ((-1 : Int32)).toInt = -1 := rfl
  have l2837 : ((0 : Int32)).toInt = 0 := rfl
  refine Tp_mo (l_MO_macroOf_6 hn  n x1 x3 (-1 : Int32) (0 : Int32) t ci (by omega) (by omega) (by omega) (by omega)) (fun q2838 h2839 => ?_)
  obtain ⟨ci2840, E2841, p2842, p2843⟩ := h2839
  have i2844 := ti_rg q2838.1
  refine ⟨ci2840, (E2841), ?_, ?_⟩
  · (try dsimp only) <;> first | omega | assumption
  · (try dsimp only) <;> first | omega | assumption
set_option maxRecDepth 4000 in
set_option maxHeartbeats 8000000 in
theorem s_MO_setConstant {n : Nat} {s : mz_St} (hn : 8589934592 ≤ n) {t : mz_St}  (ci : MI s t) (i0 : (mz_gI t 0 61).toInt ≤ (mz_gI t 0 60).toInt) : Tp (f_MO_setConstant n t) (fun r => MI s r) := by
  unfold f_MO_setConstant
  have b2845 := MI_g24 ci (c := 0) (p := 61) rfl
  have b2846 := MI_g23 ci (c := 0) (p := 60) rfl
  refine Tp_bi (s_MO_word hn ci  (t := t)) (fun q2847 h2848 => ?_)
  obtain ⟨ci2849, p2850, p2851, p2852, p2853, p2854⟩ := h2848
  have b2855 := MI_g23 ci2849 (c := 0) (p := 60) rfl
  have b2856 := MI_g24 ci2849 (c := 0) (p := 61) rfl
  have b2857 := MI_g2 ci2849 (c := 0) (p := 62) rfl
  have b2858 := MI_g2 ci (c := 0) (p := 62) rfl
  have l2861 : ((44 : Int32)).toInt = 44 := rfl
  refine Tp_bi (s_MO_sign hn ci2849 (by omega) (by omega) (t := q2847) (x1 := (44 : Int32))) (fun q2859 h2860 => ?_)
  obtain ⟨ci2862, p2863, p2864, p2865, p2866, p2867⟩ := h2860
  have b2868 := MI_g23 ci2862 (c := 0) (p := 60) rfl
  have b2869 := MI_g24 ci2862 (c := 0) (p := 61) rfl
  have b2870 := MI_g2 ci2862 (c := 0) (p := 62) rfl
  refine Tp_bi (s_MO_wholeValue hn ci2862 (by omega) (t := q2859)) (fun q2871 h2872 => ?_)
  have ci2873 := h2872
  refine Tp_if (fun h2874 => ?_) (fun h2874 => ?_)
  · have g2875 := ti_e h2874
    have b2876 := MI_g29 ci2873 (c := 0) (p := 6) rfl
    have l2877 : (0 : Int32).toInt = 0 := rfl
    refine Tp_bi (s_MO_constantOf hn ci2873  (t := q2871.2) (x1 := mz_gL q2847 0 65) (x3 := mz_gL q2847 0 66)) (fun q2878 h2879 => ?_)
    obtain ⟨ci2880, E2881, p2882, p2883⟩ := h2879
    have b2884 := MI_g5 ci2873 (c := 0) (p := 24) rfl
    try rw [E2881]
    refine Tp_if (fun h2885 => ?_) (fun h2885 => ?_)
    · have g2886 := ti_e h2885
      have i2887 := ti_rg q2878.1
      unfold f_MO_setConstant_67
      refine Tp_if (fun h2888 => ?_) (fun h2888 => ?_)
      · have g2889 := ti_e h2888
        unfold f_MO_setConstant_88
        refine Tp_gd (ti_ix (by omega) (by omega)) ?_
        refine Tp_le (fun t2890 E2891 => ?_)
        have ci2892 := MI_pL ci2873 E2891
        refine Tp_gd (ti_ix (by omega) (by omega)) ?_
        refine Tp_le (fun t2893 E2894 => ?_)
        have ci2895 := MI_pL ci2892 E2894
        refine Tp_gd (ti_ix (by omega) (by omega)) ?_
        have i2898 := ti_rg q2871.1
        refine Tp_le (fun t2896 E2897 => ?_)
        have ci2899 := MI_p0 ci2895 E2897 rfl
        refine Tp_so ?_
        exact ci2899
      · have g2900 := ti_ne h2888
        have l2903 : ((1 : Int32)).toInt = 1 := rfl
        first | (have a2904 : ((mz_gI q2871.2 0 24) + (1 : Int32)).toInt = (mz_gI q2871.2 0 24).toInt + ((1 : Int32)).toInt := ti_add (by omega) (by omega)) | (have a2905 := ti_rg ((mz_gI q2871.2 0 24) + (1 : Int32)))
        refine Tp_le (fun t2901 E2902 => ?_)
        have l2907 : (24 : Int32).toInt = 24 := rfl
        have ci2906 := MI_p5 ci2873 E2902 rfl (by omega) (by omega)
        unfold f_MO_setConstant_88
        refine Tp_gd (ti_ix (by omega) (by omega)) ?_
        refine Tp_le (fun t2908 E2909 => ?_)
        have ci2910 := MI_pL ci2906 E2909
        refine Tp_gd (ti_ix (by omega) (by omega)) ?_
        refine Tp_le (fun t2911 E2912 => ?_)
        have ci2913 := MI_pL ci2910 E2912
        refine Tp_gd (ti_ix (by omega) (by omega)) ?_
        have i2916 := ti_rg q2871.1
        refine Tp_le (fun t2914 E2915 => ?_)
        have ci2917 := MI_p0 ci2913 E2915 rfl
        refine Tp_so ?_
        exact ci2917
    · have g2918 := ti_ne h2885
      have i2919 := ti_rg q2878.1
      refine Tp_if (fun h2920 => ?_) (fun h2920 => ?_)
      · have g2921 := ti_q h2920
        have l2922 : ((64 : Int32)).toInt = 64 := rfl
        have l2925 : ((6 : Int32)).toInt = 6 := rfl
        have i2926 := ti_rg (mz_gI q2871.2 0 63)
        refine Tp_bi (s_MO_fail hn ci2873 (by omega) (t := q2871.2) (x1 := (6 : Int32)) (x2 := mz_gI q2871.2 0 63)) (fun q2923 h2924 => ?_)
        obtain ⟨ci2927, p2928, p2929, p2930⟩ := h2924
        have b2931 := MI_g23 ci2873 (c := 0) (p := 60) rfl
        have b2932 := MI_g29 ci2927 (c := 0) (p := 6) rfl
        have b2933 := MI_g23 ci2927 (c := 0) (p := 60) rfl
        refine Tp_so ?_
        exact ci2927
      · have g2934 := ti_nq h2920
        have l2935 : ((64 : Int32)).toInt = 64 := rfl
        unfold f_MO_setConstant_67
        refine Tp_if (fun h2936 => ?_) (fun h2936 => ?_)
        · have g2937 := ti_e h2936
          unfold f_MO_setConstant_88
          refine Tp_gd (ti_ix (by omega) (by omega)) ?_
          refine Tp_le (fun t2938 E2939 => ?_)
          have ci2940 := MI_pL ci2873 E2939
          refine Tp_gd (ti_ix (by omega) (by omega)) ?_
          refine Tp_le (fun t2941 E2942 => ?_)
          have ci2943 := MI_pL ci2940 E2942
          refine Tp_gd (ti_ix (by omega) (by omega)) ?_
          have i2946 := ti_rg q2871.1
          refine Tp_le (fun t2944 E2945 => ?_)
          have ci2947 := MI_p0 ci2943 E2945 rfl
          refine Tp_so ?_
          exact ci2947
        · have g2948 := ti_ne h2936
          have l2951 : ((1 : Int32)).toInt = 1 := rfl
          first | (have a2952 : ((mz_gI q2871.2 0 24) + (1 : Int32)).toInt = (mz_gI q2871.2 0 24).toInt + ((1 : Int32)).toInt := ti_add (by omega) (by omega)) | (have a2953 := ti_rg ((mz_gI q2871.2 0 24) + (1 : Int32)))
          refine Tp_le (fun t2949 E2950 => ?_)
          have l2955 : (24 : Int32).toInt = 24 := rfl
          have ci2954 := MI_p5 ci2873 E2950 rfl (by omega) (by omega)
          unfold f_MO_setConstant_88
          refine Tp_gd (ti_ix (by omega) (by omega)) ?_
          refine Tp_le (fun t2956 E2957 => ?_)
          have ci2958 := MI_pL ci2954 E2957
          refine Tp_gd (ti_ix (by omega) (by omega)) ?_
          refine Tp_le (fun t2959 E2960 => ?_)
          have ci2961 := MI_pL ci2958 E2960
          refine Tp_gd (ti_ix (by omega) (by omega)) ?_
          have i2964 := ti_rg q2871.1
          refine Tp_le (fun t2962 E2963 => ?_)
          have ci2965 := MI_p0 ci2961 E2963 rfl
          refine Tp_so ?_
          exact ci2965
  · have g2966 := ti_ne h2874
    have b2967 := MI_g29 ci2873 (c := 0) (p := 6) rfl
    have l2968 : (0 : Int32).toInt = 0 := rfl
    refine Tp_so ?_
    exact ci2873
set_option maxRecDepth 4000 in
set_option maxHeartbeats 8000000 in
theorem l_MO_forgetConstant_65 {n : Nat} {s : mz_St} (hn : 8589934592 ≤ n)  : ∀ (k : Nat) (x2 : Int32) (t : mz_St), MI s t → (0 ≤ x2.toInt) → ((mz_gI t 0 24).toInt ≤ 63) → (2147483648 - x2.toInt).toNat < k → Tp (f_MO_forgetConstant_65 n k x2 t) (fun r => MI s r) := by
  intro k
  induction k with
  | zero => intros; omega
  | succ k ih =>
    intro x2 t ci i0 i1 hm
    unfold f_MO_forgetConstant_65
    have b2969 := MI_g5 ci (c := 0) (p := 24) rfl
    refine Tp_if (fun h2970 => ?_) (fun h2970 => ?_)
    · have g2971 := ti_e h2970
      have i2972 := ti_rg x2
      refine Tp_so ?_
      exact ci
    · have g2973 := ti_ne h2970
      have i2974 := ti_rg x2
      have l2975 : ((1 : Int32)).toInt = 1 := rfl
      first | (have a2976 : (x2 + (1 : Int32)).toInt = (x2).toInt + ((1 : Int32)).toInt := ti_add (by omega) (by omega)) | (have a2977 := ti_rg (x2 + (1 : Int32)))
      refine Tp_gd (ti_ix (by omega) (by omega)) ?_
      refine Tp_gd (ti_ix (by omega) (by omega)) ?_
      refine Tp_le (fun t2978 E2979 => ?_)
      have ci2980 := MI_pL ci E2979
      refine Tp_gd (ti_ix (by omega) (by omega)) ?_
      refine Tp_gd (ti_ix (by omega) (by omega)) ?_
      refine Tp_le (fun t2981 E2982 => ?_)
      have ci2983 := MI_pL ci2980 E2982
      refine Tp_gd (ti_ix (by omega) (by omega)) ?_
      refine Tp_gd (ti_ix (by omega) (by omega)) ?_
      have i2986 := ti_rg (mz_gI t2981 17 (x2 + (1 : Int32)).toNatClampNeg)
      have e2987 : (mz_gI t2981 17 (x2 + (1 : Int32)).toNatClampNeg).toInt = (mz_gI t2978 17 (x2 + (1 : Int32)).toNatClampNeg).toInt := by rw [E2982]; rfl
      have i2988 := ti_rg (mz_gI t2978 17 (x2 + (1 : Int32)).toNatClampNeg)
      have e2989 : (mz_gI t2978 17 (x2 + (1 : Int32)).toNatClampNeg).toInt = (mz_gI t 17 (x2 + (1 : Int32)).toNatClampNeg).toInt := by rw [E2979]; rfl
      have i2990 := ti_rg (mz_gI t 17 (x2 + (1 : Int32)).toNatClampNeg)
      refine Tp_le (fun t2984 E2985 => ?_)
      have ci2991 := MI_p0 ci2983 E2985 rfl
      have b2992 := MI_g5 ci2991 (c := 0) (p := 24) rfl
      have e2993 : (mz_gI t2984 0 24).toInt = (mz_gI t2981 0 24).toInt := by rw [E2985, gI_oth _ _ (by simp)]
      have b2994 := MI_g5 ci2983 (c := 0) (p := 24) rfl
      have e2995 : (mz_gI t2981 0 24).toInt = (mz_gI t2978 0 24).toInt := by rw [E2982]; rfl
      have b2996 := MI_g5 ci2980 (c := 0) (p := 24) rfl
      have e2997 : (mz_gI t2978 0 24).toInt = (mz_gI t 0 24).toInt := by rw [E2979]; rfl
      exact ih (x2 + (1 : Int32)) t2984 ci2991 (by omega) (by omega) (by omega)
set_option maxRecDepth 4000 in
set_option maxHeartbeats 8000000 in
theorem s_MO_forgetConstant {n : Nat} {s : mz_St} (hn : 8589934592 ≤ n) {t : mz_St}  (ci : MI s t)  : Tp (f_MO_forgetConstant n t) (fun r => MI s r) := by
  unfold f_MO_forgetConstant
  refine Tp_bi (s_MO_word hn ci  (t := t)) (fun q2998 h2999 => ?_)
  obtain ⟨ci3000, p3001, p3002, p3003, p3004, p3005⟩ := h2999
  have b3006 := MI_g23 ci (c := 0) (p := 60) rfl
  have b3007 := MI_g24 ci (c := 0) (p := 61) rfl
  have b3008 := MI_g23 ci3000 (c := 0) (p := 60) rfl
  have b3009 := MI_g24 ci3000 (c := 0) (p := 61) rfl
  have b3010 := MI_g2 ci3000 (c := 0) (p := 62) rfl
  have b3011 := MI_g2 ci (c := 0) (p := 62) rfl
  refine Tp_bi (s_MO_lineEnds hn ci3000  (t := q2998)) (fun q3012 h3013 => ?_)
  obtain ⟨ci3014, p3015, p3016⟩ := h3013
  have b3017 := MI_g23 ci3014 (c := 0) (p := 60) rfl
  have b3018 := MI_g24 ci3014 (c := 0) (p := 61) rfl
  have b3019 := MI_g2 ci3014 (c := 0) (p := 62) rfl
  refine Tp_bi (s_MO_constantOf hn ci3014  (t := q3012) (x1 := mz_gL q3012 0 65) (x3 := mz_gL q3012 0 66)) (fun q3020 h3021 => ?_)
  obtain ⟨ci3022, E3023, p3024, p3025⟩ := h3021
  have b3026 := MI_g5 ci3014 (c := 0) (p := 24) rfl
  try rw [E3023]
  refine Tp_if (fun h3027 => ?_) (fun h3027 => ?_)
  · have g3028 := ti_q h3027
    have l3029 : (0 : Int32).toInt = 0 := rfl
    unfold f_MO_forgetConstant_32
    refine Tp_if (fun h3030 => ?_) (fun h3030 => ?_)
    · have g3031 := ti_q h3030
      unfold f_MO_forgetConstant_45
      have l3034 : ((1 : Int32)).toInt = 1 := rfl
      have i3035 := ti_rg (mz_gI q3012 0 63)
      refine Tp_bi (s_MO_fail hn ci3014 (by omega) (t := q3012) (x1 := (1 : Int32)) (x2 := mz_gI q3012 0 63)) (fun q3032 h3033 => ?_)
      obtain ⟨ci3036, p3037, p3038, p3039⟩ := h3033
      have b3040 := MI_g29 ci3014 (c := 0) (p := 6) rfl
      have b3041 := MI_g29 ci3036 (c := 0) (p := 6) rfl
      have b3042 := MI_g23 ci3036 (c := 0) (p := 60) rfl
      refine Tp_so ?_
      exact ci3036
    · have g3043 := ti_nq h3030
      unfold f_MO_forgetConstant_45
      have l3046 : ((3 : Int32)).toInt = 3 := rfl
      have i3047 := ti_rg (mz_gI q3012 0 63)
      refine Tp_bi (s_MO_fail hn ci3014 (by omega) (t := q3012) (x1 := (3 : Int32)) (x2 := mz_gI q3012 0 63)) (fun q3044 h3045 => ?_)
      obtain ⟨ci3048, p3049, p3050, p3051⟩ := h3045
      have b3052 := MI_g29 ci3014 (c := 0) (p := 6) rfl
      have b3053 := MI_g29 ci3048 (c := 0) (p := 6) rfl
      have b3054 := MI_g23 ci3048 (c := 0) (p := 60) rfl
      refine Tp_so ?_
      exact ci3048
  · have g3055 := ti_nq h3027
    have l3056 : (0 : Int32).toInt = 0 := rfl
    refine Tp_if (fun h3057 => ?_) (fun h3057 => ?_)
    · have g3058 := ti_e h3057
      have i3059 := ti_rg q3020.1
      have l3062 : ((1 : Int32)).toInt = 1 := rfl
      first | (have a3063 : ((mz_gI q3012 0 24) - (1 : Int32)).toInt = (mz_gI q3012 0 24).toInt - ((1 : Int32)).toInt := ti_sub (by omega) (by omega)) | (have a3064 := ti_rg ((mz_gI q3012 0 24) - (1 : Int32)))
      refine Tp_le (fun t3060 E3061 => ?_)
      have l3066 : (24 : Int32).toInt = 24 := rfl
      have ci3065 := MI_p5 ci3014 E3061 rfl (by omega) (by omega)
      have b3067 := MI_g5 ci3065 (c := 0) (p := 24) rfl
      have e3068 : (mz_gI t3060 0 24).toInt = ((mz_gI q3012 0 24) - (1 : Int32)).toInt := by rw [E3061, gI_same]
      refine Tp_mo (l_MO_forgetConstant_65 hn  n q3020.1 t3060 ci3065 (by omega) (by omega) (by omega)) (fun q3069 h3070 => ?_)
      have ci3071 := h3070
      exact ci3071
    · have g3072 := ti_ne h3057
      have i3073 := ti_rg q3020.1
      unfold f_MO_forgetConstant_32
      refine Tp_if (fun h3074 => ?_) (fun h3074 => ?_)
      · have g3075 := ti_q h3074
        unfold f_MO_forgetConstant_45
        have l3078 : ((1 : Int32)).toInt = 1 := rfl
        have i3079 := ti_rg (mz_gI q3012 0 63)
        refine Tp_bi (s_MO_fail hn ci3014 (by omega) (t := q3012) (x1 := (1 : Int32)) (x2 := mz_gI q3012 0 63)) (fun q3076 h3077 => ?_)
        obtain ⟨ci3080, p3081, p3082, p3083⟩ := h3077
        have b3084 := MI_g29 ci3014 (c := 0) (p := 6) rfl
        have b3085 := MI_g29 ci3080 (c := 0) (p := 6) rfl
        have b3086 := MI_g23 ci3080 (c := 0) (p := 60) rfl
        refine Tp_so ?_
        exact ci3080
      · have g3087 := ti_nq h3074
        unfold f_MO_forgetConstant_45
        have l3090 : ((3 : Int32)).toInt = 3 := rfl
        have i3091 := ti_rg (mz_gI q3012 0 63)
        refine Tp_bi (s_MO_fail hn ci3014 (by omega) (t := q3012) (x1 := (3 : Int32)) (x2 := mz_gI q3012 0 63)) (fun q3088 h3089 => ?_)
        obtain ⟨ci3092, p3093, p3094, p3095⟩ := h3089
        have b3096 := MI_g29 ci3014 (c := 0) (p := 6) rfl
        have b3097 := MI_g29 ci3092 (c := 0) (p := 6) rfl
        have b3098 := MI_g23 ci3092 (c := 0) (p := 60) rfl
        refine Tp_so ?_
        exact ci3092
set_option maxRecDepth 4000 in
set_option maxHeartbeats 8000000 in
theorem l_MO_goOut_79 {n : Nat} {s : mz_St} (hn : 8589934592 ≤ n)  : ∀ (k : Nat) (x1 : Int32) (t : mz_St), MI s t → (0 ≤ x1.toInt) → (x1.toInt ≤ (mz_gI t 0 60).toInt) → ((mz_gI t 0 29).toInt + ((mz_gI t 0 60).toInt - x1.toInt) ≤ 12000) → ((mz_gI t 0 28).toInt ≤ 999) → (2147483648 - x1.toInt).toNat < k → Tp (f_MO_goOut_79 n k x1 t) (fun r => MI s r) := by
  intro k
  induction k with
  | zero => intros; omega
  | succ k ih =>
    intro x1 t ci i0 i1 i2 i3 hm
    unfold f_MO_goOut_79
    have b3099 := MI_g23 ci (c := 0) (p := 60) rfl
    have b3100 := MI_g8 ci (c := 0) (p := 29) rfl
    have b3101 := MI_g7 ci (c := 0) (p := 28) rfl
    refine Tp_if (fun h3102 => ?_) (fun h3102 => ?_)
    · have g3103 := ti_e h3102
      have i3104 := ti_rg x1
      have l3107 : ((1 : Int32)).toInt = 1 := rfl
      first | (have a3108 : ((mz_gI t 0 28) + (1 : Int32)).toInt = (mz_gI t 0 28).toInt + ((1 : Int32)).toInt := ti_add (by omega) (by omega)) | (have a3109 := ti_rg ((mz_gI t 0 28) + (1 : Int32)))
      refine Tp_le (fun t3105 E3106 => ?_)
      have l3111 : (28 : Int32).toInt = 28 := rfl
      have ci3110 := MI_p7 ci E3106 rfl (by omega) (by omega)
      have b3112 := MI_g7 ci3110 (c := 0) (p := 28) rfl
      have e3113 : (mz_gI t3105 0 28).toInt = ((mz_gI t 0 28) + (1 : Int32)).toInt := by rw [E3106, gI_same]
      refine Tp_gd (ti_ix (by omega) (by omega)) ?_
      have b3116 := MI_g8 ci3110 (c := 0) (p := 29) rfl
      have e3117 : (mz_gI t3105 0 29).toInt = (mz_gI t 0 29).toInt := by rw [E3106, gI_oth _ _ (by simp)]
      refine Tp_le (fun t3114 E3115 => ?_)
      have k3119 := ti_cl (mz_gI t3105 0 28)
      have ci3118 := MI_p8 ci3110 E3115 rfl (by omega) (by omega)
      refine Tp_so ?_
      exact ci3118
    · have g3120 := ti_ne h3102
      have i3121 := ti_rg x1
      refine Tp_gd (ti_ix (by omega) (by omega)) ?_
      refine Tp_gd (ti_ix (by omega) (by omega)) ?_
      have i3124 := ti_rg (mz_gI t 43 x1.toNatClampNeg)
      refine Tp_le (fun t3122 E3123 => ?_)
      have ci3125 := MI_p0 ci E3123 rfl
      have b3128 := MI_g8 ci3125 (c := 0) (p := 29) rfl
      have e3129 : (mz_gI t3122 0 29).toInt = (mz_gI t 0 29).toInt := by rw [E3123, gI_oth _ _ (by simp)]
      have l3130 : ((1 : Int32)).toInt = 1 := rfl
      first | (have a3131 : ((mz_gI t3122 0 29) + (1 : Int32)).toInt = (mz_gI t3122 0 29).toInt + ((1 : Int32)).toInt := ti_add (by omega) (by omega)) | (have a3132 := ti_rg ((mz_gI t3122 0 29) + (1 : Int32)))
      refine Tp_le (fun t3126 E3127 => ?_)
      have l3134 : (29 : Int32).toInt = 29 := rfl
      have ci3133 := MI_p8 ci3125 E3127 rfl (by omega) (by omega)
      first | (have a3135 : (x1 + (1 : Int32)).toInt = (x1).toInt + ((1 : Int32)).toInt := ti_add (by omega) (by omega)) | (have a3136 := ti_rg (x1 + (1 : Int32)))
      have b3137 := MI_g23 ci3133 (c := 0) (p := 60) rfl
      have e3138 : (mz_gI t3126 0 60).toInt = (mz_gI t3122 0 60).toInt := by rw [E3127, gI_oth _ _ (by simp)]
      have b3139 := MI_g23 ci3125 (c := 0) (p := 60) rfl
      have e3140 : (mz_gI t3122 0 60).toInt = (mz_gI t 0 60).toInt := by rw [E3123, gI_oth _ _ (by simp)]
      have b3141 := MI_g8 ci3133 (c := 0) (p := 29) rfl
      have e3142 : (mz_gI t3126 0 29).toInt = ((mz_gI t3122 0 29) + (1 : Int32)).toInt := by rw [E3127, gI_same]
      have b3143 := MI_g7 ci3133 (c := 0) (p := 28) rfl
      have e3144 : (mz_gI t3126 0 28).toInt = (mz_gI t3122 0 28).toInt := by rw [E3127, gI_oth _ _ (by simp)]
      have b3145 := MI_g7 ci3125 (c := 0) (p := 28) rfl
      have e3146 : (mz_gI t3122 0 28).toInt = (mz_gI t 0 28).toInt := by rw [E3123, gI_oth _ _ (by simp)]
      exact ih (x1 + (1 : Int32)) t3126 ci3133 (by omega) (by omega) (by omega) (by omega) (by omega)
set_option maxRecDepth 4000 in
set_option maxHeartbeats 8000000 in
theorem s_MO_goOut {n : Nat} {s : mz_St} (hn : 8589934592 ≤ n) {t : mz_St}  (ci : MI s t)  : Tp (f_MO_goOut n t) (fun r => MI s r) := by
  unfold f_MO_goOut
  refine Tp_if (fun h3147 => ?_) (fun h3147 => ?_)
  · have g3148 := ti_q h3147
    have b3149 := MI_g7 ci (c := 0) (p := 28) rfl
    have l3150 : ((1000 : Int32)).toInt = 1000 := rfl
    unfold f_MO_goOut_25
    have l3153 : ((6 : Int32)).toInt = 6 := rfl
    have i3154 := ti_rg (mz_gI t 0 63)
    refine Tp_bi (s_MO_fail hn ci (by omega) (t := t) (x1 := (6 : Int32)) (x2 := mz_gI t 0 63)) (fun q3151 h3152 => ?_)
    obtain ⟨ci3155, p3156, p3157, p3158⟩ := h3152
    have b3159 := MI_g29 ci (c := 0) (p := 6) rfl
    have b3160 := MI_g23 ci (c := 0) (p := 60) rfl
    have b3161 := MI_g29 ci3155 (c := 0) (p := 6) rfl
    have b3162 := MI_g23 ci3155 (c := 0) (p := 60) rfl
    refine Tp_so ?_
    exact ci3155
  · have g3163 := ti_nq h3147
    have b3164 := MI_g7 ci (c := 0) (p := 28) rfl
    have l3165 : ((1000 : Int32)).toInt = 1000 := rfl
    refine Tp_if (fun h3166 => ?_) (fun h3166 => ?_)
    · have g3167 := ti_e h3166
      have b3168 := MI_g8 ci (c := 0) (p := 29) rfl
      have b3169 := MI_g23 ci (c := 0) (p := 60) rfl
      first | (have a3170 : ((mz_gI t 0 29) + (mz_gI t 0 60)).toInt = (mz_gI t 0 29).toInt + (mz_gI t 0 60).toInt := ti_add (by omega) (by omega)) | (have a3171 := ti_rg ((mz_gI t 0 29) + (mz_gI t 0 60)))
      have l3172 : ((12000 : Int32)).toInt = 12000 := rfl
      refine Tp_gd (ti_ix (by omega) (by omega)) ?_
      refine Tp_le (fun t3173 E3174 => ?_)
      have k3176 := ti_cl (mz_gI t 0 28)
      have ci3175 := MI_p8 ci E3174 rfl (by omega) (by omega)
      have b3177 := MI_g7 ci3175 (c := 0) (p := 28) rfl
      have e3178 : (mz_gI t3173 0 28).toInt = (mz_gI t 0 28).toInt := by rw [E3174, gI_oth _ _ (by simp)]
      refine Tp_gd (ti_ix (by omega) (by omega)) ?_
      have i3181 := ti_rg (mz_gI t3173 0 63)
      have e3182 : (mz_gI t3173 0 63).toInt = (mz_gI t 0 63).toInt := by rw [E3174, gI_oth _ _ (by simp)]
      have i3183 := ti_rg (mz_gI t 0 63)
      refine Tp_le (fun t3179 E3180 => ?_)
      have ci3184 := MI_p0 ci3175 E3180 rfl
      have b3185 := MI_g7 ci3184 (c := 0) (p := 28) rfl
      have e3186 : (mz_gI t3179 0 28).toInt = (mz_gI t3173 0 28).toInt := by rw [E3180, gI_oth _ _ (by simp)]
      refine Tp_gd (ti_ix (by omega) (by omega)) ?_
      have b3189 := MI_13 ci3184 (c := 0) (p := 34) rfl
      have b3190 := FX_0_34 ci3184.1
      have l3191 : ((1 : Int32)).toInt = 1 := rfl
      first | (have a3192 : ((mz_gI t3179 0 34) - (1 : Int32)).toInt = (mz_gI t3179 0 34).toInt - ((1 : Int32)).toInt := ti_sub (by omega) (by omega)) | (have a3193 := ti_rg ((mz_gI t3179 0 34) - (1 : Int32)))
      refine Tp_le (fun t3187 E3188 => ?_)
      have ci3194 := MI_p0 ci3184 E3188 rfl
      have l3195 : ((0 : Int32)).toInt = 0 := rfl
      have b3196 := MI_g23 ci3194 (c := 0) (p := 60) rfl
      have e3197 : (mz_gI t3187 0 60).toInt = (mz_gI t3179 0 60).toInt := by rw [E3188, gI_oth _ _ (by simp)]
      have b3198 := MI_g23 ci3184 (c := 0) (p := 60) rfl
      have e3199 : (mz_gI t3179 0 60).toInt = (mz_gI t3173 0 60).toInt := by rw [E3180, gI_oth _ _ (by simp)]
      have b3200 := MI_g23 ci3175 (c := 0) (p := 60) rfl
      have e3201 : (mz_gI t3173 0 60).toInt = (mz_gI t 0 60).toInt := by rw [E3174, gI_oth _ _ (by simp)]
      have b3202 := MI_g8 ci3194 (c := 0) (p := 29) rfl
      have e3203 : (mz_gI t3187 0 29).toInt = (mz_gI t3179 0 29).toInt := by rw [E3188, gI_oth _ _ (by simp)]
      have b3204 := MI_g8 ci3184 (c := 0) (p := 29) rfl
      have e3205 : (mz_gI t3179 0 29).toInt = (mz_gI t3173 0 29).toInt := by rw [E3180, gI_oth _ _ (by simp)]
      have b3206 := MI_g8 ci3175 (c := 0) (p := 29) rfl
      have e3207 : (mz_gI t3173 0 29).toInt = (mz_gI t 0 29).toInt := by rw [E3174, gI_oth _ _ (by simp)]
      have b3208 := MI_g7 ci3194 (c := 0) (p := 28) rfl
      have e3209 : (mz_gI t3187 0 28).toInt = (mz_gI t3179 0 28).toInt := by rw [E3188, gI_oth _ _ (by simp)]
      refine Tp_mo (l_MO_goOut_79 hn  n (0 : Int32) t3187 ci3194 (by omega) (by omega) (by omega) (by omega) (by omega)) (fun q3210 h3211 => ?_)
      have ci3212 := h3211
      exact ci3212
    · have g3213 := ti_ne h3166
      have b3214 := MI_g8 ci (c := 0) (p := 29) rfl
      have b3215 := MI_g23 ci (c := 0) (p := 60) rfl
      first | (have a3216 : ((mz_gI t 0 29) + (mz_gI t 0 60)).toInt = (mz_gI t 0 29).toInt + (mz_gI t 0 60).toInt := ti_add (by omega) (by omega)) | (have a3217 := ti_rg ((mz_gI t 0 29) + (mz_gI t 0 60)))
      have l3218 : ((12000 : Int32)).toInt = 12000 := rfl
      unfold f_MO_goOut_25
      have l3221 : ((6 : Int32)).toInt = 6 := rfl
      have i3222 := ti_rg (mz_gI t 0 63)
      refine Tp_bi (s_MO_fail hn ci (by omega) (t := t) (x1 := (6 : Int32)) (x2 := mz_gI t 0 63)) (fun q3219 h3220 => ?_)
      obtain ⟨ci3223, p3224, p3225, p3226⟩ := h3220
      have b3227 := MI_g29 ci (c := 0) (p := 6) rfl
      have b3228 := MI_g29 ci3223 (c := 0) (p := 6) rfl
      have b3229 := MI_g23 ci3223 (c := 0) (p := 60) rfl
      refine Tp_so ?_
      exact ci3223
set_option maxRecDepth 4000 in
set_option maxHeartbeats 8000000 in
theorem s_MO_refuse {n : Nat} {s : mz_St} (hn : 8589934592 ≤ n) {x1 : Int32} {x2 : Int32} {t : mz_St}  (ci : MI s t)  : Tp (f_MO_refuse n x1 x2 t) (fun r => MI s r.2 ∧ (¬ (r.1).toInt = 0 ∨ x1.toInt = 0 ∧ x2.toInt = 0)) := by
  unfold f_MO_refuse
  refine Tp_if (fun h3230 => ?_) (fun h3230 => ?_)
  · have g3231 := ti_q h3230
    have i3232 := ti_rg x1
    have l3233 : (0 : Int32).toInt = 0 := rfl
    refine Tp_if (fun h3234 => ?_) (fun h3234 => ?_)
    · have g3235 := ti_q h3234
      have i3236 := ti_rg x2
      unfold f_MO_refuse_18
      have l3239 : ((0 : Int32)).toInt = 0 := rfl
      refine Tp_le (fun t3237 E3238 => ?_)
      have ci3240 := MI_p0 ci E3238 rfl
      refine Tp_if (fun h3241 => ?_) (fun h3241 => ?_)
      · have g3242 := ti_e h3241
        have i3243 := ti_rg (mz_gI t3237 0 0)
        have e3244 : (mz_gI t3237 0 0).toInt = ((0 : Int32)).toInt := by rw [E3238, gI_same]
        refine Tp_so ?_
        refine ⟨ci3240, ?_⟩
        · (try dsimp only) <;> first | omega | assumption
      · have g3245 := ti_ne h3241
        have i3246 := ti_rg (mz_gI t3237 0 0)
        have e3247 : (mz_gI t3237 0 0).toInt = ((0 : Int32)).toInt := by rw [E3238, gI_same]
        refine Tp_so ?_
        have l3248 : ((1 : Int32)).toInt = 1 := rfl
        refine ⟨ci3240, ?_⟩
        · (try dsimp only) <;> first | omega | assumption
    · have g3249 := ti_nq h3234
      have i3250 := ti_rg x2
      unfold f_MO_refuse_18
      have l3253 : ((2 : Int32)).toInt = 2 := rfl
      refine Tp_le (fun t3251 E3252 => ?_)
      have ci3254 := MI_p0 ci E3252 rfl
      refine Tp_if (fun h3255 => ?_) (fun h3255 => ?_)
      · have g3256 := ti_e h3255
        have i3257 := ti_rg (mz_gI t3251 0 0)
        have e3258 : (mz_gI t3251 0 0).toInt = ((2 : Int32)).toInt := by rw [E3252, gI_same]
        refine Tp_so ?_
        have l3259 : ((0 : Int32)).toInt = 0 := rfl
        refine ⟨ci3254, ?_⟩
        · (try dsimp only) <;> first | omega | assumption
      · have g3260 := ti_ne h3255
        have i3261 := ti_rg (mz_gI t3251 0 0)
        have e3262 : (mz_gI t3251 0 0).toInt = ((2 : Int32)).toInt := by rw [E3252, gI_same]
        refine Tp_so ?_
        have l3263 : ((1 : Int32)).toInt = 1 := rfl
        refine ⟨ci3254, ?_⟩
        · (try dsimp only) <;> first | omega | assumption
  · have g3264 := ti_nq h3230
    have i3265 := ti_rg x1
    have l3266 : (0 : Int32).toInt = 0 := rfl
    unfold f_MO_refuse_18
    have l3269 : ((1 : Int32)).toInt = 1 := rfl
    refine Tp_le (fun t3267 E3268 => ?_)
    have ci3270 := MI_p0 ci E3268 rfl
    refine Tp_if (fun h3271 => ?_) (fun h3271 => ?_)
    · have g3272 := ti_e h3271
      have i3273 := ti_rg (mz_gI t3267 0 0)
      have e3274 : (mz_gI t3267 0 0).toInt = ((1 : Int32)).toInt := by rw [E3268, gI_same]
      refine Tp_so ?_
      have l3275 : ((0 : Int32)).toInt = 0 := rfl
      refine ⟨ci3270, ?_⟩
      · (try dsimp only) <;> first | omega | assumption
    · have g3276 := ti_ne h3271
      have i3277 := ti_rg (mz_gI t3267 0 0)
      have e3278 : (mz_gI t3267 0 0).toInt = ((1 : Int32)).toInt := by rw [E3268, gI_same]
      refine Tp_so ?_
      refine ⟨ci3270, ?_⟩
      · (try dsimp only) <;> first | omega | assumption
set_option maxRecDepth 4000 in
set_option maxHeartbeats 8000000 in
theorem s_MO_about {n : Nat} {s : mz_St} (hn : 8589934592 ≤ n) {x1 : Int32} {t : mz_St}  (ci : MI s t)  : Tp (f_MO_about n x1 t) (fun r => MI s r.2) := by
  unfold f_MO_about
  have i3281 := ti_rg x1
  have l3282 : ((0 : Int32)).toInt = 0 := rfl
  have l3283 : ((8 : Int32)).toInt = 8 := rfl
  refine Tp_bi (s_MO_in hn ci  (t := t) (x0 := x1) (x1 := (0 : Int32)) (x2 := (8 : Int32))) (fun q3279 h3280 => ?_)
  obtain ⟨ci3284, E3285, p3286, p3287, p3288⟩ := h3280
  try rw [E3285]
  refine Tp_if (fun h3289 => ?_) (fun h3289 => ?_)
  · have g3290 := ti_q h3289
    have i3291 := ti_rg q3279.1
    have l3292 : (0 : Int32).toInt = 0 := rfl
    unfold f_MO_about_16
    have l3295 : ((1 : Int32)).toInt = 1 := rfl
    refine Tp_bi (s_MO_refuse hn ci  (t := t) (x1 := (1 : Int32)) (x2 := (0 : Int32))) (fun q3293 h3294 => ?_)
    obtain ⟨ci3296, p3297⟩ := h3294
    refine Tp_if (fun h3298 => ?_) (fun h3298 => ?_)
    · have g3299 := ti_q h3298
      have i3300 := ti_rg q3293.1
      refine Tp_if (fun h3301 => ?_) (fun h3301 => ?_)
      · have g3302 := ti_q h3301
        refine Tp_so ?_
        have b3303 := MI_g29 ci3296 (c := 0) (p := 6) rfl
        exact ci3296
      · have g3304 := ti_nq h3301
        refine Tp_if (fun h3305 => ?_) (fun h3305 => ?_)
        · have g3306 := ti_q h3305
          refine Tp_so ?_
          have i3307 := ti_rg (mz_gI q3293.2 0 7)
          exact ci3296
        · have g3308 := ti_nq h3305
          refine Tp_if (fun h3309 => ?_) (fun h3309 => ?_)
          · have g3310 := ti_q h3309
            have l3311 : ((2 : Int32)).toInt = 2 := rfl
            refine Tp_so ?_
            have b3312 := MI_13 ci3296 (c := 0) (p := 8) rfl
            have b3313 := FX_0_8 ci3296.1
            exact ci3296
          · have g3314 := ti_nq h3309
            have l3315 : ((2 : Int32)).toInt = 2 := rfl
            refine Tp_if (fun h3316 => ?_) (fun h3316 => ?_)
            · have g3317 := ti_q h3316
              have l3318 : ((3 : Int32)).toInt = 3 := rfl
              refine Tp_so ?_
              have i3319 := ti_rg (mz_gI q3293.2 0 9)
              exact ci3296
            · have g3320 := ti_nq h3316
              have l3321 : ((3 : Int32)).toInt = 3 := rfl
              refine Tp_if (fun h3322 => ?_) (fun h3322 => ?_)
              · have g3323 := ti_q h3322
                have l3324 : ((4 : Int32)).toInt = 4 := rfl
                refine Tp_so ?_
                have b3325 := MI_13 ci3296 (c := 0) (p := 12) rfl
                have b3326 := FX_0_12 ci3296.1
                exact ci3296
              · have g3327 := ti_nq h3322
                have l3328 : ((4 : Int32)).toInt = 4 := rfl
                refine Tp_if (fun h3329 => ?_) (fun h3329 => ?_)
                · have g3330 := ti_q h3329
                  have l3331 : ((5 : Int32)).toInt = 5 := rfl
                  refine Tp_so ?_
                  have b3332 := MI_g5 ci3296 (c := 0) (p := 24) rfl
                  exact ci3296
                · have g3333 := ti_nq h3329
                  have l3334 : ((5 : Int32)).toInt = 5 := rfl
                  refine Tp_if (fun h3335 => ?_) (fun h3335 => ?_)
                  · have g3336 := ti_q h3335
                    have l3337 : ((6 : Int32)).toInt = 6 := rfl
                    refine Tp_so ?_
                    have b3338 := MI_g7 ci3296 (c := 0) (p := 28) rfl
                    exact ci3296
                  · have g3339 := ti_nq h3335
                    have l3340 : ((6 : Int32)).toInt = 6 := rfl
                    refine Tp_if (fun h3341 => ?_) (fun h3341 => ?_)
                    · have g3342 := ti_q h3341
                      have l3343 : ((7 : Int32)).toInt = 7 := rfl
                      refine Tp_so ?_
                      have b3344 := MI_g8 ci3296 (c := 0) (p := 29) rfl
                      exact ci3296
                    · have g3345 := ti_nq h3341
                      have l3346 : ((7 : Int32)).toInt = 7 := rfl
                      refine Tp_so ?_
                      have i3347 := ti_rg (mz_gI q3293.2 0 10)
                      exact ci3296
    · have g3348 := ti_nq h3298
      have i3349 := ti_rg q3293.1
      refine Tp_so ?_
      exact ci3296
  · have g3350 := ti_nq h3289
    have i3351 := ti_rg q3279.1
    have l3352 : (0 : Int32).toInt = 0 := rfl
    unfold f_MO_about_16
    refine Tp_bi (s_MO_refuse hn ci  (t := t) (x1 := (0 : Int32)) (x2 := (0 : Int32))) (fun q3353 h3354 => ?_)
    obtain ⟨ci3355, p3356⟩ := h3354
    refine Tp_if (fun h3357 => ?_) (fun h3357 => ?_)
    · have g3358 := ti_q h3357
      have i3359 := ti_rg q3353.1
      refine Tp_if (fun h3360 => ?_) (fun h3360 => ?_)
      · have g3361 := ti_q h3360
        refine Tp_so ?_
        have b3362 := MI_g29 ci3355 (c := 0) (p := 6) rfl
        exact ci3355
      · have g3363 := ti_nq h3360
        refine Tp_if (fun h3364 => ?_) (fun h3364 => ?_)
        · have g3365 := ti_q h3364
          have l3366 : ((1 : Int32)).toInt = 1 := rfl
          refine Tp_so ?_
          have i3367 := ti_rg (mz_gI q3353.2 0 7)
          exact ci3355
        · have g3368 := ti_nq h3364
          have l3369 : ((1 : Int32)).toInt = 1 := rfl
          refine Tp_if (fun h3370 => ?_) (fun h3370 => ?_)
          · have g3371 := ti_q h3370
            have l3372 : ((2 : Int32)).toInt = 2 := rfl
            refine Tp_so ?_
            have b3373 := MI_13 ci3355 (c := 0) (p := 8) rfl
            have b3374 := FX_0_8 ci3355.1
            exact ci3355
          · have g3375 := ti_nq h3370
            have l3376 : ((2 : Int32)).toInt = 2 := rfl
            refine Tp_if (fun h3377 => ?_) (fun h3377 => ?_)
            · have g3378 := ti_q h3377
              have l3379 : ((3 : Int32)).toInt = 3 := rfl
              refine Tp_so ?_
              have i3380 := ti_rg (mz_gI q3353.2 0 9)
              exact ci3355
            · have g3381 := ti_nq h3377
              have l3382 : ((3 : Int32)).toInt = 3 := rfl
              refine Tp_if (fun h3383 => ?_) (fun h3383 => ?_)
              · have g3384 := ti_q h3383
                have l3385 : ((4 : Int32)).toInt = 4 := rfl
                refine Tp_so ?_
                have b3386 := MI_13 ci3355 (c := 0) (p := 12) rfl
                have b3387 := FX_0_12 ci3355.1
                exact ci3355
              · have g3388 := ti_nq h3383
                have l3389 : ((4 : Int32)).toInt = 4 := rfl
                refine Tp_if (fun h3390 => ?_) (fun h3390 => ?_)
                · have g3391 := ti_q h3390
                  have l3392 : ((5 : Int32)).toInt = 5 := rfl
                  refine Tp_so ?_
                  have b3393 := MI_g5 ci3355 (c := 0) (p := 24) rfl
                  exact ci3355
                · have g3394 := ti_nq h3390
                  have l3395 : ((5 : Int32)).toInt = 5 := rfl
                  refine Tp_if (fun h3396 => ?_) (fun h3396 => ?_)
                  · have g3397 := ti_q h3396
                    have l3398 : ((6 : Int32)).toInt = 6 := rfl
                    refine Tp_so ?_
                    have b3399 := MI_g7 ci3355 (c := 0) (p := 28) rfl
                    exact ci3355
                  · have g3400 := ti_nq h3396
                    have l3401 : ((6 : Int32)).toInt = 6 := rfl
                    refine Tp_if (fun h3402 => ?_) (fun h3402 => ?_)
                    · have g3403 := ti_q h3402
                      have l3404 : ((7 : Int32)).toInt = 7 := rfl
                      refine Tp_so ?_
                      have b3405 := MI_g8 ci3355 (c := 0) (p := 29) rfl
                      exact ci3355
                    · have g3406 := ti_nq h3402
                      have l3407 : ((7 : Int32)).toInt = 7 := rfl
                      refine Tp_so ?_
                      have i3408 := ti_rg (mz_gI q3353.2 0 10)
                      exact ci3355
    · have g3409 := ti_nq h3357
      have i3410 := ti_rg q3353.1
      refine Tp_so ?_
      exact ci3355
set_option maxRecDepth 4000 in
set_option maxHeartbeats 8000000 in
theorem s_MO_line {n : Nat} {s : mz_St} (hn : 8589934592 ≤ n) {x1 : Int32} {x2 : Int32} {t : mz_St}  (ci : MI s t)  : Tp (f_MO_line n x1 x2 t) (fun r => MI s r.2) := by
  unfold f_MO_line
  have i3413 := ti_rg x1
  have l3414 : ((0 : Int32)).toInt = 0 := rfl
  have b3415 := MI_g7 ci (c := 0) (p := 28) rfl
  have l3416 : ((1 : Int32)).toInt = 1 := rfl
  first | (have a3417 : ((mz_gI t 0 28) - (1 : Int32)).toInt = (mz_gI t 0 28).toInt - ((1 : Int32)).toInt := ti_sub (by omega) (by omega)) | (have a3418 := ti_rg ((mz_gI t 0 28) - (1 : Int32)))
  refine Tp_bi (s_MO_in hn ci  (t := t) (x0 := x1) (x1 := (0 : Int32)) (x2 := (mz_gI t 0 28) - (1 : Int32))) (fun q3411 h3412 => ?_)
  obtain ⟨ci3419, E3420, p3421, p3422, p3423⟩ := h3412
  try rw [E3420]
  refine Tp_if (fun h3424 => ?_) (fun h3424 => ?_)
  · have g3425 := ti_q h3424
    have i3426 := ti_rg q3411.1
    have l3427 : (0 : Int32).toInt = 0 := rfl
    unfold f_MO_line_22
    refine Tp_if (fun h3428 => ?_) (fun h3428 => ?_)
    · have g3429 := ti_q h3428
      unfold f_MO_line_34
      unfold f_MO_line_35
      refine Tp_bi (s_MO_refuse hn ci  (t := t) (x1 := (1 : Int32)) (x2 := (0 : Int32))) (fun q3430 h3431 => ?_)
      obtain ⟨ci3432, p3433⟩ := h3431
      refine Tp_if (fun h3434 => ?_) (fun h3434 => ?_)
      · have g3435 := ti_q h3434
        have i3436 := ti_rg q3430.1
        first | (have a3437 : (x1 + (1 : Int32)).toInt = (x1).toInt + ((1 : Int32)).toInt := ti_add (by omega) (by omega)) | (have a3438 := ti_rg (x1 + (1 : Int32)))
        refine Tp_gd (ti_ix (by omega) (by omega)) ?_
        refine Tp_gd (ti_ix (by omega) (by omega)) ?_
        refine Tp_if (fun h3439 => ?_) (fun h3439 => ?_)
        · have g3440 := ti_q h3439
          have i3441 := ti_rg x2
          refine Tp_so ?_
          have b3442 := MI_g8 ci3432 (c := 18) (p := (x1 + (1 : Int32)).toNatClampNeg) rfl
          have b3443 := MI_g8 ci3432 (c := 18) (p := x1.toNatClampNeg) rfl
          first | (have a3444 : ((mz_gI q3430.2 18 (x1 + (1 : Int32)).toNatClampNeg) - (mz_gI q3430.2 18 x1.toNatClampNeg)).toInt = (mz_gI q3430.2 18 (x1 + (1 : Int32)).toNatClampNeg).toInt - (mz_gI q3430.2 18 x1.toNatClampNeg).toInt := ti_sub (by omega) (by omega)) | (have a3445 := ti_rg ((mz_gI q3430.2 18 (x1 + (1 : Int32)).toNatClampNeg) - (mz_gI q3430.2 18 x1.toNatClampNeg)))
          exact ci3432
        · have g3446 := ti_nq h3439
          have i3447 := ti_rg x2
          refine Tp_if (fun h3448 => ?_) (fun h3448 => ?_)
          · have g3449 := ti_q h3448
            refine Tp_gd (ti_ix (by omega) (by omega)) ?_
            refine Tp_so ?_
            have i3450 := ti_rg (mz_gI q3430.2 19 x1.toNatClampNeg)
            exact ci3432
          · have g3451 := ti_nq h3448
            refine Tp_if (fun h3452 => ?_) (fun h3452 => ?_)
            · have g3453 := ti_q h3452
              have l3454 : ((2 : Int32)).toInt = 2 := rfl
              refine Tp_gd (ti_ix (by omega) (by omega)) ?_
              refine Tp_so ?_
              have i3455 := ti_rg (mz_gI q3430.2 20 x1.toNatClampNeg)
              exact ci3432
            · have g3456 := ti_nq h3452
              have l3457 : ((2 : Int32)).toInt = 2 := rfl
              refine Tp_if (fun h3458 => ?_) (fun h3458 => ?_)
              · have g3459 := ti_e h3458
                have b3460 := MI_g8 ci3432 (c := 18) (p := (x1 + (1 : Int32)).toNatClampNeg) rfl
                have b3461 := MI_g8 ci3432 (c := 18) (p := x1.toNatClampNeg) rfl
                first | (have a3462 : ((mz_gI q3430.2 18 (x1 + (1 : Int32)).toNatClampNeg) - (mz_gI q3430.2 18 x1.toNatClampNeg)).toInt = (mz_gI q3430.2 18 (x1 + (1 : Int32)).toNatClampNeg).toInt - (mz_gI q3430.2 18 x1.toNatClampNeg).toInt := ti_sub (by omega) (by omega)) | (have a3463 := ti_rg ((mz_gI q3430.2 18 (x1 + (1 : Int32)).toNatClampNeg) - (mz_gI q3430.2 18 x1.toNatClampNeg)))
                have l3464 : ((3 : Int32)).toInt = 3 := rfl
                first | (have a3465 : (x2 - (3 : Int32)).toInt = (x2).toInt - ((3 : Int32)).toInt := ti_sub (by omega) (by omega)) | (have a3466 := ti_rg (x2 - (3 : Int32)))
                refine Tp_so ?_
                have l3467 : ((-1 : Int32)).toInt = -1 := rfl
                exact ci3432
              · have g3468 := ti_ne h3458
                have b3469 := MI_g8 ci3432 (c := 18) (p := (x1 + (1 : Int32)).toNatClampNeg) rfl
                have b3470 := MI_g8 ci3432 (c := 18) (p := x1.toNatClampNeg) rfl
                first | (have a3471 : ((mz_gI q3430.2 18 (x1 + (1 : Int32)).toNatClampNeg) - (mz_gI q3430.2 18 x1.toNatClampNeg)).toInt = (mz_gI q3430.2 18 (x1 + (1 : Int32)).toNatClampNeg).toInt - (mz_gI q3430.2 18 x1.toNatClampNeg).toInt := ti_sub (by omega) (by omega)) | (have a3472 := ti_rg ((mz_gI q3430.2 18 (x1 + (1 : Int32)).toNatClampNeg) - (mz_gI q3430.2 18 x1.toNatClampNeg)))
                have l3473 : ((3 : Int32)).toInt = 3 := rfl
                first | (have a3474 : (x2 - (3 : Int32)).toInt = (x2).toInt - ((3 : Int32)).toInt := ti_sub (by omega) (by omega)) | (have a3475 := ti_rg (x2 - (3 : Int32)))
                refine Tp_gd (ti_ix (by omega) (by omega)) ?_
                first | (have a3476 : ((mz_gI q3430.2 18 x1.toNatClampNeg) + x2).toInt = (mz_gI q3430.2 18 x1.toNatClampNeg).toInt + (x2).toInt := ti_add (by omega) (by omega)) | (have a3477 := ti_rg ((mz_gI q3430.2 18 x1.toNatClampNeg) + x2))
                first | (have a3478 : (((mz_gI q3430.2 18 x1.toNatClampNeg) + x2) - (3 : Int32)).toInt = ((mz_gI q3430.2 18 x1.toNatClampNeg) + x2).toInt - ((3 : Int32)).toInt := ti_sub (by omega) (by omega)) | (have a3479 := ti_rg (((mz_gI q3430.2 18 x1.toNatClampNeg) + x2) - (3 : Int32)))
                refine Tp_gd (ti_ix (by omega) (by omega)) ?_
                refine Tp_so ?_
                have i3480 := ti_rg (mz_gI q3430.2 21 (((mz_gI q3430.2 18 x1.toNatClampNeg) + x2) - (3 : Int32)).toNatClampNeg)
                exact ci3432
      · have g3481 := ti_nq h3434
        have i3482 := ti_rg q3430.1
        refine Tp_so ?_
        exact ci3432
    · have g3483 := ti_nq h3428
      refine Tp_if (fun h3484 => ?_) (fun h3484 => ?_)
      · have g3485 := ti_e h3484
        have i3486 := ti_rg x2
        unfold f_MO_line_34
        unfold f_MO_line_35
        refine Tp_bi (s_MO_refuse hn ci  (t := t) (x1 := (1 : Int32)) (x2 := (0 : Int32))) (fun q3487 h3488 => ?_)
        obtain ⟨ci3489, p3490⟩ := h3488
        refine Tp_if (fun h3491 => ?_) (fun h3491 => ?_)
        · have g3492 := ti_q h3491
          have i3493 := ti_rg q3487.1
          first | (have a3494 : (x1 + (1 : Int32)).toInt = (x1).toInt + ((1 : Int32)).toInt := ti_add (by omega) (by omega)) | (have a3495 := ti_rg (x1 + (1 : Int32)))
          refine Tp_gd (ti_ix (by omega) (by omega)) ?_
          refine Tp_gd (ti_ix (by omega) (by omega)) ?_
          refine Tp_if (fun h3496 => ?_) (fun h3496 => ?_)
          · have g3497 := ti_q h3496
            refine Tp_so ?_
            have b3498 := MI_g8 ci3489 (c := 18) (p := (x1 + (1 : Int32)).toNatClampNeg) rfl
            have b3499 := MI_g8 ci3489 (c := 18) (p := x1.toNatClampNeg) rfl
            first | (have a3500 : ((mz_gI q3487.2 18 (x1 + (1 : Int32)).toNatClampNeg) - (mz_gI q3487.2 18 x1.toNatClampNeg)).toInt = (mz_gI q3487.2 18 (x1 + (1 : Int32)).toNatClampNeg).toInt - (mz_gI q3487.2 18 x1.toNatClampNeg).toInt := ti_sub (by omega) (by omega)) | (have a3501 := ti_rg ((mz_gI q3487.2 18 (x1 + (1 : Int32)).toNatClampNeg) - (mz_gI q3487.2 18 x1.toNatClampNeg)))
            exact ci3489
          · have g3502 := ti_nq h3496
            refine Tp_if (fun h3503 => ?_) (fun h3503 => ?_)
            · have g3504 := ti_q h3503
              refine Tp_gd (ti_ix (by omega) (by omega)) ?_
              refine Tp_so ?_
              have i3505 := ti_rg (mz_gI q3487.2 19 x1.toNatClampNeg)
              exact ci3489
            · have g3506 := ti_nq h3503
              refine Tp_if (fun h3507 => ?_) (fun h3507 => ?_)
              · have g3508 := ti_q h3507
                have l3509 : ((2 : Int32)).toInt = 2 := rfl
                refine Tp_gd (ti_ix (by omega) (by omega)) ?_
                refine Tp_so ?_
                have i3510 := ti_rg (mz_gI q3487.2 20 x1.toNatClampNeg)
                exact ci3489
              · have g3511 := ti_nq h3507
                have l3512 : ((2 : Int32)).toInt = 2 := rfl
                refine Tp_if (fun h3513 => ?_) (fun h3513 => ?_)
                · have g3514 := ti_e h3513
                  have b3515 := MI_g8 ci3489 (c := 18) (p := (x1 + (1 : Int32)).toNatClampNeg) rfl
                  have b3516 := MI_g8 ci3489 (c := 18) (p := x1.toNatClampNeg) rfl
                  first | (have a3517 : ((mz_gI q3487.2 18 (x1 + (1 : Int32)).toNatClampNeg) - (mz_gI q3487.2 18 x1.toNatClampNeg)).toInt = (mz_gI q3487.2 18 (x1 + (1 : Int32)).toNatClampNeg).toInt - (mz_gI q3487.2 18 x1.toNatClampNeg).toInt := ti_sub (by omega) (by omega)) | (have a3518 := ti_rg ((mz_gI q3487.2 18 (x1 + (1 : Int32)).toNatClampNeg) - (mz_gI q3487.2 18 x1.toNatClampNeg)))
                  have l3519 : ((3 : Int32)).toInt = 3 := rfl
                  first | (have a3520 : (x2 - (3 : Int32)).toInt = (x2).toInt - ((3 : Int32)).toInt := ti_sub (by omega) (by omega)) | (have a3521 := ti_rg (x2 - (3 : Int32)))
                  refine Tp_so ?_
                  have l3522 : ((-1 : Int32)).toInt = -1 := rfl
                  exact ci3489
                · have g3523 := ti_ne h3513
                  have b3524 := MI_g8 ci3489 (c := 18) (p := (x1 + (1 : Int32)).toNatClampNeg) rfl
                  have b3525 := MI_g8 ci3489 (c := 18) (p := x1.toNatClampNeg) rfl
                  first | (have a3526 : ((mz_gI q3487.2 18 (x1 + (1 : Int32)).toNatClampNeg) - (mz_gI q3487.2 18 x1.toNatClampNeg)).toInt = (mz_gI q3487.2 18 (x1 + (1 : Int32)).toNatClampNeg).toInt - (mz_gI q3487.2 18 x1.toNatClampNeg).toInt := ti_sub (by omega) (by omega)) | (have a3527 := ti_rg ((mz_gI q3487.2 18 (x1 + (1 : Int32)).toNatClampNeg) - (mz_gI q3487.2 18 x1.toNatClampNeg)))
                  have l3528 : ((3 : Int32)).toInt = 3 := rfl
                  first | (have a3529 : (x2 - (3 : Int32)).toInt = (x2).toInt - ((3 : Int32)).toInt := ti_sub (by omega) (by omega)) | (have a3530 := ti_rg (x2 - (3 : Int32)))
                  refine Tp_gd (ti_ix (by omega) (by omega)) ?_
                  first | (have a3531 : ((mz_gI q3487.2 18 x1.toNatClampNeg) + x2).toInt = (mz_gI q3487.2 18 x1.toNatClampNeg).toInt + (x2).toInt := ti_add (by omega) (by omega)) | (have a3532 := ti_rg ((mz_gI q3487.2 18 x1.toNatClampNeg) + x2))
                  first | (have a3533 : (((mz_gI q3487.2 18 x1.toNatClampNeg) + x2) - (3 : Int32)).toInt = ((mz_gI q3487.2 18 x1.toNatClampNeg) + x2).toInt - ((3 : Int32)).toInt := ti_sub (by omega) (by omega)) | (have a3534 := ti_rg (((mz_gI q3487.2 18 x1.toNatClampNeg) + x2) - (3 : Int32)))
                  refine Tp_gd (ti_ix (by omega) (by omega)) ?_
                  refine Tp_so ?_
                  have i3535 := ti_rg (mz_gI q3487.2 21 (((mz_gI q3487.2 18 x1.toNatClampNeg) + x2) - (3 : Int32)).toNatClampNeg)
                  exact ci3489
        · have g3536 := ti_nq h3491
          have i3537 := ti_rg q3487.1
          refine Tp_so ?_
          exact ci3489
      · have g3538 := ti_ne h3484
        have i3539 := ti_rg x2
        unfold f_MO_line_35
        refine Tp_bi (s_MO_refuse hn ci  (t := t) (x1 := (1 : Int32)) (x2 := (1 : Int32))) (fun q3540 h3541 => ?_)
        obtain ⟨ci3542, p3543⟩ := h3541
        refine Tp_if (fun h3544 => ?_) (fun h3544 => ?_)
        · have g3545 := ti_q h3544
          have i3546 := ti_rg q3540.1
          first | (have a3547 : (x1 + (1 : Int32)).toInt = (x1).toInt + ((1 : Int32)).toInt := ti_add (by omega) (by omega)) | (have a3548 := ti_rg (x1 + (1 : Int32)))
          refine Tp_gd (ti_ix (by omega) (by omega)) ?_
          refine Tp_gd (ti_ix (by omega) (by omega)) ?_
          refine Tp_if (fun h3549 => ?_) (fun h3549 => ?_)
          · have g3550 := ti_q h3549
            refine Tp_so ?_
            have b3551 := MI_g8 ci3542 (c := 18) (p := (x1 + (1 : Int32)).toNatClampNeg) rfl
            have b3552 := MI_g8 ci3542 (c := 18) (p := x1.toNatClampNeg) rfl
            first | (have a3553 : ((mz_gI q3540.2 18 (x1 + (1 : Int32)).toNatClampNeg) - (mz_gI q3540.2 18 x1.toNatClampNeg)).toInt = (mz_gI q3540.2 18 (x1 + (1 : Int32)).toNatClampNeg).toInt - (mz_gI q3540.2 18 x1.toNatClampNeg).toInt := ti_sub (by omega) (by omega)) | (have a3554 := ti_rg ((mz_gI q3540.2 18 (x1 + (1 : Int32)).toNatClampNeg) - (mz_gI q3540.2 18 x1.toNatClampNeg)))
            exact ci3542
          · have g3555 := ti_nq h3549
            refine Tp_if (fun h3556 => ?_) (fun h3556 => ?_)
            · have g3557 := ti_q h3556
              refine Tp_gd (ti_ix (by omega) (by omega)) ?_
              refine Tp_so ?_
              have i3558 := ti_rg (mz_gI q3540.2 19 x1.toNatClampNeg)
              exact ci3542
            · have g3559 := ti_nq h3556
              refine Tp_if (fun h3560 => ?_) (fun h3560 => ?_)
              · have g3561 := ti_q h3560
                have l3562 : ((2 : Int32)).toInt = 2 := rfl
                refine Tp_gd (ti_ix (by omega) (by omega)) ?_
                refine Tp_so ?_
                have i3563 := ti_rg (mz_gI q3540.2 20 x1.toNatClampNeg)
                exact ci3542
              · have g3564 := ti_nq h3560
                have l3565 : ((2 : Int32)).toInt = 2 := rfl
                refine Tp_if (fun h3566 => ?_) (fun h3566 => ?_)
                · have g3567 := ti_e h3566
                  have b3568 := MI_g8 ci3542 (c := 18) (p := (x1 + (1 : Int32)).toNatClampNeg) rfl
                  have b3569 := MI_g8 ci3542 (c := 18) (p := x1.toNatClampNeg) rfl
                  first | (have a3570 : ((mz_gI q3540.2 18 (x1 + (1 : Int32)).toNatClampNeg) - (mz_gI q3540.2 18 x1.toNatClampNeg)).toInt = (mz_gI q3540.2 18 (x1 + (1 : Int32)).toNatClampNeg).toInt - (mz_gI q3540.2 18 x1.toNatClampNeg).toInt := ti_sub (by omega) (by omega)) | (have a3571 := ti_rg ((mz_gI q3540.2 18 (x1 + (1 : Int32)).toNatClampNeg) - (mz_gI q3540.2 18 x1.toNatClampNeg)))
                  have l3572 : ((3 : Int32)).toInt = 3 := rfl
                  first | (have a3573 : (x2 - (3 : Int32)).toInt = (x2).toInt - ((3 : Int32)).toInt := ti_sub (by omega) (by omega)) | (have a3574 := ti_rg (x2 - (3 : Int32)))
                  refine Tp_so ?_
                  have l3575 : ((-1 : Int32)).toInt = -1 := rfl
                  exact ci3542
                · have g3576 := ti_ne h3566
                  have b3577 := MI_g8 ci3542 (c := 18) (p := (x1 + (1 : Int32)).toNatClampNeg) rfl
                  have b3578 := MI_g8 ci3542 (c := 18) (p := x1.toNatClampNeg) rfl
                  first | (have a3579 : ((mz_gI q3540.2 18 (x1 + (1 : Int32)).toNatClampNeg) - (mz_gI q3540.2 18 x1.toNatClampNeg)).toInt = (mz_gI q3540.2 18 (x1 + (1 : Int32)).toNatClampNeg).toInt - (mz_gI q3540.2 18 x1.toNatClampNeg).toInt := ti_sub (by omega) (by omega)) | (have a3580 := ti_rg ((mz_gI q3540.2 18 (x1 + (1 : Int32)).toNatClampNeg) - (mz_gI q3540.2 18 x1.toNatClampNeg)))
                  have l3581 : ((3 : Int32)).toInt = 3 := rfl
                  first | (have a3582 : (x2 - (3 : Int32)).toInt = (x2).toInt - ((3 : Int32)).toInt := ti_sub (by omega) (by omega)) | (have a3583 := ti_rg (x2 - (3 : Int32)))
                  refine Tp_gd (ti_ix (by omega) (by omega)) ?_
                  first | (have a3584 : ((mz_gI q3540.2 18 x1.toNatClampNeg) + x2).toInt = (mz_gI q3540.2 18 x1.toNatClampNeg).toInt + (x2).toInt := ti_add (by omega) (by omega)) | (have a3585 := ti_rg ((mz_gI q3540.2 18 x1.toNatClampNeg) + x2))
                  first | (have a3586 : (((mz_gI q3540.2 18 x1.toNatClampNeg) + x2) - (3 : Int32)).toInt = ((mz_gI q3540.2 18 x1.toNatClampNeg) + x2).toInt - ((3 : Int32)).toInt := ti_sub (by omega) (by omega)) | (have a3587 := ti_rg (((mz_gI q3540.2 18 x1.toNatClampNeg) + x2) - (3 : Int32)))
                  refine Tp_gd (ti_ix (by omega) (by omega)) ?_
                  refine Tp_so ?_
                  have i3588 := ti_rg (mz_gI q3540.2 21 (((mz_gI q3540.2 18 x1.toNatClampNeg) + x2) - (3 : Int32)).toNatClampNeg)
                  exact ci3542
        · have g3589 := ti_nq h3544
          have i3590 := ti_rg q3540.1
          refine Tp_so ?_
          exact ci3542
  · have g3591 := ti_nq h3424
    have i3592 := ti_rg q3411.1
    have l3593 : (0 : Int32).toInt = 0 := rfl
    unfold f_MO_line_22
    refine Tp_if (fun h3594 => ?_) (fun h3594 => ?_)
    · have g3595 := ti_q h3594
      unfold f_MO_line_34
      unfold f_MO_line_35
      refine Tp_bi (s_MO_refuse hn ci  (t := t) (x1 := (0 : Int32)) (x2 := (0 : Int32))) (fun q3596 h3597 => ?_)
      obtain ⟨ci3598, p3599⟩ := h3597
      refine Tp_if (fun h3600 => ?_) (fun h3600 => ?_)
      · have g3601 := ti_q h3600
        have i3602 := ti_rg q3596.1
        first | (have a3603 : (x1 + (1 : Int32)).toInt = (x1).toInt + ((1 : Int32)).toInt := ti_add (by omega) (by omega)) | (have a3604 := ti_rg (x1 + (1 : Int32)))
        refine Tp_gd (ti_ix (by omega) (by omega)) ?_
        refine Tp_gd (ti_ix (by omega) (by omega)) ?_
        refine Tp_if (fun h3605 => ?_) (fun h3605 => ?_)
        · have g3606 := ti_q h3605
          have i3607 := ti_rg x2
          refine Tp_so ?_
          have b3608 := MI_g8 ci3598 (c := 18) (p := (x1 + (1 : Int32)).toNatClampNeg) rfl
          have b3609 := MI_g8 ci3598 (c := 18) (p := x1.toNatClampNeg) rfl
          first | (have a3610 : ((mz_gI q3596.2 18 (x1 + (1 : Int32)).toNatClampNeg) - (mz_gI q3596.2 18 x1.toNatClampNeg)).toInt = (mz_gI q3596.2 18 (x1 + (1 : Int32)).toNatClampNeg).toInt - (mz_gI q3596.2 18 x1.toNatClampNeg).toInt := ti_sub (by omega) (by omega)) | (have a3611 := ti_rg ((mz_gI q3596.2 18 (x1 + (1 : Int32)).toNatClampNeg) - (mz_gI q3596.2 18 x1.toNatClampNeg)))
          exact ci3598
        · have g3612 := ti_nq h3605
          have i3613 := ti_rg x2
          refine Tp_if (fun h3614 => ?_) (fun h3614 => ?_)
          · have g3615 := ti_q h3614
            refine Tp_gd (ti_ix (by omega) (by omega)) ?_
            refine Tp_so ?_
            have i3616 := ti_rg (mz_gI q3596.2 19 x1.toNatClampNeg)
            exact ci3598
          · have g3617 := ti_nq h3614
            refine Tp_if (fun h3618 => ?_) (fun h3618 => ?_)
            · have g3619 := ti_q h3618
              have l3620 : ((2 : Int32)).toInt = 2 := rfl
              refine Tp_gd (ti_ix (by omega) (by omega)) ?_
              refine Tp_so ?_
              have i3621 := ti_rg (mz_gI q3596.2 20 x1.toNatClampNeg)
              exact ci3598
            · have g3622 := ti_nq h3618
              have l3623 : ((2 : Int32)).toInt = 2 := rfl
              refine Tp_if (fun h3624 => ?_) (fun h3624 => ?_)
              · have g3625 := ti_e h3624
                have b3626 := MI_g8 ci3598 (c := 18) (p := (x1 + (1 : Int32)).toNatClampNeg) rfl
                have b3627 := MI_g8 ci3598 (c := 18) (p := x1.toNatClampNeg) rfl
                first | (have a3628 : ((mz_gI q3596.2 18 (x1 + (1 : Int32)).toNatClampNeg) - (mz_gI q3596.2 18 x1.toNatClampNeg)).toInt = (mz_gI q3596.2 18 (x1 + (1 : Int32)).toNatClampNeg).toInt - (mz_gI q3596.2 18 x1.toNatClampNeg).toInt := ti_sub (by omega) (by omega)) | (have a3629 := ti_rg ((mz_gI q3596.2 18 (x1 + (1 : Int32)).toNatClampNeg) - (mz_gI q3596.2 18 x1.toNatClampNeg)))
                have l3630 : ((3 : Int32)).toInt = 3 := rfl
                first | (have a3631 : (x2 - (3 : Int32)).toInt = (x2).toInt - ((3 : Int32)).toInt := ti_sub (by omega) (by omega)) | (have a3632 := ti_rg (x2 - (3 : Int32)))
                refine Tp_so ?_
                have l3633 : ((-1 : Int32)).toInt = -1 := rfl
                exact ci3598
              · have g3634 := ti_ne h3624
                have b3635 := MI_g8 ci3598 (c := 18) (p := (x1 + (1 : Int32)).toNatClampNeg) rfl
                have b3636 := MI_g8 ci3598 (c := 18) (p := x1.toNatClampNeg) rfl
                first | (have a3637 : ((mz_gI q3596.2 18 (x1 + (1 : Int32)).toNatClampNeg) - (mz_gI q3596.2 18 x1.toNatClampNeg)).toInt = (mz_gI q3596.2 18 (x1 + (1 : Int32)).toNatClampNeg).toInt - (mz_gI q3596.2 18 x1.toNatClampNeg).toInt := ti_sub (by omega) (by omega)) | (have a3638 := ti_rg ((mz_gI q3596.2 18 (x1 + (1 : Int32)).toNatClampNeg) - (mz_gI q3596.2 18 x1.toNatClampNeg)))
                have l3639 : ((3 : Int32)).toInt = 3 := rfl
                first | (have a3640 : (x2 - (3 : Int32)).toInt = (x2).toInt - ((3 : Int32)).toInt := ti_sub (by omega) (by omega)) | (have a3641 := ti_rg (x2 - (3 : Int32)))
                refine Tp_gd (ti_ix (by omega) (by omega)) ?_
                first | (have a3642 : ((mz_gI q3596.2 18 x1.toNatClampNeg) + x2).toInt = (mz_gI q3596.2 18 x1.toNatClampNeg).toInt + (x2).toInt := ti_add (by omega) (by omega)) | (have a3643 := ti_rg ((mz_gI q3596.2 18 x1.toNatClampNeg) + x2))
                first | (have a3644 : (((mz_gI q3596.2 18 x1.toNatClampNeg) + x2) - (3 : Int32)).toInt = ((mz_gI q3596.2 18 x1.toNatClampNeg) + x2).toInt - ((3 : Int32)).toInt := ti_sub (by omega) (by omega)) | (have a3645 := ti_rg (((mz_gI q3596.2 18 x1.toNatClampNeg) + x2) - (3 : Int32)))
                refine Tp_gd (ti_ix (by omega) (by omega)) ?_
                refine Tp_so ?_
                have i3646 := ti_rg (mz_gI q3596.2 21 (((mz_gI q3596.2 18 x1.toNatClampNeg) + x2) - (3 : Int32)).toNatClampNeg)
                exact ci3598
      · have g3647 := ti_nq h3600
        have i3648 := ti_rg q3596.1
        refine Tp_so ?_
        exact ci3598
    · have g3649 := ti_nq h3594
      refine Tp_if (fun h3650 => ?_) (fun h3650 => ?_)
      · have g3651 := ti_e h3650
        have i3652 := ti_rg x2
        unfold f_MO_line_34
        unfold f_MO_line_35
        refine Tp_bi (s_MO_refuse hn ci  (t := t) (x1 := (0 : Int32)) (x2 := (0 : Int32))) (fun q3653 h3654 => ?_)
        obtain ⟨ci3655, p3656⟩ := h3654
        refine Tp_if (fun h3657 => ?_) (fun h3657 => ?_)
        · have g3658 := ti_q h3657
          have i3659 := ti_rg q3653.1
          first | (have a3660 : (x1 + (1 : Int32)).toInt = (x1).toInt + ((1 : Int32)).toInt := ti_add (by omega) (by omega)) | (have a3661 := ti_rg (x1 + (1 : Int32)))
          refine Tp_gd (ti_ix (by omega) (by omega)) ?_
          refine Tp_gd (ti_ix (by omega) (by omega)) ?_
          refine Tp_if (fun h3662 => ?_) (fun h3662 => ?_)
          · have g3663 := ti_q h3662
            refine Tp_so ?_
            have b3664 := MI_g8 ci3655 (c := 18) (p := (x1 + (1 : Int32)).toNatClampNeg) rfl
            have b3665 := MI_g8 ci3655 (c := 18) (p := x1.toNatClampNeg) rfl
            first | (have a3666 : ((mz_gI q3653.2 18 (x1 + (1 : Int32)).toNatClampNeg) - (mz_gI q3653.2 18 x1.toNatClampNeg)).toInt = (mz_gI q3653.2 18 (x1 + (1 : Int32)).toNatClampNeg).toInt - (mz_gI q3653.2 18 x1.toNatClampNeg).toInt := ti_sub (by omega) (by omega)) | (have a3667 := ti_rg ((mz_gI q3653.2 18 (x1 + (1 : Int32)).toNatClampNeg) - (mz_gI q3653.2 18 x1.toNatClampNeg)))
            exact ci3655
          · have g3668 := ti_nq h3662
            refine Tp_if (fun h3669 => ?_) (fun h3669 => ?_)
            · have g3670 := ti_q h3669
              refine Tp_gd (ti_ix (by omega) (by omega)) ?_
              refine Tp_so ?_
              have i3671 := ti_rg (mz_gI q3653.2 19 x1.toNatClampNeg)
              exact ci3655
            · have g3672 := ti_nq h3669
              refine Tp_if (fun h3673 => ?_) (fun h3673 => ?_)
              · have g3674 := ti_q h3673
                have l3675 : ((2 : Int32)).toInt = 2 := rfl
                refine Tp_gd (ti_ix (by omega) (by omega)) ?_
                refine Tp_so ?_
                have i3676 := ti_rg (mz_gI q3653.2 20 x1.toNatClampNeg)
                exact ci3655
              · have g3677 := ti_nq h3673
                have l3678 : ((2 : Int32)).toInt = 2 := rfl
                refine Tp_if (fun h3679 => ?_) (fun h3679 => ?_)
                · have g3680 := ti_e h3679
                  have b3681 := MI_g8 ci3655 (c := 18) (p := (x1 + (1 : Int32)).toNatClampNeg) rfl
                  have b3682 := MI_g8 ci3655 (c := 18) (p := x1.toNatClampNeg) rfl
                  first | (have a3683 : ((mz_gI q3653.2 18 (x1 + (1 : Int32)).toNatClampNeg) - (mz_gI q3653.2 18 x1.toNatClampNeg)).toInt = (mz_gI q3653.2 18 (x1 + (1 : Int32)).toNatClampNeg).toInt - (mz_gI q3653.2 18 x1.toNatClampNeg).toInt := ti_sub (by omega) (by omega)) | (have a3684 := ti_rg ((mz_gI q3653.2 18 (x1 + (1 : Int32)).toNatClampNeg) - (mz_gI q3653.2 18 x1.toNatClampNeg)))
                  have l3685 : ((3 : Int32)).toInt = 3 := rfl
                  first | (have a3686 : (x2 - (3 : Int32)).toInt = (x2).toInt - ((3 : Int32)).toInt := ti_sub (by omega) (by omega)) | (have a3687 := ti_rg (x2 - (3 : Int32)))
                  refine Tp_so ?_
                  have l3688 : ((-1 : Int32)).toInt = -1 := rfl
                  exact ci3655
                · have g3689 := ti_ne h3679
                  have b3690 := MI_g8 ci3655 (c := 18) (p := (x1 + (1 : Int32)).toNatClampNeg) rfl
                  have b3691 := MI_g8 ci3655 (c := 18) (p := x1.toNatClampNeg) rfl
                  first | (have a3692 : ((mz_gI q3653.2 18 (x1 + (1 : Int32)).toNatClampNeg) - (mz_gI q3653.2 18 x1.toNatClampNeg)).toInt = (mz_gI q3653.2 18 (x1 + (1 : Int32)).toNatClampNeg).toInt - (mz_gI q3653.2 18 x1.toNatClampNeg).toInt := ti_sub (by omega) (by omega)) | (have a3693 := ti_rg ((mz_gI q3653.2 18 (x1 + (1 : Int32)).toNatClampNeg) - (mz_gI q3653.2 18 x1.toNatClampNeg)))
                  have l3694 : ((3 : Int32)).toInt = 3 := rfl
                  first | (have a3695 : (x2 - (3 : Int32)).toInt = (x2).toInt - ((3 : Int32)).toInt := ti_sub (by omega) (by omega)) | (have a3696 := ti_rg (x2 - (3 : Int32)))
                  refine Tp_gd (ti_ix (by omega) (by omega)) ?_
                  first | (have a3697 : ((mz_gI q3653.2 18 x1.toNatClampNeg) + x2).toInt = (mz_gI q3653.2 18 x1.toNatClampNeg).toInt + (x2).toInt := ti_add (by omega) (by omega)) | (have a3698 := ti_rg ((mz_gI q3653.2 18 x1.toNatClampNeg) + x2))
                  first | (have a3699 : (((mz_gI q3653.2 18 x1.toNatClampNeg) + x2) - (3 : Int32)).toInt = ((mz_gI q3653.2 18 x1.toNatClampNeg) + x2).toInt - ((3 : Int32)).toInt := ti_sub (by omega) (by omega)) | (have a3700 := ti_rg (((mz_gI q3653.2 18 x1.toNatClampNeg) + x2) - (3 : Int32)))
                  refine Tp_gd (ti_ix (by omega) (by omega)) ?_
                  refine Tp_so ?_
                  have i3701 := ti_rg (mz_gI q3653.2 21 (((mz_gI q3653.2 18 x1.toNatClampNeg) + x2) - (3 : Int32)).toNatClampNeg)
                  exact ci3655
        · have g3702 := ti_nq h3657
          have i3703 := ti_rg q3653.1
          refine Tp_so ?_
          exact ci3655
      · have g3704 := ti_ne h3650
        have i3705 := ti_rg x2
        unfold f_MO_line_35
        refine Tp_bi (s_MO_refuse hn ci  (t := t) (x1 := (0 : Int32)) (x2 := (1 : Int32))) (fun q3706 h3707 => ?_)
        obtain ⟨ci3708, p3709⟩ := h3707
        refine Tp_if (fun h3710 => ?_) (fun h3710 => ?_)
        · have g3711 := ti_q h3710
          have i3712 := ti_rg q3706.1
          first | (have a3713 : (x1 + (1 : Int32)).toInt = (x1).toInt + ((1 : Int32)).toInt := ti_add (by omega) (by omega)) | (have a3714 := ti_rg (x1 + (1 : Int32)))
          refine Tp_gd (ti_ix (by omega) (by omega)) ?_
          refine Tp_gd (ti_ix (by omega) (by omega)) ?_
          refine Tp_if (fun h3715 => ?_) (fun h3715 => ?_)
          · have g3716 := ti_q h3715
            refine Tp_so ?_
            have b3717 := MI_g8 ci3708 (c := 18) (p := (x1 + (1 : Int32)).toNatClampNeg) rfl
            have b3718 := MI_g8 ci3708 (c := 18) (p := x1.toNatClampNeg) rfl
            first | (have a3719 : ((mz_gI q3706.2 18 (x1 + (1 : Int32)).toNatClampNeg) - (mz_gI q3706.2 18 x1.toNatClampNeg)).toInt = (mz_gI q3706.2 18 (x1 + (1 : Int32)).toNatClampNeg).toInt - (mz_gI q3706.2 18 x1.toNatClampNeg).toInt := ti_sub (by omega) (by omega)) | (have a3720 := ti_rg ((mz_gI q3706.2 18 (x1 + (1 : Int32)).toNatClampNeg) - (mz_gI q3706.2 18 x1.toNatClampNeg)))
            exact ci3708
          · have g3721 := ti_nq h3715
            refine Tp_if (fun h3722 => ?_) (fun h3722 => ?_)
            · have g3723 := ti_q h3722
              refine Tp_gd (ti_ix (by omega) (by omega)) ?_
              refine Tp_so ?_
              have i3724 := ti_rg (mz_gI q3706.2 19 x1.toNatClampNeg)
              exact ci3708
            · have g3725 := ti_nq h3722
              refine Tp_if (fun h3726 => ?_) (fun h3726 => ?_)
              · have g3727 := ti_q h3726
                have l3728 : ((2 : Int32)).toInt = 2 := rfl
                refine Tp_gd (ti_ix (by omega) (by omega)) ?_
                refine Tp_so ?_
                have i3729 := ti_rg (mz_gI q3706.2 20 x1.toNatClampNeg)
                exact ci3708
              · have g3730 := ti_nq h3726
                have l3731 : ((2 : Int32)).toInt = 2 := rfl
                refine Tp_if (fun h3732 => ?_) (fun h3732 => ?_)
                · have g3733 := ti_e h3732
                  have b3734 := MI_g8 ci3708 (c := 18) (p := (x1 + (1 : Int32)).toNatClampNeg) rfl
                  have b3735 := MI_g8 ci3708 (c := 18) (p := x1.toNatClampNeg) rfl
                  first | (have a3736 : ((mz_gI q3706.2 18 (x1 + (1 : Int32)).toNatClampNeg) - (mz_gI q3706.2 18 x1.toNatClampNeg)).toInt = (mz_gI q3706.2 18 (x1 + (1 : Int32)).toNatClampNeg).toInt - (mz_gI q3706.2 18 x1.toNatClampNeg).toInt := ti_sub (by omega) (by omega)) | (have a3737 := ti_rg ((mz_gI q3706.2 18 (x1 + (1 : Int32)).toNatClampNeg) - (mz_gI q3706.2 18 x1.toNatClampNeg)))
                  have l3738 : ((3 : Int32)).toInt = 3 := rfl
                  first | (have a3739 : (x2 - (3 : Int32)).toInt = (x2).toInt - ((3 : Int32)).toInt := ti_sub (by omega) (by omega)) | (have a3740 := ti_rg (x2 - (3 : Int32)))
                  refine Tp_so ?_
                  have l3741 : ((-1 : Int32)).toInt = -1 := rfl
                  exact ci3708
                · have g3742 := ti_ne h3732
                  have b3743 := MI_g8 ci3708 (c := 18) (p := (x1 + (1 : Int32)).toNatClampNeg) rfl
                  have b3744 := MI_g8 ci3708 (c := 18) (p := x1.toNatClampNeg) rfl
                  first | (have a3745 : ((mz_gI q3706.2 18 (x1 + (1 : Int32)).toNatClampNeg) - (mz_gI q3706.2 18 x1.toNatClampNeg)).toInt = (mz_gI q3706.2 18 (x1 + (1 : Int32)).toNatClampNeg).toInt - (mz_gI q3706.2 18 x1.toNatClampNeg).toInt := ti_sub (by omega) (by omega)) | (have a3746 := ti_rg ((mz_gI q3706.2 18 (x1 + (1 : Int32)).toNatClampNeg) - (mz_gI q3706.2 18 x1.toNatClampNeg)))
                  have l3747 : ((3 : Int32)).toInt = 3 := rfl
                  first | (have a3748 : (x2 - (3 : Int32)).toInt = (x2).toInt - ((3 : Int32)).toInt := ti_sub (by omega) (by omega)) | (have a3749 := ti_rg (x2 - (3 : Int32)))
                  refine Tp_gd (ti_ix (by omega) (by omega)) ?_
                  first | (have a3750 : ((mz_gI q3706.2 18 x1.toNatClampNeg) + x2).toInt = (mz_gI q3706.2 18 x1.toNatClampNeg).toInt + (x2).toInt := ti_add (by omega) (by omega)) | (have a3751 := ti_rg ((mz_gI q3706.2 18 x1.toNatClampNeg) + x2))
                  first | (have a3752 : (((mz_gI q3706.2 18 x1.toNatClampNeg) + x2) - (3 : Int32)).toInt = ((mz_gI q3706.2 18 x1.toNatClampNeg) + x2).toInt - ((3 : Int32)).toInt := ti_sub (by omega) (by omega)) | (have a3753 := ti_rg (((mz_gI q3706.2 18 x1.toNatClampNeg) + x2) - (3 : Int32)))
                  refine Tp_gd (ti_ix (by omega) (by omega)) ?_
                  refine Tp_so ?_
                  have i3754 := ti_rg (mz_gI q3706.2 21 (((mz_gI q3706.2 18 x1.toNatClampNeg) + x2) - (3 : Int32)).toNatClampNeg)
                  exact ci3708
        · have g3755 := ti_nq h3710
          have i3756 := ti_rg q3706.1
          refine Tp_so ?_
          exact ci3708
