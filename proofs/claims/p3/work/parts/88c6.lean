/-! TOTAL: written by vcg.py -/
set_option maxRecDepth 4000 in
set_option maxHeartbeats 8000000 in
theorem s_EX_openMacro {n : Nat} {L : Int32} (hn : 8589934592 ≤ n) {x1 : Int32} {t : mz_St}  (ci : CI L t)  : Tp (f_EX_openMacro n x1 t) (fun r => CI L r) := by
  unfold f_EX_openMacro
  refine Tp_bi (s_SK_spare hn ci  (t := t)) (fun q5717 h5718 => ?_)
  obtain ⟨ci5719, E5720, p5721⟩ := h5718
  try rw [E5720]
  refine Tp_gd (by omega) ?_
  have i5724 := ti_rg x1
  refine Tp_bi (s_MA_firstLineOf hn ci  (t := t) (x1 := x1)) (fun q5722 h5723 => ?_)
  obtain ⟨ci5725, E5726⟩ := h5723
  try rw [E5726]
  refine Tp_bi (s_MA_linesOf hn ci  (t := t) (x1 := x1)) (fun q5727 h5728 => ?_)
  obtain ⟨ci5729, E5730⟩ := h5728
  try rw [E5730]
  have l5733 : ((9 : Int32)).toInt = 9 := rfl
  have i5734 := ti_rg q5722.1
  have i5735 := ti_rg q5727.1
  first | (have a5736 : (q5722.1 + q5727.1).toInt = (q5722.1).toInt + (q5727.1).toInt := ti_add (by omega) (by omega)) | (have a5737 := ti_rg (q5722.1 + q5727.1))
  have l5738 : ((1 : Int32)).toInt = 1 := rfl
  have i5739 := ti_rg (mz_gI t 7 5)
  refine Tp_bi (s_FR_begin hn ci (by omega) (by omega) (by omega) (t := t) (x0 := q5717.1) (x1 := (9 : Int32)) (x2 := q5722.1) (x3 := q5722.1 + q5727.1) (x4 := (1 : Int32)) (x5 := mz_gI t 7 5)) (fun q5731 h5732 => ?_)
  have ci5740 := h5732
  refine Tp_le (fun t5741 E5742 => ?_)
  have ci5743 := CI_p0 ci5740 E5742 (bxK_f1 (by omega) (by decide) (by decide))
  have i5746 := ti_rg (mz_gI t5741 5 10)
  have e5747 : (mz_gI t5741 5 10).toInt = (mz_gI q5731 5 10).toInt := by rw [E5742, gI_oth _ _ (by simp)]
  have i5748 := ti_rg (mz_gI q5731 5 10)
  refine Tp_le (fun t5744 E5745 => ?_)
  have ci5749 := CI_p0 ci5743 E5745 (bxK_f1 (by omega) (by decide) (by decide))
  have i5752 := ti_rg (mz_gI t5744 5 11)
  have e5753 : (mz_gI t5744 5 11).toInt = (mz_gI t5741 5 11).toInt := by rw [E5745, gI_oth _ _ (by simp)]
  have i5754 := ti_rg (mz_gI t5741 5 11)
  have e5755 : (mz_gI t5741 5 11).toInt = (mz_gI q5731 5 11).toInt := by rw [E5742, gI_oth _ _ (by simp)]
  have i5756 := ti_rg (mz_gI q5731 5 11)
  refine Tp_bi (s_SK_open hn ci5749  (t := t5744) (x1 := mz_gI t5744 5 11)) (fun q5750 h5751 => ?_)
  obtain ⟨ci5757, p5758, p5759⟩ := h5751
  refine Tp_if (fun h5760 => ?_) (fun h5760 => ?_)
  · have g5761 := ti_q h5760
    have i5762 := ti_rg q5750.1
    have l5763 : (0 : Int32).toInt = 0 := rfl
    have l5766 : ((6 : Int32)).toInt = 6 := rfl
    refine Tp_bi (s_EX_fail hn ci5757  (t := q5750.2) (x1 := (6 : Int32))) (fun q5764 h5765 => ?_)
    obtain ⟨ci5767, p5768⟩ := h5765
    refine Tp_so ?_
    exact ci5767
  · have g5769 := ti_nq h5760
    have i5770 := ti_rg q5750.1
    have l5771 : (0 : Int32).toInt = 0 := rfl
    have i5774 := ti_rg (mz_gI q5750.2 5 10)
    first | (have a5775 : ((mz_gI q5750.2 5 10) + (1 : Int32)).toInt = (mz_gI q5750.2 5 10).toInt + ((1 : Int32)).toInt := ti_add (by omega) (by omega)) | (have a5776 := ti_rg ((mz_gI q5750.2 5 10) + (1 : Int32)))
    refine Tp_le (fun t5772 E5773 => ?_)
    have ci5777 := CI_p0 ci5757 E5773 rfl
    refine Tp_bi (s_MA_countCall hn ci5777  (t := t5772) (x1 := x1)) (fun q5778 h5779 => ?_)
    have ci5780 := h5779
    refine Tp_so ?_
    exact ci5780
set_option maxRecDepth 4000 in
set_option maxHeartbeats 8000000 in
theorem s_EX_callOrGiveOut {n : Nat} {L : Int32} (hn : 8589934592 ≤ n) {t : mz_St}  (ci : CI L t)  : Tp (f_EX_callOrGiveOut n t) (fun r => CI L r) := by
  unfold f_EX_callOrGiveOut
  refine Tp_if (fun h5781 => ?_) (fun h5781 => ?_)
  · have g5782 := ti_l h5781
    have b5783 := CI_g14 ci (c := 5) (p := 12) rfl
    have b5784 := CI_g14 ci (c := 5) (p := 13) rfl
    refine Tp_bi (s_SI_wordEnd hn ci  (t := t) (x1 := mz_gI t 5 12) (x2 := mz_gI t 5 13)) (fun q5785 h5786 => ?_)
    obtain ⟨ci5787, E5788, p5789, p5790⟩ := h5786
    try rw [E5788]
    have i5793 := ti_rg q5785.1
    refine Tp_bi (s_NA_find_m hn ci  (t := t) (x1 := mz_gI t 5 12) (x2 := q5785.1)) (fun q5791 h5792 => ?_)
    obtain ⟨ci5794, E5795, p5796, p5797⟩ := h5792
    try rw [E5795]
    refine Tp_if (fun h5798 => ?_) (fun h5798 => ?_)
    · have g5799 := ti_q h5798
      have i5800 := ti_rg q5791.1
      have l5801 : ((-1 : Int32)).toInt = -1 := rfl
      refine Tp_bi (s_EX_toldLine hn ci  (t := t)) (fun q5802 h5803 => ?_)
      obtain ⟨ci5804, E5805⟩ := h5803
      try rw [E5805]
      have i5808 := ti_rg q5802.1
      have b5809 := CI_g10 ci (c := 30) (p := 4) rfl
      refine Tp_bi (s_OU_add hn ci  (t := t) (x2 := mz_gI t 5 12) (x3 := mz_gI t 5 13) (x4 := q5802.1) (x5 := mz_gI t 30 4)) (fun q5806 h5807 => ?_)
      obtain ⟨ci5810, p5811, p5812⟩ := h5807
      refine Tp_if (fun h5813 => ?_) (fun h5813 => ?_)
      · have g5814 := ti_q h5813
        have i5815 := ti_rg q5806.1
        have l5816 : (0 : Int32).toInt = 0 := rfl
        have l5819 : ((6 : Int32)).toInt = 6 := rfl
        refine Tp_bi (s_EX_fail hn ci5810  (t := q5806.2) (x1 := (6 : Int32))) (fun q5817 h5818 => ?_)
        obtain ⟨ci5820, p5821⟩ := h5818
        refine Tp_so ?_
        exact ci5820
      · have g5822 := ti_nq h5813
        have i5823 := ti_rg q5806.1
        have l5824 : (0 : Int32).toInt = 0 := rfl
        refine Tp_so ?_
        exact ci5810
    · have g5825 := ti_nq h5798
      have i5826 := ti_rg q5791.1
      have l5827 : ((-1 : Int32)).toInt = -1 := rfl
      refine Tp_bi (s_SK_readArguments hn ci (by omega) (by omega) (by omega) (by omega) (t := t) (x1 := q5791.1) (x2 := q5785.1) (x3 := mz_gI t 5 13)) (fun q5828 h5829 => ?_)
      obtain ⟨ci5830, p5831, p5832⟩ := h5829
      refine Tp_if (fun h5833 => ?_) (fun h5833 => ?_)
      · have g5834 := ti_q h5833
        have i5835 := ti_rg q5828.1
        have l5836 : (0 : Int32).toInt = 0 := rfl
        have l5839 : ((1 : Int32)).toInt = 1 := rfl
        refine Tp_bi (s_EX_fail hn ci5830  (t := q5828.2) (x1 := (1 : Int32))) (fun q5837 h5838 => ?_)
        obtain ⟨ci5840, p5841⟩ := h5838
        refine Tp_so ?_
        exact ci5840
      · have g5842 := ti_nq h5833
        have i5843 := ti_rg q5828.1
        have l5844 : (0 : Int32).toInt = 0 := rfl
        refine Tp_bi (s_EX_openMacro hn ci5830  (t := q5828.2) (x1 := q5791.1)) (fun q5845 h5846 => ?_)
        have ci5847 := h5846
        refine Tp_so ?_
        exact ci5847
  · have g5848 := ti_nl h5781
    have b5849 := CI_g14 ci (c := 5) (p := 12) rfl
    have b5850 := CI_g14 ci (c := 5) (p := 13) rfl
    refine Tp_so ?_
    exact ci
set_option maxRecDepth 4000 in
set_option maxHeartbeats 8000000 in
theorem s_EX_isValueGood {n : Nat} {L : Int32} (hn : 8589934592 ≤ n) {t : mz_St}  (ci : CI L t)  : Tp (f_EX_isValueGood n t) (fun r => CI L r.2 ∧ 0 ≤ (r.1).toInt ∧ (r.1).toInt ≤ 1) := by
  unfold f_EX_isValueGood
  refine Tp_if (fun h5851 => ?_) (fun h5851 => ?_)
  · have g5852 := ti_q h5851
    have b5853 := CI_g2 ci (c := 6) (p := 6) rfl
    have l5854 : (0 : Int32).toInt = 0 := rfl
    refine Tp_bi (s_RE_isDone hn ci  (t := t)) (fun q5855 h5856 => ?_)
    obtain ⟨ci5857, p5858, p5859⟩ := h5856
    refine Tp_if (fun h5860 => ?_) (fun h5860 => ?_)
    · have g5861 := ti_q h5860
      have i5862 := ti_rg q5855.1
      unfold f_EX_isValueGood_20
      have l5865 : ((1 : Int32)).toInt = 1 := rfl
      refine Tp_bi (s_EX_fail hn ci5857  (t := q5855.2) (x1 := (1 : Int32))) (fun q5863 h5864 => ?_)
      obtain ⟨ci5866, p5867⟩ := h5864
      have i5868 := ti_rg q5863.1
      refine Tp_gd (ti_b (by omega) (by omega)) ?_
      refine Tp_so ?_
      refine ⟨ci5866, ?_, ?_⟩
      · (try dsimp only) <;> first | omega | assumption
      · (try dsimp only) <;> first | omega | assumption
    · have g5869 := ti_nq h5860
      have i5870 := ti_rg q5855.1
      refine Tp_if (fun h5871 => ?_) (fun h5871 => ?_)
      · have g5872 := ti_q h5871
        have i5873 := ti_rg (mz_gI q5855.2 6 7)
        unfold f_EX_isValueGood_50
        refine Tp_so ?_
        have l5874 : ((1 : Int32)).toInt = 1 := rfl
        refine ⟨ci5857, ?_, ?_⟩
        · (try dsimp only) <;> first | omega | assumption
        · (try dsimp only) <;> first | omega | assumption
      · have g5875 := ti_nq h5871
        have i5876 := ti_rg (mz_gI q5855.2 6 7)
        refine Tp_bi (s_EX_fail hn ci5857  (t := q5855.2) (x1 := mz_gI q5855.2 6 7)) (fun q5877 h5878 => ?_)
        obtain ⟨ci5879, p5880⟩ := h5878
        refine Tp_if (fun h5881 => ?_) (fun h5881 => ?_)
        · have g5882 := ti_q h5881
          have i5883 := ti_rg q5877.1
          refine Tp_so ?_
          have l5884 : ((0 : Int32)).toInt = 0 := rfl
          refine ⟨ci5879, ?_, ?_⟩
          · (try dsimp only) <;> first | omega | assumption
          · (try dsimp only) <;> first | omega | assumption
        · have g5885 := ti_nq h5881
          have i5886 := ti_rg q5877.1
          unfold f_EX_isValueGood_50
          refine Tp_so ?_
          have l5887 : ((1 : Int32)).toInt = 1 := rfl
          refine ⟨ci5879, ?_, ?_⟩
          · (try dsimp only) <;> first | omega | assumption
          · (try dsimp only) <;> first | omega | assumption
  · have g5888 := ti_nq h5851
    have b5889 := CI_g2 ci (c := 6) (p := 6) rfl
    have l5890 : (0 : Int32).toInt = 0 := rfl
    unfold f_EX_isValueGood_20
    have l5893 : ((1 : Int32)).toInt = 1 := rfl
    refine Tp_bi (s_EX_fail hn ci  (t := t) (x1 := (1 : Int32))) (fun q5891 h5892 => ?_)
    obtain ⟨ci5894, p5895⟩ := h5892
    have i5896 := ti_rg q5891.1
    refine Tp_gd (ti_b (by omega) (by omega)) ?_
    refine Tp_so ?_
    refine ⟨ci5894, ?_, ?_⟩
    · (try dsimp only) <;> first | omega | assumption
    · (try dsimp only) <;> first | omega | assumption
set_option maxRecDepth 4000 in
set_option maxHeartbeats 8000000 in
theorem s_EX_setConstant {n : Nat} {L : Int32} (hn : 8589934592 ≤ n) {t : mz_St}  (ci : CI L t)  : Tp (f_EX_setConstant n t) (fun r => CI L r) := by
  unfold f_EX_setConstant
  refine Tp_bi (s_RE_takeWord hn ci  (t := t)) (fun q5897 h5898 => ?_)
  obtain ⟨ci5899, p5900, p5901⟩ := h5898
  refine Tp_if (fun h5902 => ?_) (fun h5902 => ?_)
  · have g5903 := ti_q h5902
    have i5904 := ti_rg q5897.1
    have l5905 : (0 : Int32).toInt = 0 := rfl
    unfold f_EX_setConstant_22
    have l5908 : ((1 : Int32)).toInt = 1 := rfl
    refine Tp_bi (s_EX_fail hn ci5899  (t := q5897.2) (x1 := (1 : Int32))) (fun q5906 h5907 => ?_)
    obtain ⟨ci5909, p5910⟩ := h5907
    refine Tp_so ?_
    exact ci5909
  · have g5911 := ti_nq h5902
    have i5912 := ti_rg q5897.1
    have l5913 : (0 : Int32).toInt = 0 := rfl
    have l5916 : ((44 : Int32)).toInt = 44 := rfl
    refine Tp_bi (s_RE_take hn ci5899  (t := q5897.2) (x1 := (44 : Int32))) (fun q5914 h5915 => ?_)
    obtain ⟨ci5917, p5918, p5919⟩ := h5915
    refine Tp_if (fun h5920 => ?_) (fun h5920 => ?_)
    · have g5921 := ti_q h5920
      have i5922 := ti_rg q5914.1
      unfold f_EX_setConstant_22
      have l5925 : ((1 : Int32)).toInt = 1 := rfl
      refine Tp_bi (s_EX_fail hn ci5917  (t := q5914.2) (x1 := (1 : Int32))) (fun q5923 h5924 => ?_)
      obtain ⟨ci5926, p5927⟩ := h5924
      refine Tp_so ?_
      exact ci5926
    · have g5928 := ti_nq h5920
      have i5929 := ti_rg q5914.1
      have l5932 : ((0 : Int32)).toInt = 0 := rfl
      refine Tp_bi (s_RE_readValue hn ci5917  (t := q5914.2) (fa := f_RE_factor n 12) (x1 := (0 : Int32)) (hfa := fun t9 c9 => l_RE_factor hn 12 0 t9 c9 (by decide) (by decide) (by decide))) (fun q5930 h5931 => ?_)
      have ci5933 := h5931
      refine Tp_bi (s_EX_isValueGood hn ci5933  (t := q5930.2)) (fun q5934 h5935 => ?_)
      obtain ⟨ci5936, p5937, p5938⟩ := h5935
      refine Tp_if (fun h5939 => ?_) (fun h5939 => ?_)
      · have g5940 := ti_q h5939
        have i5941 := ti_rg q5934.1
        refine Tp_so ?_
        exact ci5936
      · have g5942 := ti_nq h5939
        have i5943 := ti_rg q5934.1
        have b5946 := CI_g1 ci5917 (c := 6) (p := 4) rfl
        have b5947 := CI_g1 ci5917 (c := 6) (p := 5) rfl
        have i5948 := ti_rg q5930.1
        refine Tp_bi (s_CN_set hn ci5936  (t := q5934.2) (x1 := mz_gI q5914.2 6 4) (x2 := mz_gI q5914.2 6 5) (x3 := q5930.1)) (fun q5944 h5945 => ?_)
        obtain ⟨ci5949, p5950, p5951⟩ := h5945
        refine Tp_if (fun h5952 => ?_) (fun h5952 => ?_)
        · have g5953 := ti_q h5952
          have i5954 := ti_rg q5944.1
          have l5957 : ((6 : Int32)).toInt = 6 := rfl
          refine Tp_bi (s_EX_fail hn ci5949  (t := q5944.2) (x1 := (6 : Int32))) (fun q5955 h5956 => ?_)
          obtain ⟨ci5958, p5959⟩ := h5956
          refine Tp_so ?_
          exact ci5958
        · have g5960 := ti_nq h5952
          have i5961 := ti_rg q5944.1
          refine Tp_so ?_
          exact ci5949
set_option maxRecDepth 4000 in
set_option maxHeartbeats 8000000 in
theorem s_EX_forgetConstant {n : Nat} {L : Int32} (hn : 8589934592 ≤ n) {t : mz_St}  (ci : CI L t)  : Tp (f_EX_forgetConstant n t) (fun r => CI L r) := by
  unfold f_EX_forgetConstant
  refine Tp_bi (s_RE_takeWord hn ci  (t := t)) (fun q5962 h5963 => ?_)
  obtain ⟨ci5964, p5965, p5966⟩ := h5963
  refine Tp_if (fun h5967 => ?_) (fun h5967 => ?_)
  · have g5968 := ti_q h5967
    have i5969 := ti_rg q5962.1
    have l5970 : (0 : Int32).toInt = 0 := rfl
    unfold f_EX_forgetConstant_20
    have l5973 : ((1 : Int32)).toInt = 1 := rfl
    refine Tp_bi (s_EX_fail hn ci5964  (t := q5962.2) (x1 := (1 : Int32))) (fun q5971 h5972 => ?_)
    obtain ⟨ci5974, p5975⟩ := h5972
    refine Tp_so ?_
    exact ci5974
  · have g5976 := ti_nq h5967
    have i5977 := ti_rg q5962.1
    have l5978 : (0 : Int32).toInt = 0 := rfl
    refine Tp_bi (s_RE_isDone hn ci5964  (t := q5962.2)) (fun q5979 h5980 => ?_)
    obtain ⟨ci5981, p5982, p5983⟩ := h5980
    refine Tp_if (fun h5984 => ?_) (fun h5984 => ?_)
    · have g5985 := ti_q h5984
      have i5986 := ti_rg q5979.1
      unfold f_EX_forgetConstant_20
      have l5989 : ((1 : Int32)).toInt = 1 := rfl
      refine Tp_bi (s_EX_fail hn ci5981  (t := q5979.2) (x1 := (1 : Int32))) (fun q5987 h5988 => ?_)
      obtain ⟨ci5990, p5991⟩ := h5988
      refine Tp_so ?_
      exact ci5990
    · have g5992 := ti_nq h5984
      have i5993 := ti_rg q5979.1
      have b5996 := CI_g1 ci5981 (c := 6) (p := 4) rfl
      have b5997 := CI_g1 ci5981 (c := 6) (p := 5) rfl
      refine Tp_bi (s_CN_forget hn ci5981  (t := q5979.2) (x1 := mz_gI q5979.2 6 4) (x2 := mz_gI q5979.2 6 5)) (fun q5994 h5995 => ?_)
      obtain ⟨ci5998, p5999, p6000⟩ := h5995
      refine Tp_if (fun h6001 => ?_) (fun h6001 => ?_)
      · have g6002 := ti_q h6001
        have i6003 := ti_rg q5994.1
        have l6006 : ((3 : Int32)).toInt = 3 := rfl
        refine Tp_bi (s_EX_fail hn ci5998  (t := q5994.2) (x1 := (3 : Int32))) (fun q6004 h6005 => ?_)
        obtain ⟨ci6007, p6008⟩ := h6005
        refine Tp_so ?_
        exact ci6007
      · have g6009 := ti_nq h6001
        have i6010 := ti_rg q5994.1
        refine Tp_so ?_
        exact ci5998
set_option maxRecDepth 4000 in
set_option maxHeartbeats 8000000 in
theorem s_EX_openCondition {n : Nat} {L : Int32} (hn : 8589934592 ≤ n) {x1 : Int32} {x2 : Int32} {t : mz_St}  (ci : CI L t) (i0 : 0 ≤ x1.toInt) (i1 : x1.toInt ≤ 1) (i2 : 0 ≤ x2.toInt) (i3 : x2.toInt ≤ 1) : Tp (f_EX_openCondition n x1 x2 t) (fun r => CI L r) := by
  unfold f_EX_openCondition
  refine Tp_bi (s_EX_toldLine hn ci  (t := t)) (fun q6011 h6012 => ?_)
  obtain ⟨ci6013, E6014⟩ := h6012
  try rw [E6014]
  have i6017 := ti_rg x1
  have i6018 := ti_rg x2
  have i6019 := ti_rg q6011.1
  refine Tp_bi (s_CO_open hn ci (by omega) (by omega) (by omega) (by omega) (t := t) (x1 := x1) (x2 := x2) (x3 := q6011.1)) (fun q6015 h6016 => ?_)
  obtain ⟨ci6020, p6021, p6022⟩ := h6016
  refine Tp_if (fun h6023 => ?_) (fun h6023 => ?_)
  · have g6024 := ti_q h6023
    have i6025 := ti_rg q6015.1
    have l6026 : (0 : Int32).toInt = 0 := rfl
    have l6029 : ((6 : Int32)).toInt = 6 := rfl
    refine Tp_bi (s_EX_fail hn ci6020  (t := q6015.2) (x1 := (6 : Int32))) (fun q6027 h6028 => ?_)
    obtain ⟨ci6030, p6031⟩ := h6028
    refine Tp_so ?_
    exact ci6030
  · have g6032 := ti_nq h6023
    have i6033 := ti_rg q6015.1
    have l6034 : (0 : Int32).toInt = 0 := rfl
    refine Tp_so ?_
    exact ci6020
set_option maxRecDepth 4000 in
set_option maxHeartbeats 8000000 in
theorem s_EX_openIf {n : Nat} {L : Int32} (hn : 8589934592 ≤ n) {t : mz_St}  (ci : CI L t)  : Tp (f_EX_openIf n t) (fun r => CI L r) := by
  unfold f_EX_openIf
  have l6037 : ((0 : Int32)).toInt = 0 := rfl
  refine Tp_bi (s_RE_readValue hn ci  (t := t) (fa := f_RE_factor n 12) (x1 := (0 : Int32)) (hfa := fun t9 c9 => l_RE_factor hn 12 0 t9 c9 (by decide) (by decide) (by decide))) (fun q6035 h6036 => ?_)
  have ci6038 := h6036
  refine Tp_bi (s_EX_isValueGood hn ci6038  (t := q6035.2)) (fun q6039 h6040 => ?_)
  obtain ⟨ci6041, p6042, p6043⟩ := h6040
  refine Tp_if (fun h6044 => ?_) (fun h6044 => ?_)
  · have g6045 := ti_q h6044
    have i6046 := ti_rg q6039.1
    have l6047 : (0 : Int32).toInt = 0 := rfl
    refine Tp_so ?_
    exact ci6041
  · have g6048 := ti_nq h6044
    have i6049 := ti_rg q6039.1
    have l6050 : (0 : Int32).toInt = 0 := rfl
    refine Tp_if (fun h6051 => ?_) (fun h6051 => ?_)
    · have g6052 := ti_q h6051
      have i6053 := ti_rg q6035.1
      unfold f_EX_openIf_27
      have l6056 : ((1 : Int32)).toInt = 1 := rfl
      refine Tp_bi (s_EX_openCondition hn ci6041 (by omega) (by omega) (by omega) (by omega) (t := q6039.2) (x1 := (1 : Int32)) (x2 := (0 : Int32))) (fun q6054 h6055 => ?_)
      have ci6057 := h6055
      refine Tp_so ?_
      exact ci6057
    · have g6058 := ti_nq h6051
      have i6059 := ti_rg q6035.1
      unfold f_EX_openIf_27
      have l6062 : ((1 : Int32)).toInt = 1 := rfl
      refine Tp_bi (s_EX_openCondition hn ci6041 (by omega) (by omega) (by omega) (by omega) (t := q6039.2) (x1 := (1 : Int32)) (x2 := (1 : Int32))) (fun q6060 h6061 => ?_)
      have ci6063 := h6061
      refine Tp_so ?_
      exact ci6063
set_option maxRecDepth 4000 in
set_option maxHeartbeats 8000000 in
theorem s_EX_openIfSame {n : Nat} {L : Int32} (hn : 8589934592 ≤ n) {t : mz_St}  (ci : CI L t)  : Tp (f_EX_openIfSame n t) (fun r => CI L r) := by
  unfold f_EX_openIfSame
  have l6066 : ((44 : Int32)).toInt = 44 := rfl
  have b6067 := CI_g1 ci (c := 6) (p := 2) rfl
  have b6068 := CI_g14 ci (c := 5) (p := 13) rfl
  refine Tp_bi (s_SI_find hn ci  (t := t) (x1 := (44 : Int32)) (x2 := mz_gI t 6 2) (x3 := mz_gI t 5 13)) (fun q6064 h6065 => ?_)
  obtain ⟨ci6069, E6070, p6071, p6072⟩ := h6065
  try rw [E6070]
  refine Tp_if (fun h6073 => ?_) (fun h6073 => ?_)
  · have g6074 := ti_l h6073
    have i6075 := ti_rg q6064.1
    refine Tp_bi (s_SI_behindBlanks hn ci  (t := t) (x1 := mz_gI t 6 2) (x2 := q6064.1)) (fun q6076 h6077 => ?_)
    obtain ⟨ci6078, E6079, p6080, p6081⟩ := h6077
    try rw [E6079]
    have i6084 := ti_rg q6076.1
    refine Tp_bi (s_SI_aheadOfBlanks hn ci  (t := t) (x1 := q6076.1) (x2 := q6064.1)) (fun q6082 h6083 => ?_)
    obtain ⟨ci6085, E6086, p6087, p6088⟩ := h6083
    try rw [E6086]
    have l6091 : ((1 : Int32)).toInt = 1 := rfl
    first | (have a6092 : (q6064.1 + (1 : Int32)).toInt = (q6064.1).toInt + ((1 : Int32)).toInt := ti_add (by omega) (by omega)) | (have a6093 := ti_rg (q6064.1 + (1 : Int32)))
    refine Tp_bi (s_SI_behindBlanks hn ci  (t := t) (x1 := q6064.1 + (1 : Int32)) (x2 := mz_gI t 5 13)) (fun q6089 h6090 => ?_)
    obtain ⟨ci6094, E6095, p6096, p6097⟩ := h6090
    try rw [E6095]
    have i6100 := ti_rg q6082.1
    have i6101 := ti_rg q6089.1
    refine Tp_bi (s_SI_same hn ci (by omega) (by omega) (by omega) (by omega) (by omega) (by omega) (t := t) (x1 := q6076.1) (x2 := q6082.1) (x3 := q6089.1) (x4 := mz_gI t 5 13)) (fun q6098 h6099 => ?_)
    obtain ⟨ci6102, E6103, p6104, p6105⟩ := h6099
    try rw [E6103]
    have i6108 := ti_rg q6098.1
    refine Tp_bi (s_EX_openCondition hn ci (by omega) (by omega) (by omega) (by omega) (t := t) (x1 := (1 : Int32)) (x2 := q6098.1)) (fun q6106 h6107 => ?_)
    have ci6109 := h6107
    refine Tp_so ?_
    exact ci6109
  · have g6110 := ti_nl h6073
    have i6111 := ti_rg q6064.1
    have l6114 : ((1 : Int32)).toInt = 1 := rfl
    refine Tp_bi (s_EX_fail hn ci  (t := t) (x1 := (1 : Int32))) (fun q6112 h6113 => ?_)
    obtain ⟨ci6115, p6116⟩ := h6113
    refine Tp_so ?_
    exact ci6115
set_option maxRecDepth 4000 in
set_option maxHeartbeats 8000000 in
theorem s_EX_changeCondition {n : Nat} {L : Int32} (hn : 8589934592 ≤ n) {t : mz_St}  (ci : CI L t)  : Tp (f_EX_changeCondition n t) (fun r => CI L r) := by
  unfold f_EX_changeCondition
  refine Tp_bi (s_SK_top hn ci  (t := t)) (fun q6117 h6118 => ?_)
  obtain ⟨ci6119, E6120, p6121⟩ := h6118
  try rw [E6120]
  refine Tp_gd (by omega) ?_
  refine Tp_if (fun h6122 => ?_) (fun h6122 => ?_)
  · have g6123 := ti_l h6122
    have i6124 := ti_rg (mz_gI t q6117.1 6)
    have i6125 := ti_rg (mz_gI t 7 5)
    have b6126 := CI_g3 ci (c := 5) (p := 14) rfl
    refine Tp_gd ⟨ti_c16 (by decide) (by omega), by decide⟩ ?_
    refine Tp_if (fun h6127 => ?_) (fun h6127 => ?_)
    · skip
      have l6130 : ((1 : Int32)).toInt = 1 := rfl
      first | (have a6131 : ((mz_gI t 7 5) - (1 : Int32)).toInt = (mz_gI t 7 5).toInt - ((1 : Int32)).toInt := ti_sub (by omega) (by omega)) | (have a6132 := ti_rg ((mz_gI t 7 5) - (1 : Int32)))
      refine Tp_le (fun t6128 E6129 => ?_)
      have ci6133 := CI_p0 ci E6129 rfl
      refine Tp_so ?_
      exact ci6133
    · skip
      refine Tp_bi (s_CO_isBehindElse hn ci  (t := t)) (fun q6134 h6135 => ?_)
      obtain ⟨ci6136, E6137, p6138, p6139⟩ := h6135
      try rw [E6137]
      refine Tp_if (fun h6140 => ?_) (fun h6140 => ?_)
      · have g6141 := ti_q h6140
        have i6142 := ti_rg q6134.1
        have l6143 : (0 : Int32).toInt = 0 := rfl
        refine Tp_gd ⟨ti_c16 (by decide) (by omega), by decide⟩ ?_
        refine Tp_if (fun h6144 => ?_) (fun h6144 => ?_)
        · skip
          refine Tp_bi (s_CO_lastPart hn ci  (t := t)) (fun q6145 h6146 => ?_)
          have ci6147 := h6146
          refine Tp_so ?_
          exact ci6147
        · skip
          refine Tp_bi (s_CO_waits hn ci  (t := t)) (fun q6148 h6149 => ?_)
          obtain ⟨ci6150, E6151, p6152, p6153⟩ := h6149
          try rw [E6151]
          refine Tp_if (fun h6154 => ?_) (fun h6154 => ?_)
          · have g6155 := ti_q h6154
            have i6156 := ti_rg q6148.1
            have l6159 : ((0 : Int32)).toInt = 0 := rfl
            refine Tp_bi (s_CO_nextPart hn ci (by omega) (by omega) (t := t) (x1 := (0 : Int32))) (fun q6157 h6158 => ?_)
            have ci6160 := h6158
            refine Tp_so ?_
            exact ci6160
          · have g6161 := ti_nq h6154
            have i6162 := ti_rg q6148.1
            have l6165 : ((0 : Int32)).toInt = 0 := rfl
            refine Tp_bi (s_RE_readValue hn ci  (t := t) (fa := f_RE_factor n 12) (x1 := (0 : Int32)) (hfa := fun t9 c9 => l_RE_factor hn 12 0 t9 c9 (by decide) (by decide) (by decide))) (fun q6163 h6164 => ?_)
            have ci6166 := h6164
            refine Tp_bi (s_EX_isValueGood hn ci6166  (t := q6163.2)) (fun q6167 h6168 => ?_)
            obtain ⟨ci6169, p6170, p6171⟩ := h6168
            refine Tp_if (fun h6172 => ?_) (fun h6172 => ?_)
            · have g6173 := ti_q h6172
              have i6174 := ti_rg q6167.1
              refine Tp_so ?_
              exact ci6169
            · have g6175 := ti_nq h6172
              have i6176 := ti_rg q6167.1
              refine Tp_if (fun h6177 => ?_) (fun h6177 => ?_)
              · have g6178 := ti_q h6177
                have i6179 := ti_rg q6163.1
                unfold f_EX_changeCondition_144
                refine Tp_bi (s_CO_nextPart hn ci6169 (by omega) (by omega) (t := q6167.2) (x1 := (0 : Int32))) (fun q6180 h6181 => ?_)
                have ci6182 := h6181
                refine Tp_so ?_
                exact ci6182
              · have g6183 := ti_nq h6177
                have i6184 := ti_rg q6163.1
                unfold f_EX_changeCondition_144
                have l6187 : ((1 : Int32)).toInt = 1 := rfl
                refine Tp_bi (s_CO_nextPart hn ci6169 (by omega) (by omega) (t := q6167.2) (x1 := (1 : Int32))) (fun q6185 h6186 => ?_)
                have ci6188 := h6186
                refine Tp_so ?_
                exact ci6188
      · have g6189 := ti_nq h6140
        have i6190 := ti_rg q6134.1
        have l6191 : (0 : Int32).toInt = 0 := rfl
        have l6194 : ((5 : Int32)).toInt = 5 := rfl
        refine Tp_bi (s_EX_fail hn ci  (t := t) (x1 := (5 : Int32))) (fun q6192 h6193 => ?_)
        obtain ⟨ci6195, p6196⟩ := h6193
        refine Tp_so ?_
        exact ci6195
  · have g6197 := ti_nl h6122
    have i6198 := ti_rg (mz_gI t q6117.1 6)
    have i6199 := ti_rg (mz_gI t 7 5)
    have l6202 : ((5 : Int32)).toInt = 5 := rfl
    refine Tp_bi (s_EX_fail hn ci  (t := t) (x1 := (5 : Int32))) (fun q6200 h6201 => ?_)
    obtain ⟨ci6203, p6204⟩ := h6201
    refine Tp_so ?_
    exact ci6203
set_option maxRecDepth 4000 in
set_option maxHeartbeats 8000000 in
theorem l_EX_keepUpToEndm_18 {n : Nat} {L : Int32} (hn : 8589934592 ≤ n)  : ∀ (k : Nat) (x1 : Int32) (x2 : Nat) (x3 : Int32) (t : mz_St), CI L t → (mz_fr x2) → (2147483648 - x3.toInt).toNat < k → Tp (f_EX_keepUpToEndm_18 n k x1 x2 x3 t) (fun r => CI L r.2 ∧ 0 ≤ (r.1).toInt ∧ (r.1).toInt ≤ 1) := by
  intro k
  induction k with
  | zero => intros; omega
  | succ k ih =>
    intro x1 x2 x3 t ci i0 hm
    unfold f_EX_keepUpToEndm_18
    refine Tp_gd (by omega) ?_
    refine Tp_if (fun h6205 => ?_) (fun h6205 => ?_)
    · have g6206 := ti_e h6205
      have i6207 := ti_rg (mz_gI t x2 2)
      have i6208 := ti_rg x3
      have i6211 := ti_rg x1
      refine Tp_le (fun t6209 E6210 => ?_)
      have ci6212 := CI_p0 ci E6210 rfl
      have l6215 : ((5 : Int32)).toInt = 5 := rfl
      refine Tp_bi (s_EX_fail hn ci6212  (t := t6209) (x1 := (5 : Int32))) (fun q6213 h6214 => ?_)
      obtain ⟨ci6216, p6217⟩ := h6214
      have i6218 := ti_rg q6213.1
      refine Tp_gd (ti_b (by omega) (by omega)) ?_
      refine Tp_so ?_
      refine ⟨ci6216, ?_, ?_⟩
      · (try dsimp only) <;> first | omega | assumption
      · (try dsimp only) <;> first | omega | assumption
    · have g6219 := ti_ne h6205
      have i6220 := ti_rg (mz_gI t x2 2)
      have i6221 := ti_rg x3
      refine Tp_bi (s_EX_look hn ci (by omega) (t := t) (x1 := x2)) (fun q6222 h6223 => ?_)
      obtain ⟨ci6224, p6225, p6226⟩ := h6223
      refine Tp_if (fun h6227 => ?_) (fun h6227 => ?_)
      · have g6228 := ti_q h6227
        have i6229 := ti_rg q6222.1
        have l6230 : (0 : Int32).toInt = 0 := rfl
        refine Tp_so ?_
        have l6231 : ((0 : Int32)).toInt = 0 := rfl
        refine ⟨ci6224, ?_, ?_⟩
        · (try dsimp only) <;> first | omega | assumption
        · (try dsimp only) <;> first | omega | assumption
      · have g6232 := ti_nq h6227
        have i6233 := ti_rg q6222.1
        have l6234 : (0 : Int32).toInt = 0 := rfl
        refine Tp_bi (s_SI_startOf hn ci6224  (t := q6222.2) (x1 := x3)) (fun q6235 h6236 => ?_)
        obtain ⟨ci6237, E6238, p6239, p6240⟩ := h6236
        try rw [E6238]
        refine Tp_bi (s_SI_stopOf hn ci6224  (t := q6222.2) (x1 := x3)) (fun q6241 h6242 => ?_)
        obtain ⟨ci6243, E6244, p6245, p6246⟩ := h6242
        try rw [E6244]
        have i6249 := ti_rg q6235.1
        have i6250 := ti_rg q6241.1
        refine Tp_bi (s_DI_of hn ci6224  (t := q6222.2) (x1 := q6235.1) (x2 := q6241.1)) (fun q6247 h6248 => ?_)
        obtain ⟨ci6251, E6252, p6253, p6254⟩ := h6248
        try rw [E6252]
        have i6255 := ti_rg q6247.1
        refine Tp_gd ⟨ti_c16 (by decide) (by omega), by decide⟩ ?_
        refine Tp_if (fun h6256 => ?_) (fun h6256 => ?_)
        · skip
          have l6259 : ((5 : Int32)).toInt = 5 := rfl
          refine Tp_bi (s_EX_fail hn ci6224  (t := q6222.2) (x1 := (5 : Int32))) (fun q6257 h6258 => ?_)
          obtain ⟨ci6260, p6261⟩ := h6258
          have i6262 := ti_rg q6257.1
          refine Tp_gd (ti_b (by omega) (by omega)) ?_
          refine Tp_so ?_
          refine ⟨ci6260, ?_, ?_⟩
          · (try dsimp only) <;> first | omega | assumption
          · (try dsimp only) <;> first | omega | assumption
        · skip
          refine Tp_gd ⟨ti_c16 (by decide) (by omega), by decide⟩ ?_
          refine Tp_if (fun h6263 => ?_) (fun h6263 => ?_)
          · skip
            refine Tp_so ?_
            have l6264 : ((1 : Int32)).toInt = 1 := rfl
            refine ⟨ci6224, ?_, ?_⟩
            · (try dsimp only) <;> first | omega | assumption
            · (try dsimp only) <;> first | omega | assumption
          · skip
            have i6265 := ti_rg x1
            have l6266 : ((1 : Int32)).toInt = 1 := rfl
            first | (have a6267 : (x3 + (1 : Int32)).toInt = (x3).toInt + ((1 : Int32)).toInt := ti_add (by omega) (by omega)) | (have a6268 := ti_rg (x3 + (1 : Int32)))
            exact ih x1 x2 (x3 + (1 : Int32)) q6222.2 ci6224 (by omega) (by omega)
set_option maxRecDepth 4000 in
set_option maxHeartbeats 8000000 in
theorem s_EX_keepUpToEndm {n : Nat} {L : Int32} (hn : 8589934592 ≤ n) {t : mz_St}  (ci : CI L t)  : Tp (f_EX_keepUpToEndm n t) (fun r => CI L r.2 ∧ 0 ≤ (r.1).toInt ∧ (r.1).toInt ≤ 1) := by
  unfold f_EX_keepUpToEndm
  refine Tp_bi (s_SK_top hn ci  (t := t)) (fun q6269 h6270 => ?_)
  obtain ⟨ci6271, E6272, p6273⟩ := h6270
  try rw [E6272]
  refine Tp_gd (by omega) ?_
  have i6274 := ti_rg (mz_gI t 5 11)
  have i6275 := ti_rg (mz_gI t q6269.1 3)
  refine Tp_mo (l_EX_keepUpToEndm_18 hn  n (mz_gI t 5 11) q6269.1 (mz_gI t q6269.1 3) t ci (by omega) (by omega)) (fun q6276 h6277 => ?_)
  obtain ⟨ci6278, p6279, p6280⟩ := h6277
  have i6281 := ti_rg q6276.1
  refine ⟨ci6278, ?_, ?_⟩
  · (try dsimp only) <;> first | omega | assumption
  · (try dsimp only) <;> first | omega | assumption
set_option maxRecDepth 4000 in
set_option maxHeartbeats 8000000 in
theorem s_EX_defineMacro {n : Nat} {L : Int32} (hn : 8589934592 ≤ n) {x1 : Int32} {t : mz_St}  (ci : CI L t)  : Tp (f_EX_defineMacro n x1 t) (fun r => CI L r) := by
  unfold f_EX_defineMacro
  refine Tp_if (fun h6282 => ?_) (fun h6282 => ?_)
  · have g6283 := ti_q h6282
    have i6284 := ti_rg x1
    have l6285 : (0 : Int32).toInt = 0 := rfl
    have l6288 : ((1 : Int32)).toInt = 1 := rfl
    refine Tp_bi (s_EX_fail hn ci  (t := t) (x1 := (1 : Int32))) (fun q6286 h6287 => ?_)
    obtain ⟨ci6289, p6290⟩ := h6287
    refine Tp_so ?_
    exact ci6289
  · have g6291 := ti_nq h6282
    have i6292 := ti_rg x1
    have l6293 : (0 : Int32).toInt = 0 := rfl
    refine Tp_bi (s_MA_isHeadTold hn ci  (t := t)) (fun q6294 h6295 => ?_)
    obtain ⟨ci6296, E6297, p6298, p6299⟩ := h6295
    try rw [E6297]
    refine Tp_if (fun h6300 => ?_) (fun h6300 => ?_)
    · have g6301 := ti_q h6300
      have i6302 := ti_rg q6294.1
      refine Tp_if (fun h6303 => ?_) (fun h6303 => ?_)
      · have g6304 := ti_e h6303
        have b6305 := CI_g10 ci (c := 30) (p := 4) rfl
        refine Tp_bi (s_EX_keepUpToEndm hn ci  (t := t)) (fun q6306 h6307 => ?_)
        obtain ⟨ci6308, p6309, p6310⟩ := h6307
        refine Tp_if (fun h6311 => ?_) (fun h6311 => ?_)
        · have g6312 := ti_q h6311
          have i6313 := ti_rg q6306.1
          refine Tp_so ?_
          exact ci6308
        · have g6314 := ti_nq h6311
          have i6315 := ti_rg q6306.1
          have i6318 := ti_rg (mz_gI t 5 11)
          refine Tp_le (fun t6316 E6317 => ?_)
          have ci6319 := CI_p0 ci6308 E6317 rfl
          have i6322 := ti_rg (mz_gI q6306.2 5 11)
          first | (have a6323 : ((mz_gI q6306.2 5 11) - (mz_gI t 5 11)).toInt = (mz_gI q6306.2 5 11).toInt - (mz_gI t 5 11).toInt := ti_sub (by omega) (by omega)) | (have a6324 := ti_rg ((mz_gI q6306.2 5 11) - (mz_gI t 5 11)))
          have l6325 : ((1 : Int32)).toInt = 1 := rfl
          first | (have a6326 : (((mz_gI q6306.2 5 11) - (mz_gI t 5 11)) - (1 : Int32)).toInt = ((mz_gI q6306.2 5 11) - (mz_gI t 5 11)).toInt - ((1 : Int32)).toInt := ti_sub (by omega) (by omega)) | (have a6327 := ti_rg (((mz_gI q6306.2 5 11) - (mz_gI t 5 11)) - (1 : Int32)))
          refine Tp_bi (s_MA_add hn ci6319  (t := t6316) (x1 := mz_gI t 5 11) (x2 := ((mz_gI q6306.2 5 11) - (mz_gI t 5 11)) - (1 : Int32))) (fun q6320 h6321 => ?_)
          obtain ⟨ci6328, p6329, p6330⟩ := h6321
          refine Tp_if (fun h6331 => ?_) (fun h6331 => ?_)
          · have g6332 := ti_q h6331
            have i6333 := ti_rg q6320.1
            have l6336 : ((6 : Int32)).toInt = 6 := rfl
            refine Tp_bi (s_EX_fail hn ci6328  (t := q6320.2) (x1 := (6 : Int32))) (fun q6334 h6335 => ?_)
            obtain ⟨ci6337, p6338⟩ := h6335
            refine Tp_so ?_
            exact ci6337
          · have g6339 := ti_nq h6331
            have i6340 := ti_rg q6320.1
            refine Tp_so ?_
            exact ci6328
      · have g6341 := ti_ne h6303
        have b6342 := CI_g10 ci (c := 30) (p := 4) rfl
        have l6345 : ((5 : Int32)).toInt = 5 := rfl
        refine Tp_bi (s_EX_fail hn ci  (t := t) (x1 := (5 : Int32))) (fun q6343 h6344 => ?_)
        obtain ⟨ci6346, p6347⟩ := h6344
        refine Tp_so ?_
        exact ci6346
    · have g6348 := ti_nq h6300
      have i6349 := ti_rg q6294.1
      have l6352 : ((2 : Int32)).toInt = 2 := rfl
      refine Tp_bi (s_EX_fail hn ci  (t := t) (x1 := (2 : Int32))) (fun q6350 h6351 => ?_)
      obtain ⟨ci6353, p6354⟩ := h6351
      refine Tp_so ?_
      exact ci6353
set_option maxRecDepth 4000 in
set_option maxHeartbeats 8000000 in
theorem l_EX_keepUpToEndr_21 {n : Nat} {L : Int32} (hn : 8589934592 ≤ n)  : ∀ (k : Nat) (x1 : Int32) (x2 : Nat) (x3 : Int32) (x4 : Int32) (t : mz_St), CI L t → (mz_fr x2) → (2147483648 - x4.toInt).toNat < k → Tp (f_EX_keepUpToEndr_21 n k x1 x2 x3 x4 t) (fun r => CI L r.2 ∧ 0 ≤ (r.1).toInt ∧ (r.1).toInt ≤ 1) := by
  intro k
  induction k with
  | zero => intros; omega
  | succ k ih =>
    intro x1 x2 x3 x4 t ci i0 hm
    unfold f_EX_keepUpToEndr_21
    simp only [ti_m1]
    refine Tp_gd (by omega) ?_
    refine Tp_if (fun h6355 => ?_) (fun h6355 => ?_)
    · have g6356 := ti_e h6355
      have i6357 := ti_rg (mz_gI t x2 2)
      have i6358 := ti_rg x4
      have i6361 := ti_rg x1
      refine Tp_le (fun t6359 E6360 => ?_)
      have ci6362 := CI_p0 ci E6360 rfl
      have l6365 : ((5 : Int32)).toInt = 5 := rfl
      refine Tp_bi (s_EX_fail hn ci6362  (t := t6359) (x1 := (5 : Int32))) (fun q6363 h6364 => ?_)
      obtain ⟨ci6366, p6367⟩ := h6364
      have i6368 := ti_rg q6363.1
      refine Tp_gd (ti_b (by omega) (by omega)) ?_
      refine Tp_so ?_
      refine ⟨ci6366, ?_, ?_⟩
      · (try dsimp only) <;> first | omega | assumption
      · (try dsimp only) <;> first | omega | assumption
    · have g6369 := ti_ne h6355
      have i6370 := ti_rg (mz_gI t x2 2)
      have i6371 := ti_rg x4
      refine Tp_bi (s_EX_look hn ci (by omega) (t := t) (x1 := x2)) (fun q6372 h6373 => ?_)
      obtain ⟨ci6374, p6375, p6376⟩ := h6373
      refine Tp_if (fun h6377 => ?_) (fun h6377 => ?_)
      · have g6378 := ti_q h6377
        have i6379 := ti_rg q6372.1
        have l6380 : (0 : Int32).toInt = 0 := rfl
        refine Tp_so ?_
        have l6381 : ((0 : Int32)).toInt = 0 := rfl
        refine ⟨ci6374, ?_, ?_⟩
        · (try dsimp only) <;> first | omega | assumption
        · (try dsimp only) <;> first | omega | assumption
      · have g6382 := ti_nq h6377
        have i6383 := ti_rg q6372.1
        have l6384 : (0 : Int32).toInt = 0 := rfl
        refine Tp_bi (s_SI_startOf hn ci6374  (t := q6372.2) (x1 := x4)) (fun q6385 h6386 => ?_)
        obtain ⟨ci6387, E6388, p6389, p6390⟩ := h6386
        try rw [E6388]
        refine Tp_bi (s_SI_stopOf hn ci6374  (t := q6372.2) (x1 := x4)) (fun q6391 h6392 => ?_)
        obtain ⟨ci6393, E6394, p6395, p6396⟩ := h6392
        try rw [E6394]
        have i6399 := ti_rg q6385.1
        have i6400 := ti_rg q6391.1
        refine Tp_bi (s_DI_of hn ci6374  (t := q6372.2) (x1 := q6385.1) (x2 := q6391.1)) (fun q6397 h6398 => ?_)
        obtain ⟨ci6401, E6402, p6403, p6404⟩ := h6398
        try rw [E6402]
        have i6405 := ti_rg q6397.1
        refine Tp_gd ⟨ti_c16 (by decide) (by omega), by decide⟩ ?_
        refine Tp_if (fun h6406 => ?_) (fun h6406 => ?_)
        · skip
          unfold f_EX_keepUpToEndr_83
          refine Tp_gd (by omega) ?_
          unfold f_EX_keepUpToEndr_100
          refine Tp_gd (by omega) ?_
          refine Tp_if (fun h6407 => ?_) (fun h6407 => ?_)
          · have g6408 := ti_q h6407
            have i6409 := ti_rg x3
            have l6410 : ((1 : Int32)).toInt = 1 := rfl
            first | (have a6411 : (x3 + (1 : Int32)).toInt = (x3).toInt + ((1 : Int32)).toInt := ti_add (by omega) (by omega)) | (have a6412 := ti_rg (x3 + (1 : Int32)))
            refine Tp_so ?_
            refine ⟨ci6374, ?_, ?_⟩
            · (try dsimp only) <;> first | omega | assumption
            · (try dsimp only) <;> first | omega | assumption
          · have g6413 := ti_nq h6407
            have i6414 := ti_rg x3
            have l6415 : ((1 : Int32)).toInt = 1 := rfl
            first | (have a6416 : (x3 + (1 : Int32)).toInt = (x3).toInt + ((1 : Int32)).toInt := ti_add (by omega) (by omega)) | (have a6417 := ti_rg (x3 + (1 : Int32)))
            have i6418 := ti_rg x1
            first | (have a6419 : (x4 + (1 : Int32)).toInt = (x4).toInt + ((1 : Int32)).toInt := ti_add (by omega) (by omega)) | (have a6420 := ti_rg (x4 + (1 : Int32)))
            exact ih x1 x2 (x3 + (1 : Int32)) (x4 + (1 : Int32)) q6372.2 ci6374 (by omega) (by omega)
        · skip
          refine Tp_gd ⟨ti_c16 (by decide) (by omega), by decide⟩ ?_
          refine Tp_if (fun h6421 => ?_) (fun h6421 => ?_)
          · skip
            unfold f_EX_keepUpToEndr_83
            refine Tp_gd (by omega) ?_
            unfold f_EX_keepUpToEndr_100
            refine Tp_gd (by omega) ?_
            refine Tp_if (fun h6422 => ?_) (fun h6422 => ?_)
            · have g6423 := ti_q h6422
              have i6424 := ti_rg x3
              have l6425 : ((1 : Int32)).toInt = 1 := rfl
              first | (have a6426 : (x3 + (1 : Int32)).toInt = (x3).toInt + ((1 : Int32)).toInt := ti_add (by omega) (by omega)) | (have a6427 := ti_rg (x3 + (1 : Int32)))
              refine Tp_so ?_
              refine ⟨ci6374, ?_, ?_⟩
              · (try dsimp only) <;> first | omega | assumption
              · (try dsimp only) <;> first | omega | assumption
            · have g6428 := ti_nq h6422
              have i6429 := ti_rg x3
              have l6430 : ((1 : Int32)).toInt = 1 := rfl
              first | (have a6431 : (x3 + (1 : Int32)).toInt = (x3).toInt + ((1 : Int32)).toInt := ti_add (by omega) (by omega)) | (have a6432 := ti_rg (x3 + (1 : Int32)))
              have i6433 := ti_rg x1
              first | (have a6434 : (x4 + (1 : Int32)).toInt = (x4).toInt + ((1 : Int32)).toInt := ti_add (by omega) (by omega)) | (have a6435 := ti_rg (x4 + (1 : Int32)))
              exact ih x1 x2 (x3 + (1 : Int32)) (x4 + (1 : Int32)) q6372.2 ci6374 (by omega) (by omega)
          · skip
            refine Tp_gd ⟨ti_c16 (by decide) (by omega), by decide⟩ ?_
            refine Tp_if (fun h6436 => ?_) (fun h6436 => ?_)
            · skip
              unfold f_EX_keepUpToEndr_100
              refine Tp_gd (by omega) ?_
              refine Tp_if (fun h6437 => ?_) (fun h6437 => ?_)
              · have g6438 := ti_q h6437
                have i6439 := ti_rg x3
                have l6440 : ((1 : Int32)).toInt = 1 := rfl
                first | (have a6441 : (x3 - (1 : Int32)).toInt = (x3).toInt - ((1 : Int32)).toInt := ti_sub (by omega) (by omega)) | (have a6442 := ti_rg (x3 - (1 : Int32)))
                refine Tp_so ?_
                refine ⟨ci6374, ?_, ?_⟩
                · (try dsimp only) <;> first | omega | assumption
                · (try dsimp only) <;> first | omega | assumption
              · have g6443 := ti_nq h6437
                have i6444 := ti_rg x3
                have l6445 : ((1 : Int32)).toInt = 1 := rfl
                first | (have a6446 : (x3 - (1 : Int32)).toInt = (x3).toInt - ((1 : Int32)).toInt := ti_sub (by omega) (by omega)) | (have a6447 := ti_rg (x3 - (1 : Int32)))
                have i6448 := ti_rg x1
                first | (have a6449 : (x4 + (1 : Int32)).toInt = (x4).toInt + ((1 : Int32)).toInt := ti_add (by omega) (by omega)) | (have a6450 := ti_rg (x4 + (1 : Int32)))
                exact ih x1 x2 (x3 - (1 : Int32)) (x4 + (1 : Int32)) q6372.2 ci6374 (by omega) (by omega)
            · skip
              unfold f_EX_keepUpToEndr_100
              refine Tp_gd (by omega) ?_
              refine Tp_if (fun h6451 => ?_) (fun h6451 => ?_)
              · have g6452 := ti_q h6451
                have i6453 := ti_rg x3
                refine Tp_so ?_
                have l6454 : ((1 : Int32)).toInt = 1 := rfl
                refine ⟨ci6374, ?_, ?_⟩
                · (try dsimp only) <;> first | omega | assumption
                · (try dsimp only) <;> first | omega | assumption
              · have g6455 := ti_nq h6451
                have i6456 := ti_rg x3
                have i6457 := ti_rg x1
                have l6458 : ((1 : Int32)).toInt = 1 := rfl
                first | (have a6459 : (x4 + (1 : Int32)).toInt = (x4).toInt + ((1 : Int32)).toInt := ti_add (by omega) (by omega)) | (have a6460 := ti_rg (x4 + (1 : Int32)))
                exact ih x1 x2 x3 (x4 + (1 : Int32)) q6372.2 ci6374 (by omega) (by omega)
set_option maxRecDepth 4000 in
set_option maxHeartbeats 8000000 in
theorem s_EX_keepUpToEndr {n : Nat} {L : Int32} (hn : 8589934592 ≤ n) {t : mz_St}  (ci : CI L t)  : Tp (f_EX_keepUpToEndr n t) (fun r => CI L r.2 ∧ 0 ≤ (r.1).toInt ∧ (r.1).toInt ≤ 1) := by
  unfold f_EX_keepUpToEndr
  refine Tp_bi (s_SK_top hn ci  (t := t)) (fun q6461 h6462 => ?_)
  obtain ⟨ci6463, E6464, p6465⟩ := h6462
  try rw [E6464]
  refine Tp_gd (by omega) ?_
  have i6466 := ti_rg (mz_gI t 5 11)
  have l6467 : ((1 : Int32)).toInt = 1 := rfl
  have i6468 := ti_rg (mz_gI t q6461.1 3)
  refine Tp_mo (l_EX_keepUpToEndr_21 hn  n (mz_gI t 5 11) q6461.1 (1 : Int32) (mz_gI t q6461.1 3) t ci (by omega) (by omega)) (fun q6469 h6470 => ?_)
  obtain ⟨ci6471, p6472, p6473⟩ := h6470
  have i6474 := ti_rg q6469.1
  refine ⟨ci6471, ?_, ?_⟩
  · (try dsimp only) <;> first | omega | assumption
  · (try dsimp only) <;> first | omega | assumption
set_option maxRecDepth 4000 in
set_option maxHeartbeats 8000000 in
theorem s_EX_openRepeated {n : Nat} {L : Int32} (hn : 8589934592 ≤ n) {x1 : Int32} {x2 : Int32} {x3 : Int32} {t : mz_St}  (ci : CI L t) (i0 : 0 ≤ x1.toInt) (i1 : x1.toInt ≤ 15) : Tp (f_EX_openRepeated n x1 x2 x3 t) (fun r => CI L r) := by
  unfold f_EX_openRepeated
  have i6477 := ti_rg x2
  refine Tp_le (fun t6475 E6476 => ?_)
  have ci6478 := CI_p0 ci E6476 rfl
  refine Tp_if (fun h6479 => ?_) (fun h6479 => ?_)
  · have g6480 := ti_q h6479
    have i6481 := ti_rg x3
    have l6482 : (0 : Int32).toInt = 0 := rfl
    refine Tp_so ?_
    exact ci6478
  · have g6483 := ti_nq h6479
    have i6484 := ti_rg x3
    have l6485 : (0 : Int32).toInt = 0 := rfl
    refine Tp_bi (s_SK_spare hn ci6478  (t := t6475)) (fun q6486 h6487 => ?_)
    obtain ⟨ci6488, E6489, p6490⟩ := h6487
    try rw [E6489]
    refine Tp_gd (by omega) ?_
    have i6493 := ti_rg x1
    have l6494 : ((1 : Int32)).toInt = 1 := rfl
    first | (have a6495 : (x2 + (1 : Int32)).toInt = (x2).toInt + ((1 : Int32)).toInt := ti_add (by omega) (by omega)) | (have a6496 := ti_rg (x2 + (1 : Int32)))
    have i6497 := ti_rg (mz_gI t 5 11)
    have i6498 := ti_rg (mz_gI t6475 7 5)
    have e6499 : (mz_gI t6475 7 5).toInt = (mz_gI t 7 5).toInt := by rw [E6476, gI_oth _ _ (by simp)]
    have i6500 := ti_rg (mz_gI t 7 5)
    refine Tp_bi (s_FR_begin hn ci6478 (by omega) (by omega) (by omega) (t := t6475) (x0 := q6486.1) (x1 := x1) (x2 := x2 + (1 : Int32)) (x3 := mz_gI t 5 11) (x4 := x3) (x5 := mz_gI t6475 7 5)) (fun q6491 h6492 => ?_)
    have ci6501 := h6492
    refine Tp_bi (s_SK_open hn ci6501  (t := q6491) (x1 := x2)) (fun q6502 h6503 => ?_)
    obtain ⟨ci6504, p6505, p6506⟩ := h6503
    refine Tp_if (fun h6507 => ?_) (fun h6507 => ?_)
    · have g6508 := ti_q h6507
      have i6509 := ti_rg q6502.1
      have l6512 : ((6 : Int32)).toInt = 6 := rfl
      refine Tp_bi (s_EX_fail hn ci6504  (t := q6502.2) (x1 := (6 : Int32))) (fun q6510 h6511 => ?_)
      obtain ⟨ci6513, p6514⟩ := h6511
      refine Tp_so ?_
      exact ci6513
    · have g6515 := ti_nq h6507
      have i6516 := ti_rg q6502.1
      refine Tp_so ?_
      exact ci6504
set_option maxRecDepth 4000 in
set_option maxHeartbeats 8000000 in
theorem s_EX_openRept {n : Nat} {L : Int32} (hn : 8589934592 ≤ n) {t : mz_St}  (ci : CI L t)  : Tp (f_EX_openRept n t) (fun r => CI L r) := by
  unfold f_EX_openRept
  have l6519 : ((0 : Int32)).toInt = 0 := rfl
  refine Tp_bi (s_RE_readValue hn ci  (t := t) (fa := f_RE_factor n 12) (x1 := (0 : Int32)) (hfa := fun t9 c9 => l_RE_factor hn 12 0 t9 c9 (by decide) (by decide) (by decide))) (fun q6517 h6518 => ?_)
  have ci6520 := h6518
  refine Tp_bi (s_EX_isValueGood hn ci6520  (t := q6517.2)) (fun q6521 h6522 => ?_)
  obtain ⟨ci6523, p6524, p6525⟩ := h6522
  refine Tp_if (fun h6526 => ?_) (fun h6526 => ?_)
  · have g6527 := ti_q h6526
    have i6528 := ti_rg q6521.1
    have l6529 : (0 : Int32).toInt = 0 := rfl
    refine Tp_so ?_
    exact ci6523
  · have g6530 := ti_nq h6526
    have i6531 := ti_rg q6521.1
    have l6532 : (0 : Int32).toInt = 0 := rfl
    refine Tp_if (fun h6533 => ?_) (fun h6533 => ?_)
    · have g6534 := ti_l h6533
      have i6535 := ti_rg q6517.1
      unfold f_EX_openRept_32
      have l6538 : ((4 : Int32)).toInt = 4 := rfl
      refine Tp_bi (s_EX_fail hn ci6523  (t := q6521.2) (x1 := (4 : Int32))) (fun q6536 h6537 => ?_)
      obtain ⟨ci6539, p6540⟩ := h6537
      refine Tp_so ?_
      exact ci6539
    · have g6541 := ti_nl h6533
      have i6542 := ti_rg q6517.1
      refine Tp_if (fun h6543 => ?_) (fun h6543 => ?_)
      · have g6544 := ti_e h6543
        have l6545 : ((100 : Int32)).toInt = 100 := rfl
        refine Tp_bi (s_EX_keepUpToEndr hn ci6523  (t := q6521.2)) (fun q6546 h6547 => ?_)
        obtain ⟨ci6548, p6549, p6550⟩ := h6547
        refine Tp_if (fun h6551 => ?_) (fun h6551 => ?_)
        · have g6552 := ti_q h6551
          have i6553 := ti_rg q6546.1
          refine Tp_so ?_
          exact ci6548
        · have g6554 := ti_nq h6551
          have i6555 := ti_rg q6546.1
          have l6558 : ((11 : Int32)).toInt = 11 := rfl
          have i6559 := ti_rg (mz_gI t 5 11)
          refine Tp_bi (s_EX_openRepeated hn ci6548 (by omega) (by omega) (t := q6546.2) (x1 := (11 : Int32)) (x2 := mz_gI t 5 11) (x3 := q6517.1)) (fun q6556 h6557 => ?_)
          have ci6560 := h6557
          refine Tp_so ?_
          exact ci6560
      · have g6561 := ti_ne h6543
        have l6562 : ((100 : Int32)).toInt = 100 := rfl
        unfold f_EX_openRept_32
        have l6565 : ((4 : Int32)).toInt = 4 := rfl
        refine Tp_bi (s_EX_fail hn ci6523  (t := q6521.2) (x1 := (4 : Int32))) (fun q6563 h6564 => ?_)
        obtain ⟨ci6566, p6567⟩ := h6564
        refine Tp_so ?_
        exact ci6566
set_option maxRecDepth 4000 in
set_option maxHeartbeats 8000000 in
theorem s_EX_openEach {n : Nat} {L : Int32} (hn : 8589934592 ≤ n) {t : mz_St}  (ci : CI L t)  : Tp (f_EX_openEach n t) (fun r => CI L r) := by
  unfold f_EX_openEach
  refine Tp_bi (s_RE_takeWord hn ci  (t := t)) (fun q6568 h6569 => ?_)
  obtain ⟨ci6570, p6571, p6572⟩ := h6569
  refine Tp_if (fun h6573 => ?_) (fun h6573 => ?_)
  · have g6574 := ti_q h6573
    have i6575 := ti_rg q6568.1
    have l6576 : (0 : Int32).toInt = 0 := rfl
    unfold f_EX_openEach_27
    have l6579 : ((1 : Int32)).toInt = 1 := rfl
    refine Tp_bi (s_EX_fail hn ci6570  (t := q6568.2) (x1 := (1 : Int32))) (fun q6577 h6578 => ?_)
    obtain ⟨ci6580, p6581⟩ := h6578
    refine Tp_so ?_
    exact ci6580
  · have g6582 := ti_nq h6573
    have i6583 := ti_rg q6568.1
    have l6584 : (0 : Int32).toInt = 0 := rfl
    have l6587 : ((44 : Int32)).toInt = 44 := rfl
    refine Tp_bi (s_RE_take hn ci6570  (t := q6568.2) (x1 := (44 : Int32))) (fun q6585 h6586 => ?_)
    obtain ⟨ci6588, p6589, p6590⟩ := h6586
    refine Tp_if (fun h6591 => ?_) (fun h6591 => ?_)
    · have g6592 := ti_q h6591
      have i6593 := ti_rg q6585.1
      unfold f_EX_openEach_27
      have l6596 : ((1 : Int32)).toInt = 1 := rfl
      refine Tp_bi (s_EX_fail hn ci6588  (t := q6585.2) (x1 := (1 : Int32))) (fun q6594 h6595 => ?_)
      obtain ⟨ci6597, p6598⟩ := h6595
      refine Tp_so ?_
      exact ci6597
    · have g6599 := ti_nq h6591
      have i6600 := ti_rg q6585.1
      have b6603 := CI_g1 ci6588 (c := 6) (p := 2) rfl
      have b6604 := CI_g14 ci6588 (c := 5) (p := 13) rfl
      refine Tp_bi (s_SK_readTexts hn ci6588 (by omega) (by omega) (by omega) (by omega) (t := q6585.2) (x1 := mz_gI q6585.2 6 2) (x2 := mz_gI q6585.2 5 13)) (fun q6601 h6602 => ?_)
      have ci6605 := h6602
      refine Tp_if (fun h6606 => ?_) (fun h6606 => ?_)
      · have g6607 := ti_q h6606
        have i6608 := ti_rg q6601.1
        have l6609 : ((-1 : Int32)).toInt = -1 := rfl
        have l6612 : ((1 : Int32)).toInt = 1 := rfl
        refine Tp_bi (s_EX_fail hn ci6605  (t := q6601.2) (x1 := (1 : Int32))) (fun q6610 h6611 => ?_)
        obtain ⟨ci6613, p6614⟩ := h6611
        refine Tp_so ?_
        exact ci6613
      · have g6615 := ti_nq h6606
        have i6616 := ti_rg q6601.1
        have l6617 : ((-1 : Int32)).toInt = -1 := rfl
        refine Tp_bi (s_SK_spare hn ci6605  (t := q6601.2)) (fun q6618 h6619 => ?_)
        obtain ⟨ci6620, E6621, p6622⟩ := h6619
        try rw [E6621]
        refine Tp_gd (by omega) ?_
        have b6625 := CI_g1 ci6605 (c := 6) (p := 4) rfl
        refine Tp_le (fun t6623 E6624 => ?_)
        have l6627 : (9 : Int32).toInt = 9 := rfl
        have ci6626 := CI_p1 ci6605 E6624 (bxK_f9 (by omega) (by decide) (by decide)) (by omega) (by omega)
        have b6630 := CI_g1 ci6626 (c := 6) (p := 5) rfl
        have e6631 : (mz_gI t6623 6 5).toInt = (mz_gI q6601.2 6 5).toInt := by rw [E6624, gI_oth _ _ (by simp)]
        have b6632 := CI_g1 ci6605 (c := 6) (p := 5) rfl
        refine Tp_le (fun t6628 E6629 => ?_)
        have l6634 : (10 : Int32).toInt = 10 := rfl
        have ci6633 := CI_p1 ci6626 E6629 (bxK_f9 (by omega) (by decide) (by decide)) (by omega) (by omega)
        refine Tp_bi (s_EX_keepUpToEndr hn ci6633  (t := t6628)) (fun q6635 h6636 => ?_)
        obtain ⟨ci6637, p6638, p6639⟩ := h6636
        refine Tp_if (fun h6640 => ?_) (fun h6640 => ?_)
        · have g6641 := ti_q h6640
          have i6642 := ti_rg q6635.1
          refine Tp_so ?_
          exact ci6637
        · have g6643 := ti_nq h6640
          have i6644 := ti_rg q6635.1
          have l6647 : ((12 : Int32)).toInt = 12 := rfl
          have i6648 := ti_rg (mz_gI t 5 11)
          refine Tp_bi (s_EX_openRepeated hn ci6637 (by omega) (by omega) (t := q6635.2) (x1 := (12 : Int32)) (x2 := mz_gI t 5 11) (x3 := q6601.1)) (fun q6645 h6646 => ?_)
          have ci6649 := h6646
          refine Tp_so ?_
          exact ci6649
set_option maxRecDepth 4000 in
set_option maxHeartbeats 8000000 in
theorem s_EX_leaveMacro {n : Nat} {L : Int32} (hn : 8589934592 ≤ n) {t : mz_St}  (ci : CI L t)  : Tp (f_EX_leaveMacro n t) (fun r => CI L r) := by
  unfold f_EX_leaveMacro
  refine Tp_bi (s_RE_isDone hn ci  (t := t)) (fun q6650 h6651 => ?_)
  obtain ⟨ci6652, p6653, p6654⟩ := h6651
  refine Tp_if (fun h6655 => ?_) (fun h6655 => ?_)
  · have g6656 := ti_q h6655
    have i6657 := ti_rg q6650.1
    have l6658 : (0 : Int32).toInt = 0 := rfl
    have l6661 : ((1 : Int32)).toInt = 1 := rfl
    refine Tp_bi (s_EX_fail hn ci6652  (t := q6650.2) (x1 := (1 : Int32))) (fun q6659 h6660 => ?_)
    obtain ⟨ci6662, p6663⟩ := h6660
    refine Tp_so ?_
    exact ci6662
  · have g6664 := ti_nq h6655
    have i6665 := ti_rg q6650.1
    have l6666 : (0 : Int32).toInt = 0 := rfl
    refine Tp_bi (s_SK_macroDepth hn ci6652  (t := q6650.2)) (fun q6667 h6668 => ?_)
    obtain ⟨ci6669, E6670, p6671, p6672⟩ := h6668
    try rw [E6670]
    refine Tp_if (fun h6673 => ?_) (fun h6673 => ?_)
    · have g6674 := ti_q h6673
      have i6675 := ti_rg q6667.1
      have l6678 : ((5 : Int32)).toInt = 5 := rfl
      refine Tp_bi (s_EX_fail hn ci6652  (t := q6650.2) (x1 := (5 : Int32))) (fun q6676 h6677 => ?_)
      obtain ⟨ci6679, p6680⟩ := h6677
      refine Tp_so ?_
      exact ci6679
    · have g6681 := ti_nq h6673
      have i6682 := ti_rg q6667.1
      refine Tp_bi (s_SK_frameAt hn ci6652  (t := q6650.2) (x1 := q6667.1)) (fun q6683 h6684 => ?_)
      obtain ⟨ci6685, E6686, p6687⟩ := h6684
      try rw [E6686]
      refine Tp_gd (by omega) ?_
      have i6690 := ti_rg (mz_gI q6650.2 q6683.1 6)
      refine Tp_le (fun t6688 E6689 => ?_)
      have ci6691 := CI_p0 ci6652 E6689 rfl
      have l6694 : ((1 : Int32)).toInt = 1 := rfl
      first | (have a6695 : (q6667.1 - (1 : Int32)).toInt = (q6667.1).toInt - ((1 : Int32)).toInt := ti_sub (by omega) (by omega)) | (have a6696 := ti_rg (q6667.1 - (1 : Int32)))
      refine Tp_le (fun t6692 E6693 => ?_)
      have l6698 : (4 : Int32).toInt = 4 := rfl
      have ci6697 := CI_p10 ci6691 E6693 rfl (by omega) (by omega)
      refine Tp_so ?_
      exact ci6697
set_option maxRecDepth 4000 in
set_option maxHeartbeats 8000000 in
theorem s_EX_come {n : Nat} {L : Int32} (hn : 8589934592 ≤ n) {t : mz_St}  (ci : CI L t)  : Tp (f_EX_come n t) (fun r => CI L r) := by
  unfold f_EX_come
  have b6699 := CI_g3 ci (c := 5) (p := 14) rfl
  refine Tp_gd (ti_c16 (by decide) (by omega)) ?_
  have b6702 := CI_g14 ci (c := 5) (p := 12) rfl
  refine Tp_bi (s_DI_behind hn ci (by omega) (by omega) (by omega) (t := t) (x0 := mz_gI t 5 14) (x1 := mz_gI t 5 12)) (fun q6700 h6701 => ?_)
  obtain ⟨ci6703, E6704, p6705, p6706⟩ := h6701
  try rw [E6704]
  have i6709 := ti_rg q6700.1
  have b6710 := CI_g14 ci (c := 5) (p := 13) rfl
  refine Tp_bi (s_RE_begin hn ci (by omega) (by omega) (by omega) (by omega) (t := t) (x1 := q6700.1) (x2 := mz_gI t 5 13)) (fun q6707 h6708 => ?_)
  have ci6711 := h6708
  have b6712 := CI_g3 ci6711 (c := 5) (p := 14) rfl
  refine Tp_gd (ti_c16 (by decide) (by omega)) ?_
  refine Tp_bi (s_JE_ordinal hn ci6711 (by omega) (t := q6707) (x0 := mz_gI q6707 5 14)) (fun q6713 h6714 => ?_)
  obtain ⟨ci6715, E6716, p6717, p6718⟩ := h6714
  try rw [E6716]
  have i6719 := ti_rg q6713.1
  refine Tp_gd (ti_ix (by omega) (by omega)) ?_
  refine Tp_if (fun h6720 => ?_) (fun h6720 => ?_)
  · skip
    refine Tp_bi (s_EX_callOrGiveOut hn ci6711  (t := q6707)) (fun q6721 h6722 => ?_)
    have ci6723 := h6722
    refine Tp_so ?_
    exact ci6723
  · skip
    refine Tp_if (fun h6724 => ?_) (fun h6724 => ?_)
    · skip
      refine Tp_bi (s_EX_setConstant hn ci6711  (t := q6707)) (fun q6725 h6726 => ?_)
      have ci6727 := h6726
      refine Tp_so ?_
      exact ci6727
    · skip
      refine Tp_if (fun h6728 => ?_) (fun h6728 => ?_)
      · skip
        refine Tp_bi (s_EX_forgetConstant hn ci6711  (t := q6707)) (fun q6729 h6730 => ?_)
        have ci6731 := h6730
        refine Tp_so ?_
        exact ci6731
      · skip
        refine Tp_if (fun h6732 => ?_) (fun h6732 => ?_)
        · skip
          refine Tp_bi (s_EX_openIf hn ci6711  (t := q6707)) (fun q6733 h6734 => ?_)
          have ci6735 := h6734
          refine Tp_so ?_
          exact ci6735
        · skip
          refine Tp_if (fun h6736 => ?_) (fun h6736 => ?_)
          · skip
            refine Tp_bi (s_EX_openIfSame hn ci6711  (t := q6707)) (fun q6737 h6738 => ?_)
            have ci6739 := h6738
            refine Tp_so ?_
            exact ci6739
          · skip
            refine Tp_if (fun h6740 => ?_) (fun h6740 => ?_)
            · skip
              unfold f_EX_come_143
              refine Tp_bi (s_EX_changeCondition hn ci6711  (t := q6707)) (fun q6741 h6742 => ?_)
              have ci6743 := h6742
              refine Tp_so ?_
              exact ci6743
            · skip
              refine Tp_if (fun h6744 => ?_) (fun h6744 => ?_)
              · skip
                unfold f_EX_come_143
                refine Tp_bi (s_EX_changeCondition hn ci6711  (t := q6707)) (fun q6745 h6746 => ?_)
                have ci6747 := h6746
                refine Tp_so ?_
                exact ci6747
              · skip
                refine Tp_if (fun h6748 => ?_) (fun h6748 => ?_)
                · skip
                  unfold f_EX_come_143
                  refine Tp_bi (s_EX_changeCondition hn ci6711  (t := q6707)) (fun q6749 h6750 => ?_)
                  have ci6751 := h6750
                  refine Tp_so ?_
                  exact ci6751
                · skip
                  refine Tp_if (fun h6752 => ?_) (fun h6752 => ?_)
                  · skip
                    refine Tp_bi (s_MA_readHead hn ci6711  (t := q6707)) (fun q6753 h6754 => ?_)
                    obtain ⟨ci6755, p6756, p6757⟩ := h6754
                    have i6760 := ti_rg q6753.1
                    refine Tp_bi (s_EX_defineMacro hn ci6755  (t := q6753.2) (x1 := q6753.1)) (fun q6758 h6759 => ?_)
                    have ci6761 := h6759
                    refine Tp_so ?_
                    exact ci6761
                  · skip
                    refine Tp_if (fun h6762 => ?_) (fun h6762 => ?_)
                    · skip
                      refine Tp_bi (s_EX_openRept hn ci6711  (t := q6707)) (fun q6763 h6764 => ?_)
                      have ci6765 := h6764
                      refine Tp_so ?_
                      exact ci6765
                    · skip
                      refine Tp_if (fun h6766 => ?_) (fun h6766 => ?_)
                      · skip
                        refine Tp_bi (s_EX_openEach hn ci6711  (t := q6707)) (fun q6767 h6768 => ?_)
                        have ci6769 := h6768
                        refine Tp_so ?_
                        exact ci6769
                      · skip
                        refine Tp_if (fun h6770 => ?_) (fun h6770 => ?_)
                        · skip
                          refine Tp_bi (s_EX_leaveMacro hn ci6711  (t := q6707)) (fun q6771 h6772 => ?_)
                          have ci6773 := h6772
                          refine Tp_so ?_
                          exact ci6773
                        · skip
                          refine Tp_if (fun h6774 => ?_) (fun h6774 => ?_)
                          · skip
                            have l6777 : ((7 : Int32)).toInt = 7 := rfl
                            refine Tp_bi (s_EX_fail hn ci6711  (t := q6707) (x1 := (7 : Int32))) (fun q6775 h6776 => ?_)
                            obtain ⟨ci6778, p6779⟩ := h6776
                            refine Tp_so ?_
                            exact ci6778
                          · skip
                            refine Tp_if (fun h6780 => ?_) (fun h6780 => ?_)
                            · skip
                              unfold f_EX_come_199
                              have l6783 : ((5 : Int32)).toInt = 5 := rfl
                              refine Tp_bi (s_EX_fail hn ci6711  (t := q6707) (x1 := (5 : Int32))) (fun q6781 h6782 => ?_)
                              obtain ⟨ci6784, p6785⟩ := h6782
                              refine Tp_so ?_
                              exact ci6784
                            · skip
                              refine Tp_if (fun h6786 => ?_) (fun h6786 => ?_)
                              · skip
                                unfold f_EX_come_199
                                have l6789 : ((5 : Int32)).toInt = 5 := rfl
                                refine Tp_bi (s_EX_fail hn ci6711  (t := q6707) (x1 := (5 : Int32))) (fun q6787 h6788 => ?_)
                                obtain ⟨ci6790, p6791⟩ := h6788
                                refine Tp_so ?_
                                exact ci6790
                              · skip
                                have l6794 : ((1 : Int32)).toInt = 1 := rfl
                                refine Tp_bi (s_EX_fail hn ci6711  (t := q6707) (x1 := (1 : Int32))) (fun q6792 h6793 => ?_)
                                obtain ⟨ci6795, p6796⟩ := h6793
                                refine Tp_so ?_
                                exact ci6795
set_option maxRecDepth 4000 in
set_option maxHeartbeats 8000000 in
theorem s_EX_pass {n : Nat} {L : Int32} (hn : 8589934592 ≤ n) {t : mz_St}  (ci : CI L t)  : Tp (f_EX_pass n t) (fun r => CI L r) := by
  unfold f_EX_pass
  have b6797 := CI_g3 ci (c := 5) (p := 14) rfl
  refine Tp_gd (ti_c16 (by decide) (by omega)) ?_
  have b6800 := CI_g14 ci (c := 5) (p := 12) rfl
  refine Tp_bi (s_DI_behind hn ci (by omega) (by omega) (by omega) (t := t) (x0 := mz_gI t 5 14) (x1 := mz_gI t 5 12)) (fun q6798 h6799 => ?_)
  obtain ⟨ci6801, E6802, p6803, p6804⟩ := h6799
  try rw [E6802]
  have i6807 := ti_rg q6798.1
  have b6808 := CI_g14 ci (c := 5) (p := 13) rfl
  refine Tp_bi (s_RE_begin hn ci (by omega) (by omega) (by omega) (by omega) (t := t) (x1 := q6798.1) (x2 := mz_gI t 5 13)) (fun q6805 h6806 => ?_)
  have ci6809 := h6806
  have b6810 := CI_g3 ci6809 (c := 5) (p := 14) rfl
  refine Tp_gd (ti_c16 (by decide) (by omega)) ?_
  refine Tp_bi (s_JE_ordinal hn ci6809 (by omega) (t := q6805) (x0 := mz_gI q6805 5 14)) (fun q6811 h6812 => ?_)
  obtain ⟨ci6813, E6814, p6815, p6816⟩ := h6812
  try rw [E6814]
  have i6817 := ti_rg q6811.1
  refine Tp_gd (ti_ix (by omega) (by omega)) ?_
  refine Tp_if (fun h6818 => ?_) (fun h6818 => ?_)
  · skip
    unfold f_EX_pass_68
    have l6821 : ((0 : Int32)).toInt = 0 := rfl
    refine Tp_bi (s_EX_openCondition hn ci6809 (by omega) (by omega) (by omega) (by omega) (t := q6805) (x1 := (0 : Int32)) (x2 := (0 : Int32))) (fun q6819 h6820 => ?_)
    have ci6822 := h6820
    refine Tp_so ?_
    exact ci6822
  · skip
    refine Tp_if (fun h6823 => ?_) (fun h6823 => ?_)
    · skip
      unfold f_EX_pass_68
      have l6826 : ((0 : Int32)).toInt = 0 := rfl
      refine Tp_bi (s_EX_openCondition hn ci6809 (by omega) (by omega) (by omega) (by omega) (t := q6805) (x1 := (0 : Int32)) (x2 := (0 : Int32))) (fun q6824 h6825 => ?_)
      have ci6827 := h6825
      refine Tp_so ?_
      exact ci6827
    · skip
      refine Tp_if (fun h6828 => ?_) (fun h6828 => ?_)
      · skip
        unfold f_EX_pass_77
        refine Tp_bi (s_EX_changeCondition hn ci6809  (t := q6805)) (fun q6829 h6830 => ?_)
        have ci6831 := h6830
        refine Tp_so ?_
        exact ci6831
      · skip
        refine Tp_if (fun h6832 => ?_) (fun h6832 => ?_)
        · skip
          unfold f_EX_pass_77
          refine Tp_bi (s_EX_changeCondition hn ci6809  (t := q6805)) (fun q6833 h6834 => ?_)
          have ci6835 := h6834
          refine Tp_so ?_
          exact ci6835
        · skip
          refine Tp_if (fun h6836 => ?_) (fun h6836 => ?_)
          · skip
            unfold f_EX_pass_77
            refine Tp_bi (s_EX_changeCondition hn ci6809  (t := q6805)) (fun q6837 h6838 => ?_)
            have ci6839 := h6838
            refine Tp_so ?_
            exact ci6839
          · skip
            refine Tp_so ?_
            exact ci6809
