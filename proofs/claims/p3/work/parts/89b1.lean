/-! TOTAL: written by vcg.py -/
set_option maxRecDepth 4000 in
set_option maxHeartbeats 8000000 in
theorem l_MO_takeLine_14 {n : Nat} {s : mz_St} (hn : 8589934592 ≤ n)  : ∀ (k : Nat) (x1 : Int32) (x2 : Int32) (x3 : Int32) (t : mz_St), MI s t → (0 ≤ x1.toInt) → (x1.toInt ≤ 3000) → (0 ≤ x3.toInt) → (x3.toInt ≤ 3005) → ((¬ (mz_gI s 0 34).toInt = 1 ∨ (mz_gI t 0 60).toInt ≤ x3.toInt - (mz_gI s 2 x1.toNatClampNeg).toInt)) → ((¬ (mz_gI s 0 34).toInt = 1 ∨ x3.toInt ≤ (mz_gI s 3 x1.toNatClampNeg).toInt)) → (2147483648 - x3.toInt).toNat < k → Tp (f_MO_takeLine_14 n k x1 x2 x3 t) (fun r => MI s r.2 ∧ 0 ≤ (r.1).toInt ∧ (¬ (r.1).toInt = 0 ∨ (mz_gI s 0 34).toInt ≤ 1 ∨ (mz_gI r.2 0 60).toInt ≤ 300) ∧ (¬ (mz_gI s 0 34).toInt = 1 ∨ (mz_gI r.2 0 60).toInt ≤ (mz_gI s 3 x1.toNatClampNeg).toInt - (mz_gI s 2 x1.toNatClampNeg).toInt)) := by
  intro k
  induction k with
  | zero => intros; omega
  | succ k ih =>
    intro x1 x2 x3 t ci i0 i1 i2 i3 i4 i5 hm
    unfold f_MO_takeLine_14
    have b858 := MI_g23 ci (c := 0) (p := 60) rfl
    have i859 := ti_rg x1
    refine Tp_gd (ti_ix (by omega) (by omega)) ?_
    refine Tp_if (fun h860 => ?_) (fun h860 => ?_)
    · have g861 := ti_e h860
      have b862 := MI_13 ci (c := 3) (p := x1.toNatClampNeg) rfl
      have b863 := FX_3 ci.1 x1.toNatClampNeg
      have b864 := FX_l ci.1 x1.toNatClampNeg
      have i865 := ti_rg x3
      refine Tp_if (fun h866 => ?_) (fun h866 => ?_)
      · have g867 := ti_q h866
        have i868 := ti_rg x2
        have l869 : (0 : Int32).toInt = 0 := rfl
        refine Tp_so ?_
        have l870 : ((1 : Int32)).toInt = 1 := rfl
        refine ⟨ci, ?_, ?_, ?_⟩
        · (try dsimp only) <;> first | omega | assumption
        · (try dsimp only) <;> first | omega | assumption
        · (try dsimp only) <;> first | omega | assumption
      · have g871 := ti_nq h866
        have i872 := ti_rg x2
        have l873 : (0 : Int32).toInt = 0 := rfl
        refine Tp_if (fun h874 => ?_) (fun h874 => ?_)
        · have g875 := ti_e h874
          have b876 := MI_13 ci (c := 0) (p := 34) rfl
          have b877 := FX_0_34 ci.1
          have l878 : ((1 : Int32)).toInt = 1 := rfl
          unfold f_MO_takeLine_361
          refine Tp_so ?_
          have l879 : ((0 : Int32)).toInt = 0 := rfl
          refine ⟨ci, ?_, ?_, ?_⟩
          · (try dsimp only) <;> first | omega | assumption
          · (try dsimp only) <;> first | omega | assumption
          · (try dsimp only) <;> first | omega | assumption
        · have g880 := ti_ne h874
          have b881 := MI_13 ci (c := 0) (p := 34) rfl
          have b882 := FX_0_34 ci.1
          have l883 : ((1 : Int32)).toInt = 1 := rfl
          refine Tp_if (fun h884 => ?_) (fun h884 => ?_)
          · have g885 := ti_e h884
            have l886 : ((300 : Int32)).toInt = 300 := rfl
            unfold f_MO_takeLine_361
            refine Tp_so ?_
            have l887 : ((0 : Int32)).toInt = 0 := rfl
            refine ⟨ci, ?_, ?_, ?_⟩
            · (try dsimp only) <;> first | omega | assumption
            · (try dsimp only) <;> first | omega | assumption
            · (try dsimp only) <;> first | omega | assumption
          · have g888 := ti_ne h884
            have l889 : ((300 : Int32)).toInt = 300 := rfl
            refine Tp_so ?_
            have l890 : ((6 : Int32)).toInt = 6 := rfl
            refine ⟨ci, ?_, ?_, ?_⟩
            · (try dsimp only) <;> first | omega | assumption
            · (try dsimp only) <;> first | omega | assumption
            · (try dsimp only) <;> first | omega | assumption
    · have g891 := ti_ne h860
      have b892 := MI_13 ci (c := 3) (p := x1.toNatClampNeg) rfl
      have b893 := FX_3 ci.1 x1.toNatClampNeg
      have b894 := FX_l ci.1 x1.toNatClampNeg
      have i895 := ti_rg x3
      refine Tp_gd (ti_ix (by omega) (by omega)) ?_
      refine Tp_if (fun h896 => ?_) (fun h896 => ?_)
      · have g897 := ti_q h896
        have b898 := MI_13 ci (c := 1) (p := x3.toNatClampNeg) rfl
        have i899 := ti_rg (mz_gI s 1 x3.toNatClampNeg)
        have l900 : ((92 : Int32)).toInt = 92 := rfl
        refine Tp_if (fun h901 => ?_) (fun h901 => ?_)
        · have g902 := ti_q h901
          have b903 := MI_13 ci (c := 0) (p := 34) rfl
          have b904 := FX_0_34 ci.1
          have l905 : ((1 : Int32)).toInt = 1 := rfl
          unfold f_MO_takeLine_50
          refine Tp_bi (s_MO_add hn ci  (t := t) (x1 := mz_gI t 1 x3.toNatClampNeg)) (fun q906 h907 => ?_)
          obtain ⟨ci908, p909, p910⟩ := h907
          have b911 := MI_g23 ci908 (c := 0) (p := 60) rfl
          have i912 := ti_rg x2
          first | (have a913 : (x3 + (1 : Int32)).toInt = (x3).toInt + ((1 : Int32)).toInt := ti_add (by omega) (by omega)) | (have a914 := ti_rg (x3 + (1 : Int32)))
          exact ih x1 x2 (x3 + (1 : Int32)) q906 ci908 (by omega) (by omega) (by omega) (by omega) (by omega) (by omega) (by omega)
        · have g915 := ti_nq h901
          have b916 := MI_13 ci (c := 0) (p := 34) rfl
          have b917 := FX_0_34 ci.1
          have l918 : ((1 : Int32)).toInt = 1 := rfl
          refine Tp_gd (ti_ix (by omega) (by omega)) ?_
          refine Tp_if (fun h919 => ?_) (fun h919 => ?_)
          · have g920 := ti_e h919
            first | (have a921 : (x3 + (1 : Int32)).toInt = (x3).toInt + ((1 : Int32)).toInt := ti_add (by omega) (by omega)) | (have a922 := ti_rg (x3 + (1 : Int32)))
            unfold f_MO_takeLine_79
            refine Tp_if (fun h923 => ?_) (fun h923 => ?_)
            · have g924 := ti_q h923
              have l925 : ((-1 : Int32)).toInt = -1 := rfl
              have l926 : ((64 : Int32)).toInt = 64 := rfl
              refine Tp_bi (s_MO_macroFrame hn ci  (t := t)) (fun q927 h928 => ?_)
              obtain ⟨ci929, E930, p931, p932, p933, p934⟩ := h928
              try rw [E930]
              unfold f_MO_takeLine_99
              refine Tp_if (fun h935 => ?_) (fun h935 => ?_)
              · have g936 := ti_q h935
                unfold f_MO_takeLine_115
                refine Tp_if (fun h937 => ?_) (fun h937 => ?_)
                · have g938 := ti_q h937
                  have i939 := ti_rg x2
                  have l940 : (0 : Int32).toInt = 0 := rfl
                  unfold f_MO_takeLine_128
                  unfold f_MO_takeLine_129
                  refine Tp_if (fun h941 => ?_) (fun h941 => ?_)
                  · have g942 := ti_l h941
                    have i943 := ti_rg q927.1
                    unfold f_MO_takeLine_163
                    have l944 : ((0 : Int32)).toInt = 0 := rfl
                    first | (have a945 : ((x3 + (1 : Int32)) + (1 : Int32)).toInt = (x3 + (1 : Int32)).toInt + ((1 : Int32)).toInt := ti_add (by omega) (by omega)) | (have a946 := ti_rg ((x3 + (1 : Int32)) + (1 : Int32)))
                    exact ih x1 (0 : Int32) ((x3 + (1 : Int32)) + (1 : Int32)) t ci (by omega) (by omega) (by omega) (by omega) (by omega) (by omega) (by omega)
                  · have g947 := ti_nl h941
                    have i948 := ti_rg q927.1
                    refine Tp_if (fun h949 => ?_) (fun h949 => ?_)
                    · have g950 := ti_q h949
                      refine Tp_gd (ti_ix (by omega) (by omega)) ?_
                      unfold f_MO_takeLine_160
                      have b953 := MI_13 ci (c := 29) (p := q927.1.toNatClampNeg) rfl
                      have i954 := ti_rg (mz_gI s 29 q927.1.toNatClampNeg)
                      refine Tp_bi (s_MO_addNumber hn ci  (t := t) (x1 := mz_gI t 29 q927.1.toNatClampNeg)) (fun q951 h952 => ?_)
                      have ci955 := h952
                      unfold f_MO_takeLine_163
                      have l956 : ((0 : Int32)).toInt = 0 := rfl
                      first | (have a957 : ((x3 + (1 : Int32)) + (1 : Int32)).toInt = (x3 + (1 : Int32)).toInt + ((1 : Int32)).toInt := ti_add (by omega) (by omega)) | (have a958 := ti_rg ((x3 + (1 : Int32)) + (1 : Int32)))
                      have b959 := MI_g23 ci955 (c := 0) (p := 60) rfl
                      exact ih x1 (0 : Int32) ((x3 + (1 : Int32)) + (1 : Int32)) q951 ci955 (by omega) (by omega) (by omega) (by omega) (by omega) (by omega) (by omega)
                    · have g960 := ti_nq h949
                      refine Tp_gd (ti_ix (by omega) (by omega)) ?_
                      unfold f_MO_takeLine_160
                      have b963 := MI_13 ci (c := 27) (p := q927.1.toNatClampNeg) rfl
                      have b964 := FX_27 ci.1 q927.1.toNatClampNeg
                      refine Tp_bi (s_MO_addNumber hn ci  (t := t) (x1 := mz_gI t 27 q927.1.toNatClampNeg)) (fun q961 h962 => ?_)
                      have ci965 := h962
                      unfold f_MO_takeLine_163
                      have l966 : ((0 : Int32)).toInt = 0 := rfl
                      first | (have a967 : ((x3 + (1 : Int32)) + (1 : Int32)).toInt = (x3 + (1 : Int32)).toInt + ((1 : Int32)).toInt := ti_add (by omega) (by omega)) | (have a968 := ti_rg ((x3 + (1 : Int32)) + (1 : Int32)))
                      have b969 := MI_g23 ci965 (c := 0) (p := 60) rfl
                      exact ih x1 (0 : Int32) ((x3 + (1 : Int32)) + (1 : Int32)) q961 ci965 (by omega) (by omega) (by omega) (by omega) (by omega) (by omega) (by omega)
                · have g970 := ti_nq h937
                  have i971 := ti_rg x2
                  have l972 : (0 : Int32).toInt = 0 := rfl
                  refine Tp_if (fun h973 => ?_) (fun h973 => ?_)
                  · have g974 := ti_l h973
                    have i975 := ti_rg q927.1
                    unfold f_MO_takeLine_128
                    unfold f_MO_takeLine_129
                    refine Tp_if (fun h976 => ?_) (fun h976 => ?_)
                    · have g977 := ti_l h976
                      unfold f_MO_takeLine_163
                      have l978 : ((0 : Int32)).toInt = 0 := rfl
                      first | (have a979 : ((x3 + (1 : Int32)) + (1 : Int32)).toInt = (x3 + (1 : Int32)).toInt + ((1 : Int32)).toInt := ti_add (by omega) (by omega)) | (have a980 := ti_rg ((x3 + (1 : Int32)) + (1 : Int32)))
                      exact ih x1 (0 : Int32) ((x3 + (1 : Int32)) + (1 : Int32)) t ci (by omega) (by omega) (by omega) (by omega) (by omega) (by omega) (by omega)
                    · have g981 := ti_nl h976
                      refine Tp_if (fun h982 => ?_) (fun h982 => ?_)
                      · have g983 := ti_q h982
                        refine Tp_gd (ti_ix (by omega) (by omega)) ?_
                        unfold f_MO_takeLine_160
                        have b986 := MI_13 ci (c := 29) (p := q927.1.toNatClampNeg) rfl
                        have i987 := ti_rg (mz_gI s 29 q927.1.toNatClampNeg)
                        refine Tp_bi (s_MO_addNumber hn ci  (t := t) (x1 := mz_gI t 29 q927.1.toNatClampNeg)) (fun q984 h985 => ?_)
                        have ci988 := h985
                        unfold f_MO_takeLine_163
                        have l989 : ((0 : Int32)).toInt = 0 := rfl
                        first | (have a990 : ((x3 + (1 : Int32)) + (1 : Int32)).toInt = (x3 + (1 : Int32)).toInt + ((1 : Int32)).toInt := ti_add (by omega) (by omega)) | (have a991 := ti_rg ((x3 + (1 : Int32)) + (1 : Int32)))
                        have b992 := MI_g23 ci988 (c := 0) (p := 60) rfl
                        exact ih x1 (0 : Int32) ((x3 + (1 : Int32)) + (1 : Int32)) q984 ci988 (by omega) (by omega) (by omega) (by omega) (by omega) (by omega) (by omega)
                      · have g993 := ti_nq h982
                        refine Tp_gd (ti_ix (by omega) (by omega)) ?_
                        unfold f_MO_takeLine_160
                        have b996 := MI_13 ci (c := 27) (p := q927.1.toNatClampNeg) rfl
                        have b997 := FX_27 ci.1 q927.1.toNatClampNeg
                        refine Tp_bi (s_MO_addNumber hn ci  (t := t) (x1 := mz_gI t 27 q927.1.toNatClampNeg)) (fun q994 h995 => ?_)
                        have ci998 := h995
                        unfold f_MO_takeLine_163
                        have l999 : ((0 : Int32)).toInt = 0 := rfl
                        first | (have a1000 : ((x3 + (1 : Int32)) + (1 : Int32)).toInt = (x3 + (1 : Int32)).toInt + ((1 : Int32)).toInt := ti_add (by omega) (by omega)) | (have a1001 := ti_rg ((x3 + (1 : Int32)) + (1 : Int32)))
                        have b1002 := MI_g23 ci998 (c := 0) (p := 60) rfl
                        exact ih x1 (0 : Int32) ((x3 + (1 : Int32)) + (1 : Int32)) q994 ci998 (by omega) (by omega) (by omega) (by omega) (by omega) (by omega) (by omega)
                  · have g1003 := ti_nl h973
                    have i1004 := ti_rg q927.1
                    unfold f_MO_takeLine_129
                    refine Tp_if (fun h1005 => ?_) (fun h1005 => ?_)
                    · have g1006 := ti_l h1005
                      unfold f_MO_takeLine_163
                      first | (have a1007 : ((x3 + (1 : Int32)) + (1 : Int32)).toInt = (x3 + (1 : Int32)).toInt + ((1 : Int32)).toInt := ti_add (by omega) (by omega)) | (have a1008 := ti_rg ((x3 + (1 : Int32)) + (1 : Int32)))
                      exact ih x1 (1 : Int32) ((x3 + (1 : Int32)) + (1 : Int32)) t ci (by omega) (by omega) (by omega) (by omega) (by omega) (by omega) (by omega)
                    · have g1009 := ti_nl h1005
                      refine Tp_if (fun h1010 => ?_) (fun h1010 => ?_)
                      · have g1011 := ti_q h1010
                        refine Tp_gd (ti_ix (by omega) (by omega)) ?_
                        unfold f_MO_takeLine_160
                        have b1014 := MI_13 ci (c := 29) (p := q927.1.toNatClampNeg) rfl
                        have i1015 := ti_rg (mz_gI s 29 q927.1.toNatClampNeg)
                        refine Tp_bi (s_MO_addNumber hn ci  (t := t) (x1 := mz_gI t 29 q927.1.toNatClampNeg)) (fun q1012 h1013 => ?_)
                        have ci1016 := h1013
                        unfold f_MO_takeLine_163
                        first | (have a1017 : ((x3 + (1 : Int32)) + (1 : Int32)).toInt = (x3 + (1 : Int32)).toInt + ((1 : Int32)).toInt := ti_add (by omega) (by omega)) | (have a1018 := ti_rg ((x3 + (1 : Int32)) + (1 : Int32)))
                        have b1019 := MI_g23 ci1016 (c := 0) (p := 60) rfl
                        exact ih x1 (1 : Int32) ((x3 + (1 : Int32)) + (1 : Int32)) q1012 ci1016 (by omega) (by omega) (by omega) (by omega) (by omega) (by omega) (by omega)
                      · have g1020 := ti_nq h1010
                        refine Tp_gd (ti_ix (by omega) (by omega)) ?_
                        unfold f_MO_takeLine_160
                        have b1023 := MI_13 ci (c := 27) (p := q927.1.toNatClampNeg) rfl
                        have b1024 := FX_27 ci.1 q927.1.toNatClampNeg
                        refine Tp_bi (s_MO_addNumber hn ci  (t := t) (x1 := mz_gI t 27 q927.1.toNatClampNeg)) (fun q1021 h1022 => ?_)
                        have ci1025 := h1022
                        unfold f_MO_takeLine_163
                        first | (have a1026 : ((x3 + (1 : Int32)) + (1 : Int32)).toInt = (x3 + (1 : Int32)).toInt + ((1 : Int32)).toInt := ti_add (by omega) (by omega)) | (have a1027 := ti_rg ((x3 + (1 : Int32)) + (1 : Int32)))
                        have b1028 := MI_g23 ci1025 (c := 0) (p := 60) rfl
                        exact ih x1 (1 : Int32) ((x3 + (1 : Int32)) + (1 : Int32)) q1021 ci1025 (by omega) (by omega) (by omega) (by omega) (by omega) (by omega) (by omega)
              · have g1029 := ti_nq h935
                refine Tp_if (fun h1030 => ?_) (fun h1030 => ?_)
                · have g1031 := ti_q h1030
                  have l1032 : ((63 : Int32)).toInt = 63 := rfl
                  unfold f_MO_takeLine_115
                  refine Tp_if (fun h1033 => ?_) (fun h1033 => ?_)
                  · have g1034 := ti_q h1033
                    have i1035 := ti_rg x2
                    have l1036 : (0 : Int32).toInt = 0 := rfl
                    unfold f_MO_takeLine_128
                    unfold f_MO_takeLine_129
                    refine Tp_if (fun h1037 => ?_) (fun h1037 => ?_)
                    · have g1038 := ti_l h1037
                      have i1039 := ti_rg q927.1
                      unfold f_MO_takeLine_163
                      have l1040 : ((0 : Int32)).toInt = 0 := rfl
                      first | (have a1041 : ((x3 + (1 : Int32)) + (1 : Int32)).toInt = (x3 + (1 : Int32)).toInt + ((1 : Int32)).toInt := ti_add (by omega) (by omega)) | (have a1042 := ti_rg ((x3 + (1 : Int32)) + (1 : Int32)))
                      exact ih x1 (0 : Int32) ((x3 + (1 : Int32)) + (1 : Int32)) t ci (by omega) (by omega) (by omega) (by omega) (by omega) (by omega) (by omega)
                    · have g1043 := ti_nl h1037
                      have i1044 := ti_rg q927.1
                      refine Tp_if (fun h1045 => ?_) (fun h1045 => ?_)
                      · have g1046 := ti_q h1045
                        refine Tp_gd (ti_ix (by omega) (by omega)) ?_
                        unfold f_MO_takeLine_160
                        have b1049 := MI_13 ci (c := 29) (p := q927.1.toNatClampNeg) rfl
                        have i1050 := ti_rg (mz_gI s 29 q927.1.toNatClampNeg)
                        refine Tp_bi (s_MO_addNumber hn ci  (t := t) (x1 := mz_gI t 29 q927.1.toNatClampNeg)) (fun q1047 h1048 => ?_)
                        have ci1051 := h1048
                        unfold f_MO_takeLine_163
                        have l1052 : ((0 : Int32)).toInt = 0 := rfl
                        first | (have a1053 : ((x3 + (1 : Int32)) + (1 : Int32)).toInt = (x3 + (1 : Int32)).toInt + ((1 : Int32)).toInt := ti_add (by omega) (by omega)) | (have a1054 := ti_rg ((x3 + (1 : Int32)) + (1 : Int32)))
                        have b1055 := MI_g23 ci1051 (c := 0) (p := 60) rfl
                        exact ih x1 (0 : Int32) ((x3 + (1 : Int32)) + (1 : Int32)) q1047 ci1051 (by omega) (by omega) (by omega) (by omega) (by omega) (by omega) (by omega)
                      · have g1056 := ti_nq h1045
                        refine Tp_gd (ti_ix (by omega) (by omega)) ?_
                        unfold f_MO_takeLine_160
                        have b1059 := MI_13 ci (c := 27) (p := q927.1.toNatClampNeg) rfl
                        have b1060 := FX_27 ci.1 q927.1.toNatClampNeg
                        refine Tp_bi (s_MO_addNumber hn ci  (t := t) (x1 := mz_gI t 27 q927.1.toNatClampNeg)) (fun q1057 h1058 => ?_)
                        have ci1061 := h1058
                        unfold f_MO_takeLine_163
                        have l1062 : ((0 : Int32)).toInt = 0 := rfl
                        first | (have a1063 : ((x3 + (1 : Int32)) + (1 : Int32)).toInt = (x3 + (1 : Int32)).toInt + ((1 : Int32)).toInt := ti_add (by omega) (by omega)) | (have a1064 := ti_rg ((x3 + (1 : Int32)) + (1 : Int32)))
                        have b1065 := MI_g23 ci1061 (c := 0) (p := 60) rfl
                        exact ih x1 (0 : Int32) ((x3 + (1 : Int32)) + (1 : Int32)) q1057 ci1061 (by omega) (by omega) (by omega) (by omega) (by omega) (by omega) (by omega)
                  · have g1066 := ti_nq h1033
                    have i1067 := ti_rg x2
                    have l1068 : (0 : Int32).toInt = 0 := rfl
                    refine Tp_if (fun h1069 => ?_) (fun h1069 => ?_)
                    · have g1070 := ti_l h1069
                      have i1071 := ti_rg q927.1
                      unfold f_MO_takeLine_128
                      unfold f_MO_takeLine_129
                      refine Tp_if (fun h1072 => ?_) (fun h1072 => ?_)
                      · have g1073 := ti_l h1072
                        unfold f_MO_takeLine_163
                        have l1074 : ((0 : Int32)).toInt = 0 := rfl
                        first | (have a1075 : ((x3 + (1 : Int32)) + (1 : Int32)).toInt = (x3 + (1 : Int32)).toInt + ((1 : Int32)).toInt := ti_add (by omega) (by omega)) | (have a1076 := ti_rg ((x3 + (1 : Int32)) + (1 : Int32)))
                        exact ih x1 (0 : Int32) ((x3 + (1 : Int32)) + (1 : Int32)) t ci (by omega) (by omega) (by omega) (by omega) (by omega) (by omega) (by omega)
                      · have g1077 := ti_nl h1072
                        refine Tp_if (fun h1078 => ?_) (fun h1078 => ?_)
                        · have g1079 := ti_q h1078
                          refine Tp_gd (ti_ix (by omega) (by omega)) ?_
                          unfold f_MO_takeLine_160
                          have b1082 := MI_13 ci (c := 29) (p := q927.1.toNatClampNeg) rfl
                          have i1083 := ti_rg (mz_gI s 29 q927.1.toNatClampNeg)
                          refine Tp_bi (s_MO_addNumber hn ci  (t := t) (x1 := mz_gI t 29 q927.1.toNatClampNeg)) (fun q1080 h1081 => ?_)
                          have ci1084 := h1081
                          unfold f_MO_takeLine_163
                          have l1085 : ((0 : Int32)).toInt = 0 := rfl
                          first | (have a1086 : ((x3 + (1 : Int32)) + (1 : Int32)).toInt = (x3 + (1 : Int32)).toInt + ((1 : Int32)).toInt := ti_add (by omega) (by omega)) | (have a1087 := ti_rg ((x3 + (1 : Int32)) + (1 : Int32)))
                          have b1088 := MI_g23 ci1084 (c := 0) (p := 60) rfl
                          exact ih x1 (0 : Int32) ((x3 + (1 : Int32)) + (1 : Int32)) q1080 ci1084 (by omega) (by omega) (by omega) (by omega) (by omega) (by omega) (by omega)
                        · have g1089 := ti_nq h1078
                          refine Tp_gd (ti_ix (by omega) (by omega)) ?_
                          unfold f_MO_takeLine_160
                          have b1092 := MI_13 ci (c := 27) (p := q927.1.toNatClampNeg) rfl
                          have b1093 := FX_27 ci.1 q927.1.toNatClampNeg
                          refine Tp_bi (s_MO_addNumber hn ci  (t := t) (x1 := mz_gI t 27 q927.1.toNatClampNeg)) (fun q1090 h1091 => ?_)
                          have ci1094 := h1091
                          unfold f_MO_takeLine_163
                          have l1095 : ((0 : Int32)).toInt = 0 := rfl
                          first | (have a1096 : ((x3 + (1 : Int32)) + (1 : Int32)).toInt = (x3 + (1 : Int32)).toInt + ((1 : Int32)).toInt := ti_add (by omega) (by omega)) | (have a1097 := ti_rg ((x3 + (1 : Int32)) + (1 : Int32)))
                          have b1098 := MI_g23 ci1094 (c := 0) (p := 60) rfl
                          exact ih x1 (0 : Int32) ((x3 + (1 : Int32)) + (1 : Int32)) q1090 ci1094 (by omega) (by omega) (by omega) (by omega) (by omega) (by omega) (by omega)
                    · have g1099 := ti_nl h1069
                      have i1100 := ti_rg q927.1
                      unfold f_MO_takeLine_129
                      refine Tp_if (fun h1101 => ?_) (fun h1101 => ?_)
                      · have g1102 := ti_l h1101
                        unfold f_MO_takeLine_163
                        first | (have a1103 : ((x3 + (1 : Int32)) + (1 : Int32)).toInt = (x3 + (1 : Int32)).toInt + ((1 : Int32)).toInt := ti_add (by omega) (by omega)) | (have a1104 := ti_rg ((x3 + (1 : Int32)) + (1 : Int32)))
                        exact ih x1 (1 : Int32) ((x3 + (1 : Int32)) + (1 : Int32)) t ci (by omega) (by omega) (by omega) (by omega) (by omega) (by omega) (by omega)
                      · have g1105 := ti_nl h1101
                        refine Tp_if (fun h1106 => ?_) (fun h1106 => ?_)
                        · have g1107 := ti_q h1106
                          refine Tp_gd (ti_ix (by omega) (by omega)) ?_
                          unfold f_MO_takeLine_160
                          have b1110 := MI_13 ci (c := 29) (p := q927.1.toNatClampNeg) rfl
                          have i1111 := ti_rg (mz_gI s 29 q927.1.toNatClampNeg)
                          refine Tp_bi (s_MO_addNumber hn ci  (t := t) (x1 := mz_gI t 29 q927.1.toNatClampNeg)) (fun q1108 h1109 => ?_)
                          have ci1112 := h1109
                          unfold f_MO_takeLine_163
                          first | (have a1113 : ((x3 + (1 : Int32)) + (1 : Int32)).toInt = (x3 + (1 : Int32)).toInt + ((1 : Int32)).toInt := ti_add (by omega) (by omega)) | (have a1114 := ti_rg ((x3 + (1 : Int32)) + (1 : Int32)))
                          have b1115 := MI_g23 ci1112 (c := 0) (p := 60) rfl
                          exact ih x1 (1 : Int32) ((x3 + (1 : Int32)) + (1 : Int32)) q1108 ci1112 (by omega) (by omega) (by omega) (by omega) (by omega) (by omega) (by omega)
                        · have g1116 := ti_nq h1106
                          refine Tp_gd (ti_ix (by omega) (by omega)) ?_
                          unfold f_MO_takeLine_160
                          have b1119 := MI_13 ci (c := 27) (p := q927.1.toNatClampNeg) rfl
                          have b1120 := FX_27 ci.1 q927.1.toNatClampNeg
                          refine Tp_bi (s_MO_addNumber hn ci  (t := t) (x1 := mz_gI t 27 q927.1.toNatClampNeg)) (fun q1117 h1118 => ?_)
                          have ci1121 := h1118
                          unfold f_MO_takeLine_163
                          first | (have a1122 : ((x3 + (1 : Int32)) + (1 : Int32)).toInt = (x3 + (1 : Int32)).toInt + ((1 : Int32)).toInt := ti_add (by omega) (by omega)) | (have a1123 := ti_rg ((x3 + (1 : Int32)) + (1 : Int32)))
                          have b1124 := MI_g23 ci1121 (c := 0) (p := 60) rfl
                          exact ih x1 (1 : Int32) ((x3 + (1 : Int32)) + (1 : Int32)) q1117 ci1121 (by omega) (by omega) (by omega) (by omega) (by omega) (by omega) (by omega)
                · have g1125 := ti_nq h1030
                  have l1126 : ((63 : Int32)).toInt = 63 := rfl
                  have i1127 := ti_rg x2
                  have l1128 : ((0 : Int32)).toInt = 0 := rfl
                  refine Tp_mo (l_MO_takeLine_178 hn ((x3 + (1 : Int32)).toInt - 1) n x1 x2 (x3 + (1 : Int32)) (0 : Int64) (0 : Int64) (0 : Int32) t ci (by omega) (by omega) (by omega) (by omega) (by omega) (by omega) (fun y z u cu h1 h2 => ih x1 y z u cu (by omega) (by omega) (by omega) (by omega) (by omega) (by omega) (by omega)) (by omega)) (fun q1129 h1130 => ?_)
                  obtain ⟨ci1131, p1132, p1133, p1134⟩ := h1130
                  have b1135 := MI_g23 ci1131 (c := 0) (p := 60) rfl
                  have i1136 := ti_rg q1129.1
                  refine ⟨ci1131, ?_, ?_, ?_⟩
                  · (try dsimp only) <;> first | omega | assumption
                  · (try dsimp only) <;> first | omega | assumption
                  · (try dsimp only) <;> first | omega | assumption
            · have g1137 := ti_nq h923
              have l1138 : ((-1 : Int32)).toInt = -1 := rfl
              have l1139 : ((64 : Int32)).toInt = 64 := rfl
              refine Tp_bi (s_MO_givingFrame hn ci  (t := t)) (fun q1140 h1141 => ?_)
              obtain ⟨ci1142, E1143, p1144, p1145⟩ := h1141
              try rw [E1143]
              unfold f_MO_takeLine_99
              refine Tp_if (fun h1146 => ?_) (fun h1146 => ?_)
              · have g1147 := ti_q h1146
                unfold f_MO_takeLine_115
                refine Tp_if (fun h1148 => ?_) (fun h1148 => ?_)
                · have g1149 := ti_q h1148
                  have i1150 := ti_rg x2
                  have l1151 : (0 : Int32).toInt = 0 := rfl
                  unfold f_MO_takeLine_128
                  unfold f_MO_takeLine_129
                  refine Tp_if (fun h1152 => ?_) (fun h1152 => ?_)
                  · have g1153 := ti_l h1152
                    have i1154 := ti_rg q1140.1
                    unfold f_MO_takeLine_163
                    have l1155 : ((0 : Int32)).toInt = 0 := rfl
                    first | (have a1156 : ((x3 + (1 : Int32)) + (1 : Int32)).toInt = (x3 + (1 : Int32)).toInt + ((1 : Int32)).toInt := ti_add (by omega) (by omega)) | (have a1157 := ti_rg ((x3 + (1 : Int32)) + (1 : Int32)))
                    exact ih x1 (0 : Int32) ((x3 + (1 : Int32)) + (1 : Int32)) t ci (by omega) (by omega) (by omega) (by omega) (by omega) (by omega) (by omega)
                  · have g1158 := ti_nl h1152
                    have i1159 := ti_rg q1140.1
                    refine Tp_if (fun h1160 => ?_) (fun h1160 => ?_)
                    · have g1161 := ti_q h1160
                      refine Tp_gd (ti_ix (by omega) (by omega)) ?_
                      unfold f_MO_takeLine_160
                      have b1164 := MI_13 ci (c := 29) (p := q1140.1.toNatClampNeg) rfl
                      have i1165 := ti_rg (mz_gI s 29 q1140.1.toNatClampNeg)
                      refine Tp_bi (s_MO_addNumber hn ci  (t := t) (x1 := mz_gI t 29 q1140.1.toNatClampNeg)) (fun q1162 h1163 => ?_)
                      have ci1166 := h1163
                      unfold f_MO_takeLine_163
                      have l1167 : ((0 : Int32)).toInt = 0 := rfl
                      first | (have a1168 : ((x3 + (1 : Int32)) + (1 : Int32)).toInt = (x3 + (1 : Int32)).toInt + ((1 : Int32)).toInt := ti_add (by omega) (by omega)) | (have a1169 := ti_rg ((x3 + (1 : Int32)) + (1 : Int32)))
                      have b1170 := MI_g23 ci1166 (c := 0) (p := 60) rfl
                      exact ih x1 (0 : Int32) ((x3 + (1 : Int32)) + (1 : Int32)) q1162 ci1166 (by omega) (by omega) (by omega) (by omega) (by omega) (by omega) (by omega)
                    · have g1171 := ti_nq h1160
                      refine Tp_gd (ti_ix (by omega) (by omega)) ?_
                      unfold f_MO_takeLine_160
                      have b1174 := MI_13 ci (c := 27) (p := q1140.1.toNatClampNeg) rfl
                      have b1175 := FX_27 ci.1 q1140.1.toNatClampNeg
                      refine Tp_bi (s_MO_addNumber hn ci  (t := t) (x1 := mz_gI t 27 q1140.1.toNatClampNeg)) (fun q1172 h1173 => ?_)
                      have ci1176 := h1173
                      unfold f_MO_takeLine_163
                      have l1177 : ((0 : Int32)).toInt = 0 := rfl
                      first | (have a1178 : ((x3 + (1 : Int32)) + (1 : Int32)).toInt = (x3 + (1 : Int32)).toInt + ((1 : Int32)).toInt := ti_add (by omega) (by omega)) | (have a1179 := ti_rg ((x3 + (1 : Int32)) + (1 : Int32)))
                      have b1180 := MI_g23 ci1176 (c := 0) (p := 60) rfl
                      exact ih x1 (0 : Int32) ((x3 + (1 : Int32)) + (1 : Int32)) q1172 ci1176 (by omega) (by omega) (by omega) (by omega) (by omega) (by omega) (by omega)
                · have g1181 := ti_nq h1148
                  have i1182 := ti_rg x2
                  have l1183 : (0 : Int32).toInt = 0 := rfl
                  refine Tp_if (fun h1184 => ?_) (fun h1184 => ?_)
                  · have g1185 := ti_l h1184
                    have i1186 := ti_rg q1140.1
                    unfold f_MO_takeLine_128
                    unfold f_MO_takeLine_129
                    refine Tp_if (fun h1187 => ?_) (fun h1187 => ?_)
                    · have g1188 := ti_l h1187
                      unfold f_MO_takeLine_163
                      have l1189 : ((0 : Int32)).toInt = 0 := rfl
                      first | (have a1190 : ((x3 + (1 : Int32)) + (1 : Int32)).toInt = (x3 + (1 : Int32)).toInt + ((1 : Int32)).toInt := ti_add (by omega) (by omega)) | (have a1191 := ti_rg ((x3 + (1 : Int32)) + (1 : Int32)))
                      exact ih x1 (0 : Int32) ((x3 + (1 : Int32)) + (1 : Int32)) t ci (by omega) (by omega) (by omega) (by omega) (by omega) (by omega) (by omega)
                    · have g1192 := ti_nl h1187
                      refine Tp_if (fun h1193 => ?_) (fun h1193 => ?_)
                      · have g1194 := ti_q h1193
                        refine Tp_gd (ti_ix (by omega) (by omega)) ?_
                        unfold f_MO_takeLine_160
                        have b1197 := MI_13 ci (c := 29) (p := q1140.1.toNatClampNeg) rfl
                        have i1198 := ti_rg (mz_gI s 29 q1140.1.toNatClampNeg)
                        refine Tp_bi (s_MO_addNumber hn ci  (t := t) (x1 := mz_gI t 29 q1140.1.toNatClampNeg)) (fun q1195 h1196 => ?_)
                        have ci1199 := h1196
                        unfold f_MO_takeLine_163
                        have l1200 : ((0 : Int32)).toInt = 0 := rfl
                        first | (have a1201 : ((x3 + (1 : Int32)) + (1 : Int32)).toInt = (x3 + (1 : Int32)).toInt + ((1 : Int32)).toInt := ti_add (by omega) (by omega)) | (have a1202 := ti_rg ((x3 + (1 : Int32)) + (1 : Int32)))
                        have b1203 := MI_g23 ci1199 (c := 0) (p := 60) rfl
                        exact ih x1 (0 : Int32) ((x3 + (1 : Int32)) + (1 : Int32)) q1195 ci1199 (by omega) (by omega) (by omega) (by omega) (by omega) (by omega) (by omega)
                      · have g1204 := ti_nq h1193
                        refine Tp_gd (ti_ix (by omega) (by omega)) ?_
                        unfold f_MO_takeLine_160
                        have b1207 := MI_13 ci (c := 27) (p := q1140.1.toNatClampNeg) rfl
                        have b1208 := FX_27 ci.1 q1140.1.toNatClampNeg
                        refine Tp_bi (s_MO_addNumber hn ci  (t := t) (x1 := mz_gI t 27 q1140.1.toNatClampNeg)) (fun q1205 h1206 => ?_)
                        have ci1209 := h1206
                        unfold f_MO_takeLine_163
                        have l1210 : ((0 : Int32)).toInt = 0 := rfl
                        first | (have a1211 : ((x3 + (1 : Int32)) + (1 : Int32)).toInt = (x3 + (1 : Int32)).toInt + ((1 : Int32)).toInt := ti_add (by omega) (by omega)) | (have a1212 := ti_rg ((x3 + (1 : Int32)) + (1 : Int32)))
                        have b1213 := MI_g23 ci1209 (c := 0) (p := 60) rfl
                        exact ih x1 (0 : Int32) ((x3 + (1 : Int32)) + (1 : Int32)) q1205 ci1209 (by omega) (by omega) (by omega) (by omega) (by omega) (by omega) (by omega)
                  · have g1214 := ti_nl h1184
                    have i1215 := ti_rg q1140.1
                    unfold f_MO_takeLine_129
                    refine Tp_if (fun h1216 => ?_) (fun h1216 => ?_)
                    · have g1217 := ti_l h1216
                      unfold f_MO_takeLine_163
                      first | (have a1218 : ((x3 + (1 : Int32)) + (1 : Int32)).toInt = (x3 + (1 : Int32)).toInt + ((1 : Int32)).toInt := ti_add (by omega) (by omega)) | (have a1219 := ti_rg ((x3 + (1 : Int32)) + (1 : Int32)))
                      exact ih x1 (1 : Int32) ((x3 + (1 : Int32)) + (1 : Int32)) t ci (by omega) (by omega) (by omega) (by omega) (by omega) (by omega) (by omega)
                    · have g1220 := ti_nl h1216
                      refine Tp_if (fun h1221 => ?_) (fun h1221 => ?_)
                      · have g1222 := ti_q h1221
                        refine Tp_gd (ti_ix (by omega) (by omega)) ?_
                        unfold f_MO_takeLine_160
                        have b1225 := MI_13 ci (c := 29) (p := q1140.1.toNatClampNeg) rfl
                        have i1226 := ti_rg (mz_gI s 29 q1140.1.toNatClampNeg)
                        refine Tp_bi (s_MO_addNumber hn ci  (t := t) (x1 := mz_gI t 29 q1140.1.toNatClampNeg)) (fun q1223 h1224 => ?_)
                        have ci1227 := h1224
                        unfold f_MO_takeLine_163
                        first | (have a1228 : ((x3 + (1 : Int32)) + (1 : Int32)).toInt = (x3 + (1 : Int32)).toInt + ((1 : Int32)).toInt := ti_add (by omega) (by omega)) | (have a1229 := ti_rg ((x3 + (1 : Int32)) + (1 : Int32)))
                        have b1230 := MI_g23 ci1227 (c := 0) (p := 60) rfl
                        exact ih x1 (1 : Int32) ((x3 + (1 : Int32)) + (1 : Int32)) q1223 ci1227 (by omega) (by omega) (by omega) (by omega) (by omega) (by omega) (by omega)
                      · have g1231 := ti_nq h1221
                        refine Tp_gd (ti_ix (by omega) (by omega)) ?_
                        unfold f_MO_takeLine_160
                        have b1234 := MI_13 ci (c := 27) (p := q1140.1.toNatClampNeg) rfl
                        have b1235 := FX_27 ci.1 q1140.1.toNatClampNeg
                        refine Tp_bi (s_MO_addNumber hn ci  (t := t) (x1 := mz_gI t 27 q1140.1.toNatClampNeg)) (fun q1232 h1233 => ?_)
                        have ci1236 := h1233
                        unfold f_MO_takeLine_163
                        first | (have a1237 : ((x3 + (1 : Int32)) + (1 : Int32)).toInt = (x3 + (1 : Int32)).toInt + ((1 : Int32)).toInt := ti_add (by omega) (by omega)) | (have a1238 := ti_rg ((x3 + (1 : Int32)) + (1 : Int32)))
                        have b1239 := MI_g23 ci1236 (c := 0) (p := 60) rfl
                        exact ih x1 (1 : Int32) ((x3 + (1 : Int32)) + (1 : Int32)) q1232 ci1236 (by omega) (by omega) (by omega) (by omega) (by omega) (by omega) (by omega)
              · have g1240 := ti_nq h1146
                refine Tp_if (fun h1241 => ?_) (fun h1241 => ?_)
                · have g1242 := ti_q h1241
                  have l1243 : ((63 : Int32)).toInt = 63 := rfl
                  unfold f_MO_takeLine_115
                  refine Tp_if (fun h1244 => ?_) (fun h1244 => ?_)
                  · have g1245 := ti_q h1244
                    have i1246 := ti_rg x2
                    have l1247 : (0 : Int32).toInt = 0 := rfl
                    unfold f_MO_takeLine_128
                    unfold f_MO_takeLine_129
                    refine Tp_if (fun h1248 => ?_) (fun h1248 => ?_)
                    · have g1249 := ti_l h1248
                      have i1250 := ti_rg q1140.1
                      unfold f_MO_takeLine_163
                      have l1251 : ((0 : Int32)).toInt = 0 := rfl
                      first | (have a1252 : ((x3 + (1 : Int32)) + (1 : Int32)).toInt = (x3 + (1 : Int32)).toInt + ((1 : Int32)).toInt := ti_add (by omega) (by omega)) | (have a1253 := ti_rg ((x3 + (1 : Int32)) + (1 : Int32)))
                      exact ih x1 (0 : Int32) ((x3 + (1 : Int32)) + (1 : Int32)) t ci (by omega) (by omega) (by omega) (by omega) (by omega) (by omega) (by omega)
                    · have g1254 := ti_nl h1248
                      have i1255 := ti_rg q1140.1
                      refine Tp_if (fun h1256 => ?_) (fun h1256 => ?_)
                      · have g1257 := ti_q h1256
                        refine Tp_gd (ti_ix (by omega) (by omega)) ?_
                        unfold f_MO_takeLine_160
                        have b1260 := MI_13 ci (c := 29) (p := q1140.1.toNatClampNeg) rfl
                        have i1261 := ti_rg (mz_gI s 29 q1140.1.toNatClampNeg)
                        refine Tp_bi (s_MO_addNumber hn ci  (t := t) (x1 := mz_gI t 29 q1140.1.toNatClampNeg)) (fun q1258 h1259 => ?_)
                        have ci1262 := h1259
                        unfold f_MO_takeLine_163
                        have l1263 : ((0 : Int32)).toInt = 0 := rfl
                        first | (have a1264 : ((x3 + (1 : Int32)) + (1 : Int32)).toInt = (x3 + (1 : Int32)).toInt + ((1 : Int32)).toInt := ti_add (by omega) (by omega)) | (have a1265 := ti_rg ((x3 + (1 : Int32)) + (1 : Int32)))
                        have b1266 := MI_g23 ci1262 (c := 0) (p := 60) rfl
                        exact ih x1 (0 : Int32) ((x3 + (1 : Int32)) + (1 : Int32)) q1258 ci1262 (by omega) (by omega) (by omega) (by omega) (by omega) (by omega) (by omega)
                      · have g1267 := ti_nq h1256
                        refine Tp_gd (ti_ix (by omega) (by omega)) ?_
                        unfold f_MO_takeLine_160
                        have b1270 := MI_13 ci (c := 27) (p := q1140.1.toNatClampNeg) rfl
                        have b1271 := FX_27 ci.1 q1140.1.toNatClampNeg
                        refine Tp_bi (s_MO_addNumber hn ci  (t := t) (x1 := mz_gI t 27 q1140.1.toNatClampNeg)) (fun q1268 h1269 => ?_)
                        have ci1272 := h1269
                        unfold f_MO_takeLine_163
                        have l1273 : ((0 : Int32)).toInt = 0 := rfl
                        first | (have a1274 : ((x3 + (1 : Int32)) + (1 : Int32)).toInt = (x3 + (1 : Int32)).toInt + ((1 : Int32)).toInt := ti_add (by omega) (by omega)) | (have a1275 := ti_rg ((x3 + (1 : Int32)) + (1 : Int32)))
                        have b1276 := MI_g23 ci1272 (c := 0) (p := 60) rfl
                        exact ih x1 (0 : Int32) ((x3 + (1 : Int32)) + (1 : Int32)) q1268 ci1272 (by omega) (by omega) (by omega) (by omega) (by omega) (by omega) (by omega)
                  · have g1277 := ti_nq h1244
                    have i1278 := ti_rg x2
                    have l1279 : (0 : Int32).toInt = 0 := rfl
                    refine Tp_if (fun h1280 => ?_) (fun h1280 => ?_)
                    · have g1281 := ti_l h1280
                      have i1282 := ti_rg q1140.1
                      unfold f_MO_takeLine_128
                      unfold f_MO_takeLine_129
                      refine Tp_if (fun h1283 => ?_) (fun h1283 => ?_)
                      · have g1284 := ti_l h1283
                        unfold f_MO_takeLine_163
                        have l1285 : ((0 : Int32)).toInt = 0 := rfl
                        first | (have a1286 : ((x3 + (1 : Int32)) + (1 : Int32)).toInt = (x3 + (1 : Int32)).toInt + ((1 : Int32)).toInt := ti_add (by omega) (by omega)) | (have a1287 := ti_rg ((x3 + (1 : Int32)) + (1 : Int32)))
                        exact ih x1 (0 : Int32) ((x3 + (1 : Int32)) + (1 : Int32)) t ci (by omega) (by omega) (by omega) (by omega) (by omega) (by omega) (by omega)
                      · have g1288 := ti_nl h1283
                        refine Tp_if (fun h1289 => ?_) (fun h1289 => ?_)
                        · have g1290 := ti_q h1289
                          refine Tp_gd (ti_ix (by omega) (by omega)) ?_
                          unfold f_MO_takeLine_160
                          have b1293 := MI_13 ci (c := 29) (p := q1140.1.toNatClampNeg) rfl
                          have i1294 := ti_rg (mz_gI s 29 q1140.1.toNatClampNeg)
                          refine Tp_bi (s_MO_addNumber hn ci  (t := t) (x1 := mz_gI t 29 q1140.1.toNatClampNeg)) (fun q1291 h1292 => ?_)
                          have ci1295 := h1292
                          unfold f_MO_takeLine_163
                          have l1296 : ((0 : Int32)).toInt = 0 := rfl
                          first | (have a1297 : ((x3 + (1 : Int32)) + (1 : Int32)).toInt = (x3 + (1 : Int32)).toInt + ((1 : Int32)).toInt := ti_add (by omega) (by omega)) | (have a1298 := ti_rg ((x3 + (1 : Int32)) + (1 : Int32)))
                          have b1299 := MI_g23 ci1295 (c := 0) (p := 60) rfl
                          exact ih x1 (0 : Int32) ((x3 + (1 : Int32)) + (1 : Int32)) q1291 ci1295 (by omega) (by omega) (by omega) (by omega) (by omega) (by omega) (by omega)
                        · have g1300 := ti_nq h1289
                          refine Tp_gd (ti_ix (by omega) (by omega)) ?_
                          unfold f_MO_takeLine_160
                          have b1303 := MI_13 ci (c := 27) (p := q1140.1.toNatClampNeg) rfl
                          have b1304 := FX_27 ci.1 q1140.1.toNatClampNeg
                          refine Tp_bi (s_MO_addNumber hn ci  (t := t) (x1 := mz_gI t 27 q1140.1.toNatClampNeg)) (fun q1301 h1302 => ?_)
                          have ci1305 := h1302
                          unfold f_MO_takeLine_163
                          have l1306 : ((0 : Int32)).toInt = 0 := rfl
                          first | (have a1307 : ((x3 + (1 : Int32)) + (1 : Int32)).toInt = (x3 + (1 : Int32)).toInt + ((1 : Int32)).toInt := ti_add (by omega) (by omega)) | (have a1308 := ti_rg ((x3 + (1 : Int32)) + (1 : Int32)))
                          have b1309 := MI_g23 ci1305 (c := 0) (p := 60) rfl
                          exact ih x1 (0 : Int32) ((x3 + (1 : Int32)) + (1 : Int32)) q1301 ci1305 (by omega) (by omega) (by omega) (by omega) (by omega) (by omega) (by omega)
                    · have g1310 := ti_nl h1280
                      have i1311 := ti_rg q1140.1
                      unfold f_MO_takeLine_129
                      refine Tp_if (fun h1312 => ?_) (fun h1312 => ?_)
                      · have g1313 := ti_l h1312
                        unfold f_MO_takeLine_163
                        first | (have a1314 : ((x3 + (1 : Int32)) + (1 : Int32)).toInt = (x3 + (1 : Int32)).toInt + ((1 : Int32)).toInt := ti_add (by omega) (by omega)) | (have a1315 := ti_rg ((x3 + (1 : Int32)) + (1 : Int32)))
                        exact ih x1 (1 : Int32) ((x3 + (1 : Int32)) + (1 : Int32)) t ci (by omega) (by omega) (by omega) (by omega) (by omega) (by omega) (by omega)
                      · have g1316 := ti_nl h1312
                        refine Tp_if (fun h1317 => ?_) (fun h1317 => ?_)
                        · have g1318 := ti_q h1317
                          refine Tp_gd (ti_ix (by omega) (by omega)) ?_
                          unfold f_MO_takeLine_160
                          have b1321 := MI_13 ci (c := 29) (p := q1140.1.toNatClampNeg) rfl
                          have i1322 := ti_rg (mz_gI s 29 q1140.1.toNatClampNeg)
                          refine Tp_bi (s_MO_addNumber hn ci  (t := t) (x1 := mz_gI t 29 q1140.1.toNatClampNeg)) (fun q1319 h1320 => ?_)
                          have ci1323 := h1320
                          unfold f_MO_takeLine_163
                          first | (have a1324 : ((x3 + (1 : Int32)) + (1 : Int32)).toInt = (x3 + (1 : Int32)).toInt + ((1 : Int32)).toInt := ti_add (by omega) (by omega)) | (have a1325 := ti_rg ((x3 + (1 : Int32)) + (1 : Int32)))
                          have b1326 := MI_g23 ci1323 (c := 0) (p := 60) rfl
                          exact ih x1 (1 : Int32) ((x3 + (1 : Int32)) + (1 : Int32)) q1319 ci1323 (by omega) (by omega) (by omega) (by omega) (by omega) (by omega) (by omega)
                        · have g1327 := ti_nq h1317
                          refine Tp_gd (ti_ix (by omega) (by omega)) ?_
                          unfold f_MO_takeLine_160
                          have b1330 := MI_13 ci (c := 27) (p := q1140.1.toNatClampNeg) rfl
                          have b1331 := FX_27 ci.1 q1140.1.toNatClampNeg
                          refine Tp_bi (s_MO_addNumber hn ci  (t := t) (x1 := mz_gI t 27 q1140.1.toNatClampNeg)) (fun q1328 h1329 => ?_)
                          have ci1332 := h1329
                          unfold f_MO_takeLine_163
                          first | (have a1333 : ((x3 + (1 : Int32)) + (1 : Int32)).toInt = (x3 + (1 : Int32)).toInt + ((1 : Int32)).toInt := ti_add (by omega) (by omega)) | (have a1334 := ti_rg ((x3 + (1 : Int32)) + (1 : Int32)))
                          have b1335 := MI_g23 ci1332 (c := 0) (p := 60) rfl
                          exact ih x1 (1 : Int32) ((x3 + (1 : Int32)) + (1 : Int32)) q1328 ci1332 (by omega) (by omega) (by omega) (by omega) (by omega) (by omega) (by omega)
                · have g1336 := ti_nq h1241
                  have l1337 : ((63 : Int32)).toInt = 63 := rfl
                  have i1338 := ti_rg x2
                  have l1339 : ((0 : Int32)).toInt = 0 := rfl
                  refine Tp_mo (l_MO_takeLine_178 hn ((x3 + (1 : Int32)).toInt - 1) n x1 x2 (x3 + (1 : Int32)) (0 : Int64) (0 : Int64) (0 : Int32) t ci (by omega) (by omega) (by omega) (by omega) (by omega) (by omega) (fun y z u cu h1 h2 => ih x1 y z u cu (by omega) (by omega) (by omega) (by omega) (by omega) (by omega) (by omega)) (by omega)) (fun q1340 h1341 => ?_)
                  obtain ⟨ci1342, p1343, p1344, p1345⟩ := h1341
                  have b1346 := MI_g23 ci1342 (c := 0) (p := 60) rfl
                  have i1347 := ti_rg q1340.1
                  refine ⟨ci1342, ?_, ?_, ?_⟩
                  · (try dsimp only) <;> first | omega | assumption
                  · (try dsimp only) <;> first | omega | assumption
                  · (try dsimp only) <;> first | omega | assumption
          · have g1348 := ti_ne h919
            first | (have a1349 : (x3 + (1 : Int32)).toInt = (x3).toInt + ((1 : Int32)).toInt := ti_add (by omega) (by omega)) | (have a1350 := ti_rg (x3 + (1 : Int32)))
            refine Tp_gd (ti_ix (by omega) (by omega)) ?_
            unfold f_MO_takeLine_79
            refine Tp_if (fun h1351 => ?_) (fun h1351 => ?_)
            · have g1352 := ti_q h1351
              have b1353 := MI_13 ci (c := 1) (p := (x3 + (1 : Int32)).toNatClampNeg) rfl
              have i1354 := ti_rg (mz_gI s 1 (x3 + (1 : Int32)).toNatClampNeg)
              have l1355 : ((64 : Int32)).toInt = 64 := rfl
              refine Tp_bi (s_MO_macroFrame hn ci  (t := t)) (fun q1356 h1357 => ?_)
              obtain ⟨ci1358, E1359, p1360, p1361, p1362, p1363⟩ := h1357
              try rw [E1359]
              unfold f_MO_takeLine_99
              refine Tp_if (fun h1364 => ?_) (fun h1364 => ?_)
              · have g1365 := ti_q h1364
                unfold f_MO_takeLine_115
                refine Tp_if (fun h1366 => ?_) (fun h1366 => ?_)
                · have g1367 := ti_q h1366
                  have i1368 := ti_rg x2
                  have l1369 : (0 : Int32).toInt = 0 := rfl
                  unfold f_MO_takeLine_128
                  unfold f_MO_takeLine_129
                  refine Tp_if (fun h1370 => ?_) (fun h1370 => ?_)
                  · have g1371 := ti_l h1370
                    have i1372 := ti_rg q1356.1
                    unfold f_MO_takeLine_163
                    have l1373 : ((0 : Int32)).toInt = 0 := rfl
                    first | (have a1374 : ((x3 + (1 : Int32)) + (1 : Int32)).toInt = (x3 + (1 : Int32)).toInt + ((1 : Int32)).toInt := ti_add (by omega) (by omega)) | (have a1375 := ti_rg ((x3 + (1 : Int32)) + (1 : Int32)))
                    exact ih x1 (0 : Int32) ((x3 + (1 : Int32)) + (1 : Int32)) t ci (by omega) (by omega) (by omega) (by omega) (by omega) (by omega) (by omega)
                  · have g1376 := ti_nl h1370
                    have i1377 := ti_rg q1356.1
                    refine Tp_if (fun h1378 => ?_) (fun h1378 => ?_)
                    · have g1379 := ti_q h1378
                      refine Tp_gd (ti_ix (by omega) (by omega)) ?_
                      unfold f_MO_takeLine_160
                      have b1382 := MI_13 ci (c := 29) (p := q1356.1.toNatClampNeg) rfl
                      have i1383 := ti_rg (mz_gI s 29 q1356.1.toNatClampNeg)
                      refine Tp_bi (s_MO_addNumber hn ci  (t := t) (x1 := mz_gI t 29 q1356.1.toNatClampNeg)) (fun q1380 h1381 => ?_)
                      have ci1384 := h1381
                      unfold f_MO_takeLine_163
                      have l1385 : ((0 : Int32)).toInt = 0 := rfl
                      first | (have a1386 : ((x3 + (1 : Int32)) + (1 : Int32)).toInt = (x3 + (1 : Int32)).toInt + ((1 : Int32)).toInt := ti_add (by omega) (by omega)) | (have a1387 := ti_rg ((x3 + (1 : Int32)) + (1 : Int32)))
                      have b1388 := MI_g23 ci1384 (c := 0) (p := 60) rfl
                      exact ih x1 (0 : Int32) ((x3 + (1 : Int32)) + (1 : Int32)) q1380 ci1384 (by omega) (by omega) (by omega) (by omega) (by omega) (by omega) (by omega)
                    · have g1389 := ti_nq h1378
                      refine Tp_gd (ti_ix (by omega) (by omega)) ?_
                      unfold f_MO_takeLine_160
                      have b1392 := MI_13 ci (c := 27) (p := q1356.1.toNatClampNeg) rfl
                      have b1393 := FX_27 ci.1 q1356.1.toNatClampNeg
                      refine Tp_bi (s_MO_addNumber hn ci  (t := t) (x1 := mz_gI t 27 q1356.1.toNatClampNeg)) (fun q1390 h1391 => ?_)
                      have ci1394 := h1391
                      unfold f_MO_takeLine_163
                      have l1395 : ((0 : Int32)).toInt = 0 := rfl
                      first | (have a1396 : ((x3 + (1 : Int32)) + (1 : Int32)).toInt = (x3 + (1 : Int32)).toInt + ((1 : Int32)).toInt := ti_add (by omega) (by omega)) | (have a1397 := ti_rg ((x3 + (1 : Int32)) + (1 : Int32)))
                      have b1398 := MI_g23 ci1394 (c := 0) (p := 60) rfl
                      exact ih x1 (0 : Int32) ((x3 + (1 : Int32)) + (1 : Int32)) q1390 ci1394 (by omega) (by omega) (by omega) (by omega) (by omega) (by omega) (by omega)
                · have g1399 := ti_nq h1366
                  have i1400 := ti_rg x2
                  have l1401 : (0 : Int32).toInt = 0 := rfl
                  refine Tp_if (fun h1402 => ?_) (fun h1402 => ?_)
                  · have g1403 := ti_l h1402
                    have i1404 := ti_rg q1356.1
                    unfold f_MO_takeLine_128
                    unfold f_MO_takeLine_129
                    refine Tp_if (fun h1405 => ?_) (fun h1405 => ?_)
                    · have g1406 := ti_l h1405
                      unfold f_MO_takeLine_163
                      have l1407 : ((0 : Int32)).toInt = 0 := rfl
                      first | (have a1408 : ((x3 + (1 : Int32)) + (1 : Int32)).toInt = (x3 + (1 : Int32)).toInt + ((1 : Int32)).toInt := ti_add (by omega) (by omega)) | (have a1409 := ti_rg ((x3 + (1 : Int32)) + (1 : Int32)))
                      exact ih x1 (0 : Int32) ((x3 + (1 : Int32)) + (1 : Int32)) t ci (by omega) (by omega) (by omega) (by omega) (by omega) (by omega) (by omega)
                    · have g1410 := ti_nl h1405
                      refine Tp_if (fun h1411 => ?_) (fun h1411 => ?_)
                      · have g1412 := ti_q h1411
                        refine Tp_gd (ti_ix (by omega) (by omega)) ?_
                        unfold f_MO_takeLine_160
                        have b1415 := MI_13 ci (c := 29) (p := q1356.1.toNatClampNeg) rfl
                        have i1416 := ti_rg (mz_gI s 29 q1356.1.toNatClampNeg)
                        refine Tp_bi (s_MO_addNumber hn ci  (t := t) (x1 := mz_gI t 29 q1356.1.toNatClampNeg)) (fun q1413 h1414 => ?_)
                        have ci1417 := h1414
                        unfold f_MO_takeLine_163
                        have l1418 : ((0 : Int32)).toInt = 0 := rfl
                        first | (have a1419 : ((x3 + (1 : Int32)) + (1 : Int32)).toInt = (x3 + (1 : Int32)).toInt + ((1 : Int32)).toInt := ti_add (by omega) (by omega)) | (have a1420 := ti_rg ((x3 + (1 : Int32)) + (1 : Int32)))
                        have b1421 := MI_g23 ci1417 (c := 0) (p := 60) rfl
                        exact ih x1 (0 : Int32) ((x3 + (1 : Int32)) + (1 : Int32)) q1413 ci1417 (by omega) (by omega) (by omega) (by omega) (by omega) (by omega) (by omega)
                      · have g1422 := ti_nq h1411
                        refine Tp_gd (ti_ix (by omega) (by omega)) ?_
                        unfold f_MO_takeLine_160
                        have b1425 := MI_13 ci (c := 27) (p := q1356.1.toNatClampNeg) rfl
                        have b1426 := FX_27 ci.1 q1356.1.toNatClampNeg
                        refine Tp_bi (s_MO_addNumber hn ci  (t := t) (x1 := mz_gI t 27 q1356.1.toNatClampNeg)) (fun q1423 h1424 => ?_)
                        have ci1427 := h1424
                        unfold f_MO_takeLine_163
                        have l1428 : ((0 : Int32)).toInt = 0 := rfl
                        first | (have a1429 : ((x3 + (1 : Int32)) + (1 : Int32)).toInt = (x3 + (1 : Int32)).toInt + ((1 : Int32)).toInt := ti_add (by omega) (by omega)) | (have a1430 := ti_rg ((x3 + (1 : Int32)) + (1 : Int32)))
                        have b1431 := MI_g23 ci1427 (c := 0) (p := 60) rfl
                        exact ih x1 (0 : Int32) ((x3 + (1 : Int32)) + (1 : Int32)) q1423 ci1427 (by omega) (by omega) (by omega) (by omega) (by omega) (by omega) (by omega)
                  · have g1432 := ti_nl h1402
                    have i1433 := ti_rg q1356.1
                    unfold f_MO_takeLine_129
                    refine Tp_if (fun h1434 => ?_) (fun h1434 => ?_)
                    · have g1435 := ti_l h1434
                      unfold f_MO_takeLine_163
                      first | (have a1436 : ((x3 + (1 : Int32)) + (1 : Int32)).toInt = (x3 + (1 : Int32)).toInt + ((1 : Int32)).toInt := ti_add (by omega) (by omega)) | (have a1437 := ti_rg ((x3 + (1 : Int32)) + (1 : Int32)))
                      exact ih x1 (1 : Int32) ((x3 + (1 : Int32)) + (1 : Int32)) t ci (by omega) (by omega) (by omega) (by omega) (by omega) (by omega) (by omega)
                    · have g1438 := ti_nl h1434
                      refine Tp_if (fun h1439 => ?_) (fun h1439 => ?_)
                      · have g1440 := ti_q h1439
                        refine Tp_gd (ti_ix (by omega) (by omega)) ?_
                        unfold f_MO_takeLine_160
                        have b1443 := MI_13 ci (c := 29) (p := q1356.1.toNatClampNeg) rfl
                        have i1444 := ti_rg (mz_gI s 29 q1356.1.toNatClampNeg)
                        refine Tp_bi (s_MO_addNumber hn ci  (t := t) (x1 := mz_gI t 29 q1356.1.toNatClampNeg)) (fun q1441 h1442 => ?_)
                        have ci1445 := h1442
                        unfold f_MO_takeLine_163
                        first | (have a1446 : ((x3 + (1 : Int32)) + (1 : Int32)).toInt = (x3 + (1 : Int32)).toInt + ((1 : Int32)).toInt := ti_add (by omega) (by omega)) | (have a1447 := ti_rg ((x3 + (1 : Int32)) + (1 : Int32)))
                        have b1448 := MI_g23 ci1445 (c := 0) (p := 60) rfl
                        exact ih x1 (1 : Int32) ((x3 + (1 : Int32)) + (1 : Int32)) q1441 ci1445 (by omega) (by omega) (by omega) (by omega) (by omega) (by omega) (by omega)
                      · have g1449 := ti_nq h1439
                        refine Tp_gd (ti_ix (by omega) (by omega)) ?_
                        unfold f_MO_takeLine_160
                        have b1452 := MI_13 ci (c := 27) (p := q1356.1.toNatClampNeg) rfl
                        have b1453 := FX_27 ci.1 q1356.1.toNatClampNeg
                        refine Tp_bi (s_MO_addNumber hn ci  (t := t) (x1 := mz_gI t 27 q1356.1.toNatClampNeg)) (fun q1450 h1451 => ?_)
                        have ci1454 := h1451
                        unfold f_MO_takeLine_163
                        first | (have a1455 : ((x3 + (1 : Int32)) + (1 : Int32)).toInt = (x3 + (1 : Int32)).toInt + ((1 : Int32)).toInt := ti_add (by omega) (by omega)) | (have a1456 := ti_rg ((x3 + (1 : Int32)) + (1 : Int32)))
                        have b1457 := MI_g23 ci1454 (c := 0) (p := 60) rfl
                        exact ih x1 (1 : Int32) ((x3 + (1 : Int32)) + (1 : Int32)) q1450 ci1454 (by omega) (by omega) (by omega) (by omega) (by omega) (by omega) (by omega)
              · have g1458 := ti_nq h1364
                refine Tp_if (fun h1459 => ?_) (fun h1459 => ?_)
                · have g1460 := ti_q h1459
                  have l1461 : ((63 : Int32)).toInt = 63 := rfl
                  unfold f_MO_takeLine_115
                  refine Tp_if (fun h1462 => ?_) (fun h1462 => ?_)
                  · have g1463 := ti_q h1462
                    have i1464 := ti_rg x2
                    have l1465 : (0 : Int32).toInt = 0 := rfl
                    unfold f_MO_takeLine_128
                    unfold f_MO_takeLine_129
                    refine Tp_if (fun h1466 => ?_) (fun h1466 => ?_)
                    · have g1467 := ti_l h1466
                      have i1468 := ti_rg q1356.1
                      unfold f_MO_takeLine_163
                      have l1469 : ((0 : Int32)).toInt = 0 := rfl
                      first | (have a1470 : ((x3 + (1 : Int32)) + (1 : Int32)).toInt = (x3 + (1 : Int32)).toInt + ((1 : Int32)).toInt := ti_add (by omega) (by omega)) | (have a1471 := ti_rg ((x3 + (1 : Int32)) + (1 : Int32)))
                      exact ih x1 (0 : Int32) ((x3 + (1 : Int32)) + (1 : Int32)) t ci (by omega) (by omega) (by omega) (by omega) (by omega) (by omega) (by omega)
                    · have g1472 := ti_nl h1466
                      have i1473 := ti_rg q1356.1
                      refine Tp_if (fun h1474 => ?_) (fun h1474 => ?_)
                      · have g1475 := ti_q h1474
                        refine Tp_gd (ti_ix (by omega) (by omega)) ?_
                        unfold f_MO_takeLine_160
                        have b1478 := MI_13 ci (c := 29) (p := q1356.1.toNatClampNeg) rfl
                        have i1479 := ti_rg (mz_gI s 29 q1356.1.toNatClampNeg)
                        refine Tp_bi (s_MO_addNumber hn ci  (t := t) (x1 := mz_gI t 29 q1356.1.toNatClampNeg)) (fun q1476 h1477 => ?_)
                        have ci1480 := h1477
                        unfold f_MO_takeLine_163
                        have l1481 : ((0 : Int32)).toInt = 0 := rfl
                        first | (have a1482 : ((x3 + (1 : Int32)) + (1 : Int32)).toInt = (x3 + (1 : Int32)).toInt + ((1 : Int32)).toInt := ti_add (by omega) (by omega)) | (have a1483 := ti_rg ((x3 + (1 : Int32)) + (1 : Int32)))
                        have b1484 := MI_g23 ci1480 (c := 0) (p := 60) rfl
                        exact ih x1 (0 : Int32) ((x3 + (1 : Int32)) + (1 : Int32)) q1476 ci1480 (by omega) (by omega) (by omega) (by omega) (by omega) (by omega) (by omega)
                      · have g1485 := ti_nq h1474
                        refine Tp_gd (ti_ix (by omega) (by omega)) ?_
                        unfold f_MO_takeLine_160
                        have b1488 := MI_13 ci (c := 27) (p := q1356.1.toNatClampNeg) rfl
                        have b1489 := FX_27 ci.1 q1356.1.toNatClampNeg
                        refine Tp_bi (s_MO_addNumber hn ci  (t := t) (x1 := mz_gI t 27 q1356.1.toNatClampNeg)) (fun q1486 h1487 => ?_)
                        have ci1490 := h1487
                        unfold f_MO_takeLine_163
                        have l1491 : ((0 : Int32)).toInt = 0 := rfl
                        first | (have a1492 : ((x3 + (1 : Int32)) + (1 : Int32)).toInt = (x3 + (1 : Int32)).toInt + ((1 : Int32)).toInt := ti_add (by omega) (by omega)) | (have a1493 := ti_rg ((x3 + (1 : Int32)) + (1 : Int32)))
                        have b1494 := MI_g23 ci1490 (c := 0) (p := 60) rfl
                        exact ih x1 (0 : Int32) ((x3 + (1 : Int32)) + (1 : Int32)) q1486 ci1490 (by omega) (by omega) (by omega) (by omega) (by omega) (by omega) (by omega)
                  · have g1495 := ti_nq h1462
                    have i1496 := ti_rg x2
                    have l1497 : (0 : Int32).toInt = 0 := rfl
                    refine Tp_if (fun h1498 => ?_) (fun h1498 => ?_)
                    · have g1499 := ti_l h1498
                      have i1500 := ti_rg q1356.1
                      unfold f_MO_takeLine_128
                      unfold f_MO_takeLine_129
                      refine Tp_if (fun h1501 => ?_) (fun h1501 => ?_)
                      · have g1502 := ti_l h1501
                        unfold f_MO_takeLine_163
                        have l1503 : ((0 : Int32)).toInt = 0 := rfl
                        first | (have a1504 : ((x3 + (1 : Int32)) + (1 : Int32)).toInt = (x3 + (1 : Int32)).toInt + ((1 : Int32)).toInt := ti_add (by omega) (by omega)) | (have a1505 := ti_rg ((x3 + (1 : Int32)) + (1 : Int32)))
                        exact ih x1 (0 : Int32) ((x3 + (1 : Int32)) + (1 : Int32)) t ci (by omega) (by omega) (by omega) (by omega) (by omega) (by omega) (by omega)
                      · have g1506 := ti_nl h1501
                        refine Tp_if (fun h1507 => ?_) (fun h1507 => ?_)
                        · have g1508 := ti_q h1507
                          refine Tp_gd (ti_ix (by omega) (by omega)) ?_
                          unfold f_MO_takeLine_160
                          have b1511 := MI_13 ci (c := 29) (p := q1356.1.toNatClampNeg) rfl
                          have i1512 := ti_rg (mz_gI s 29 q1356.1.toNatClampNeg)
                          refine Tp_bi (s_MO_addNumber hn ci  (t := t) (x1 := mz_gI t 29 q1356.1.toNatClampNeg)) (fun q1509 h1510 => ?_)
                          have ci1513 := h1510
                          unfold f_MO_takeLine_163
                          have l1514 : ((0 : Int32)).toInt = 0 := rfl
                          first | (have a1515 : ((x3 + (1 : Int32)) + (1 : Int32)).toInt = (x3 + (1 : Int32)).toInt + ((1 : Int32)).toInt := ti_add (by omega) (by omega)) | (have a1516 := ti_rg ((x3 + (1 : Int32)) + (1 : Int32)))
                          have b1517 := MI_g23 ci1513 (c := 0) (p := 60) rfl
                          exact ih x1 (0 : Int32) ((x3 + (1 : Int32)) + (1 : Int32)) q1509 ci1513 (by omega) (by omega) (by omega) (by omega) (by omega) (by omega) (by omega)
                        · have g1518 := ti_nq h1507
                          refine Tp_gd (ti_ix (by omega) (by omega)) ?_
                          unfold f_MO_takeLine_160
                          have b1521 := MI_13 ci (c := 27) (p := q1356.1.toNatClampNeg) rfl
                          have b1522 := FX_27 ci.1 q1356.1.toNatClampNeg
                          refine Tp_bi (s_MO_addNumber hn ci  (t := t) (x1 := mz_gI t 27 q1356.1.toNatClampNeg)) (fun q1519 h1520 => ?_)
                          have ci1523 := h1520
                          unfold f_MO_takeLine_163
                          have l1524 : ((0 : Int32)).toInt = 0 := rfl
                          first | (have a1525 : ((x3 + (1 : Int32)) + (1 : Int32)).toInt = (x3 + (1 : Int32)).toInt + ((1 : Int32)).toInt := ti_add (by omega) (by omega)) | (have a1526 := ti_rg ((x3 + (1 : Int32)) + (1 : Int32)))
                          have b1527 := MI_g23 ci1523 (c := 0) (p := 60) rfl
                          exact ih x1 (0 : Int32) ((x3 + (1 : Int32)) + (1 : Int32)) q1519 ci1523 (by omega) (by omega) (by omega) (by omega) (by omega) (by omega) (by omega)
                    · have g1528 := ti_nl h1498
                      have i1529 := ti_rg q1356.1
                      unfold f_MO_takeLine_129
                      refine Tp_if (fun h1530 => ?_) (fun h1530 => ?_)
                      · have g1531 := ti_l h1530
                        unfold f_MO_takeLine_163
                        first | (have a1532 : ((x3 + (1 : Int32)) + (1 : Int32)).toInt = (x3 + (1 : Int32)).toInt + ((1 : Int32)).toInt := ti_add (by omega) (by omega)) | (have a1533 := ti_rg ((x3 + (1 : Int32)) + (1 : Int32)))
                        exact ih x1 (1 : Int32) ((x3 + (1 : Int32)) + (1 : Int32)) t ci (by omega) (by omega) (by omega) (by omega) (by omega) (by omega) (by omega)
                      · have g1534 := ti_nl h1530
                        refine Tp_if (fun h1535 => ?_) (fun h1535 => ?_)
                        · have g1536 := ti_q h1535
                          refine Tp_gd (ti_ix (by omega) (by omega)) ?_
                          unfold f_MO_takeLine_160
                          have b1539 := MI_13 ci (c := 29) (p := q1356.1.toNatClampNeg) rfl
                          have i1540 := ti_rg (mz_gI s 29 q1356.1.toNatClampNeg)
                          refine Tp_bi (s_MO_addNumber hn ci  (t := t) (x1 := mz_gI t 29 q1356.1.toNatClampNeg)) (fun q1537 h1538 => ?_)
                          have ci1541 := h1538
                          unfold f_MO_takeLine_163
                          first | (have a1542 : ((x3 + (1 : Int32)) + (1 : Int32)).toInt = (x3 + (1 : Int32)).toInt + ((1 : Int32)).toInt := ti_add (by omega) (by omega)) | (have a1543 := ti_rg ((x3 + (1 : Int32)) + (1 : Int32)))
                          have b1544 := MI_g23 ci1541 (c := 0) (p := 60) rfl
                          exact ih x1 (1 : Int32) ((x3 + (1 : Int32)) + (1 : Int32)) q1537 ci1541 (by omega) (by omega) (by omega) (by omega) (by omega) (by omega) (by omega)
                        · have g1545 := ti_nq h1535
                          refine Tp_gd (ti_ix (by omega) (by omega)) ?_
                          unfold f_MO_takeLine_160
                          have b1548 := MI_13 ci (c := 27) (p := q1356.1.toNatClampNeg) rfl
                          have b1549 := FX_27 ci.1 q1356.1.toNatClampNeg
                          refine Tp_bi (s_MO_addNumber hn ci  (t := t) (x1 := mz_gI t 27 q1356.1.toNatClampNeg)) (fun q1546 h1547 => ?_)
                          have ci1550 := h1547
                          unfold f_MO_takeLine_163
                          first | (have a1551 : ((x3 + (1 : Int32)) + (1 : Int32)).toInt = (x3 + (1 : Int32)).toInt + ((1 : Int32)).toInt := ti_add (by omega) (by omega)) | (have a1552 := ti_rg ((x3 + (1 : Int32)) + (1 : Int32)))
                          have b1553 := MI_g23 ci1550 (c := 0) (p := 60) rfl
                          exact ih x1 (1 : Int32) ((x3 + (1 : Int32)) + (1 : Int32)) q1546 ci1550 (by omega) (by omega) (by omega) (by omega) (by omega) (by omega) (by omega)
                · have g1554 := ti_nq h1459
                  have l1555 : ((63 : Int32)).toInt = 63 := rfl
                  have i1556 := ti_rg x2
                  have l1557 : ((0 : Int32)).toInt = 0 := rfl
                  refine Tp_mo (l_MO_takeLine_178 hn ((x3 + (1 : Int32)).toInt - 1) n x1 x2 (x3 + (1 : Int32)) (0 : Int64) (0 : Int64) (0 : Int32) t ci (by omega) (by omega) (by omega) (by omega) (by omega) (by omega) (fun y z u cu h1 h2 => ih x1 y z u cu (by omega) (by omega) (by omega) (by omega) (by omega) (by omega) (by omega)) (by omega)) (fun q1558 h1559 => ?_)
                  obtain ⟨ci1560, p1561, p1562, p1563⟩ := h1559
                  have b1564 := MI_g23 ci1560 (c := 0) (p := 60) rfl
                  have i1565 := ti_rg q1558.1
                  refine ⟨ci1560, ?_, ?_, ?_⟩
                  · (try dsimp only) <;> first | omega | assumption
                  · (try dsimp only) <;> first | omega | assumption
                  · (try dsimp only) <;> first | omega | assumption
            · have g1566 := ti_nq h1351
              have b1567 := MI_13 ci (c := 1) (p := (x3 + (1 : Int32)).toNatClampNeg) rfl
              have i1568 := ti_rg (mz_gI s 1 (x3 + (1 : Int32)).toNatClampNeg)
              have l1569 : ((64 : Int32)).toInt = 64 := rfl
              refine Tp_bi (s_MO_givingFrame hn ci  (t := t)) (fun q1570 h1571 => ?_)
              obtain ⟨ci1572, E1573, p1574, p1575⟩ := h1571
              try rw [E1573]
              unfold f_MO_takeLine_99
              refine Tp_if (fun h1576 => ?_) (fun h1576 => ?_)
              · have g1577 := ti_q h1576
                unfold f_MO_takeLine_115
                refine Tp_if (fun h1578 => ?_) (fun h1578 => ?_)
                · have g1579 := ti_q h1578
                  have i1580 := ti_rg x2
                  have l1581 : (0 : Int32).toInt = 0 := rfl
                  unfold f_MO_takeLine_128
                  unfold f_MO_takeLine_129
                  refine Tp_if (fun h1582 => ?_) (fun h1582 => ?_)
                  · have g1583 := ti_l h1582
                    have i1584 := ti_rg q1570.1
                    unfold f_MO_takeLine_163
                    have l1585 : ((0 : Int32)).toInt = 0 := rfl
                    first | (have a1586 : ((x3 + (1 : Int32)) + (1 : Int32)).toInt = (x3 + (1 : Int32)).toInt + ((1 : Int32)).toInt := ti_add (by omega) (by omega)) | (have a1587 := ti_rg ((x3 + (1 : Int32)) + (1 : Int32)))
                    exact ih x1 (0 : Int32) ((x3 + (1 : Int32)) + (1 : Int32)) t ci (by omega) (by omega) (by omega) (by omega) (by omega) (by omega) (by omega)
                  · have g1588 := ti_nl h1582
                    have i1589 := ti_rg q1570.1
                    refine Tp_if (fun h1590 => ?_) (fun h1590 => ?_)
                    · have g1591 := ti_q h1590
                      refine Tp_gd (ti_ix (by omega) (by omega)) ?_
                      unfold f_MO_takeLine_160
                      have b1594 := MI_13 ci (c := 29) (p := q1570.1.toNatClampNeg) rfl
                      have i1595 := ti_rg (mz_gI s 29 q1570.1.toNatClampNeg)
                      refine Tp_bi (s_MO_addNumber hn ci  (t := t) (x1 := mz_gI t 29 q1570.1.toNatClampNeg)) (fun q1592 h1593 => ?_)
                      have ci1596 := h1593
                      unfold f_MO_takeLine_163
                      have l1597 : ((0 : Int32)).toInt = 0 := rfl
                      first | (have a1598 : ((x3 + (1 : Int32)) + (1 : Int32)).toInt = (x3 + (1 : Int32)).toInt + ((1 : Int32)).toInt := ti_add (by omega) (by omega)) | (have a1599 := ti_rg ((x3 + (1 : Int32)) + (1 : Int32)))
                      have b1600 := MI_g23 ci1596 (c := 0) (p := 60) rfl
                      exact ih x1 (0 : Int32) ((x3 + (1 : Int32)) + (1 : Int32)) q1592 ci1596 (by omega) (by omega) (by omega) (by omega) (by omega) (by omega) (by omega)
                    · have g1601 := ti_nq h1590
                      refine Tp_gd (ti_ix (by omega) (by omega)) ?_
                      unfold f_MO_takeLine_160
                      have b1604 := MI_13 ci (c := 27) (p := q1570.1.toNatClampNeg) rfl
                      have b1605 := FX_27 ci.1 q1570.1.toNatClampNeg
                      refine Tp_bi (s_MO_addNumber hn ci  (t := t) (x1 := mz_gI t 27 q1570.1.toNatClampNeg)) (fun q1602 h1603 => ?_)
                      have ci1606 := h1603
                      unfold f_MO_takeLine_163
                      have l1607 : ((0 : Int32)).toInt = 0 := rfl
                      first | (have a1608 : ((x3 + (1 : Int32)) + (1 : Int32)).toInt = (x3 + (1 : Int32)).toInt + ((1 : Int32)).toInt := ti_add (by omega) (by omega)) | (have a1609 := ti_rg ((x3 + (1 : Int32)) + (1 : Int32)))
                      have b1610 := MI_g23 ci1606 (c := 0) (p := 60) rfl
                      exact ih x1 (0 : Int32) ((x3 + (1 : Int32)) + (1 : Int32)) q1602 ci1606 (by omega) (by omega) (by omega) (by omega) (by omega) (by omega) (by omega)
                · have g1611 := ti_nq h1578
                  have i1612 := ti_rg x2
                  have l1613 : (0 : Int32).toInt = 0 := rfl
                  refine Tp_if (fun h1614 => ?_) (fun h1614 => ?_)
                  · have g1615 := ti_l h1614
                    have i1616 := ti_rg q1570.1
                    unfold f_MO_takeLine_128
                    unfold f_MO_takeLine_129
                    refine Tp_if (fun h1617 => ?_) (fun h1617 => ?_)
                    · have g1618 := ti_l h1617
                      unfold f_MO_takeLine_163
                      have l1619 : ((0 : Int32)).toInt = 0 := rfl
                      first | (have a1620 : ((x3 + (1 : Int32)) + (1 : Int32)).toInt = (x3 + (1 : Int32)).toInt + ((1 : Int32)).toInt := ti_add (by omega) (by omega)) | (have a1621 := ti_rg ((x3 + (1 : Int32)) + (1 : Int32)))
                      exact ih x1 (0 : Int32) ((x3 + (1 : Int32)) + (1 : Int32)) t ci (by omega) (by omega) (by omega) (by omega) (by omega) (by omega) (by omega)
                    · have g1622 := ti_nl h1617
                      refine Tp_if (fun h1623 => ?_) (fun h1623 => ?_)
                      · have g1624 := ti_q h1623
                        refine Tp_gd (ti_ix (by omega) (by omega)) ?_
                        unfold f_MO_takeLine_160
                        have b1627 := MI_13 ci (c := 29) (p := q1570.1.toNatClampNeg) rfl
                        have i1628 := ti_rg (mz_gI s 29 q1570.1.toNatClampNeg)
                        refine Tp_bi (s_MO_addNumber hn ci  (t := t) (x1 := mz_gI t 29 q1570.1.toNatClampNeg)) (fun q1625 h1626 => ?_)
                        have ci1629 := h1626
                        unfold f_MO_takeLine_163
                        have l1630 : ((0 : Int32)).toInt = 0 := rfl
                        first | (have a1631 : ((x3 + (1 : Int32)) + (1 : Int32)).toInt = (x3 + (1 : Int32)).toInt + ((1 : Int32)).toInt := ti_add (by omega) (by omega)) | (have a1632 := ti_rg ((x3 + (1 : Int32)) + (1 : Int32)))
                        have b1633 := MI_g23 ci1629 (c := 0) (p := 60) rfl
                        exact ih x1 (0 : Int32) ((x3 + (1 : Int32)) + (1 : Int32)) q1625 ci1629 (by omega) (by omega) (by omega) (by omega) (by omega) (by omega) (by omega)
                      · have g1634 := ti_nq h1623
                        refine Tp_gd (ti_ix (by omega) (by omega)) ?_
                        unfold f_MO_takeLine_160
                        have b1637 := MI_13 ci (c := 27) (p := q1570.1.toNatClampNeg) rfl
                        have b1638 := FX_27 ci.1 q1570.1.toNatClampNeg
                        refine Tp_bi (s_MO_addNumber hn ci  (t := t) (x1 := mz_gI t 27 q1570.1.toNatClampNeg)) (fun q1635 h1636 => ?_)
                        have ci1639 := h1636
                        unfold f_MO_takeLine_163
                        have l1640 : ((0 : Int32)).toInt = 0 := rfl
                        first | (have a1641 : ((x3 + (1 : Int32)) + (1 : Int32)).toInt = (x3 + (1 : Int32)).toInt + ((1 : Int32)).toInt := ti_add (by omega) (by omega)) | (have a1642 := ti_rg ((x3 + (1 : Int32)) + (1 : Int32)))
                        have b1643 := MI_g23 ci1639 (c := 0) (p := 60) rfl
                        exact ih x1 (0 : Int32) ((x3 + (1 : Int32)) + (1 : Int32)) q1635 ci1639 (by omega) (by omega) (by omega) (by omega) (by omega) (by omega) (by omega)
                  · have g1644 := ti_nl h1614
                    have i1645 := ti_rg q1570.1
                    unfold f_MO_takeLine_129
                    refine Tp_if (fun h1646 => ?_) (fun h1646 => ?_)
                    · have g1647 := ti_l h1646
                      unfold f_MO_takeLine_163
                      first | (have a1648 : ((x3 + (1 : Int32)) + (1 : Int32)).toInt = (x3 + (1 : Int32)).toInt + ((1 : Int32)).toInt := ti_add (by omega) (by omega)) | (have a1649 := ti_rg ((x3 + (1 : Int32)) + (1 : Int32)))
                      exact ih x1 (1 : Int32) ((x3 + (1 : Int32)) + (1 : Int32)) t ci (by omega) (by omega) (by omega) (by omega) (by omega) (by omega) (by omega)
                    · have g1650 := ti_nl h1646
                      refine Tp_if (fun h1651 => ?_) (fun h1651 => ?_)
                      · have g1652 := ti_q h1651
                        refine Tp_gd (ti_ix (by omega) (by omega)) ?_
                        unfold f_MO_takeLine_160
                        have b1655 := MI_13 ci (c := 29) (p := q1570.1.toNatClampNeg) rfl
                        have i1656 := ti_rg (mz_gI s 29 q1570.1.toNatClampNeg)
                        refine Tp_bi (s_MO_addNumber hn ci  (t := t) (x1 := mz_gI t 29 q1570.1.toNatClampNeg)) (fun q1653 h1654 => ?_)
                        have ci1657 := h1654
                        unfold f_MO_takeLine_163
                        first | (have a1658 : ((x3 + (1 : Int32)) + (1 : Int32)).toInt = (x3 + (1 : Int32)).toInt + ((1 : Int32)).toInt := ti_add (by omega) (by omega)) | (have a1659 := ti_rg ((x3 + (1 : Int32)) + (1 : Int32)))
                        have b1660 := MI_g23 ci1657 (c := 0) (p := 60) rfl
                        exact ih x1 (1 : Int32) ((x3 + (1 : Int32)) + (1 : Int32)) q1653 ci1657 (by omega) (by omega) (by omega) (by omega) (by omega) (by omega) (by omega)
                      · have g1661 := ti_nq h1651
                        refine Tp_gd (ti_ix (by omega) (by omega)) ?_
                        unfold f_MO_takeLine_160
                        have b1664 := MI_13 ci (c := 27) (p := q1570.1.toNatClampNeg) rfl
                        have b1665 := FX_27 ci.1 q1570.1.toNatClampNeg
                        refine Tp_bi (s_MO_addNumber hn ci  (t := t) (x1 := mz_gI t 27 q1570.1.toNatClampNeg)) (fun q1662 h1663 => ?_)
                        have ci1666 := h1663
                        unfold f_MO_takeLine_163
                        first | (have a1667 : ((x3 + (1 : Int32)) + (1 : Int32)).toInt = (x3 + (1 : Int32)).toInt + ((1 : Int32)).toInt := ti_add (by omega) (by omega)) | (have a1668 := ti_rg ((x3 + (1 : Int32)) + (1 : Int32)))
                        have b1669 := MI_g23 ci1666 (c := 0) (p := 60) rfl
                        exact ih x1 (1 : Int32) ((x3 + (1 : Int32)) + (1 : Int32)) q1662 ci1666 (by omega) (by omega) (by omega) (by omega) (by omega) (by omega) (by omega)
              · have g1670 := ti_nq h1576
                refine Tp_if (fun h1671 => ?_) (fun h1671 => ?_)
                · have g1672 := ti_q h1671
                  have l1673 : ((63 : Int32)).toInt = 63 := rfl
                  unfold f_MO_takeLine_115
                  refine Tp_if (fun h1674 => ?_) (fun h1674 => ?_)
                  · have g1675 := ti_q h1674
                    have i1676 := ti_rg x2
                    have l1677 : (0 : Int32).toInt = 0 := rfl
                    unfold f_MO_takeLine_128
                    unfold f_MO_takeLine_129
                    refine Tp_if (fun h1678 => ?_) (fun h1678 => ?_)
                    · have g1679 := ti_l h1678
                      have i1680 := ti_rg q1570.1
                      unfold f_MO_takeLine_163
                      have l1681 : ((0 : Int32)).toInt = 0 := rfl
                      first | (have a1682 : ((x3 + (1 : Int32)) + (1 : Int32)).toInt = (x3 + (1 : Int32)).toInt + ((1 : Int32)).toInt := ti_add (by omega) (by omega)) | (have a1683 := ti_rg ((x3 + (1 : Int32)) + (1 : Int32)))
                      exact ih x1 (0 : Int32) ((x3 + (1 : Int32)) + (1 : Int32)) t ci (by omega) (by omega) (by omega) (by omega) (by omega) (by omega) (by omega)
                    · have g1684 := ti_nl h1678
                      have i1685 := ti_rg q1570.1
                      refine Tp_if (fun h1686 => ?_) (fun h1686 => ?_)
                      · have g1687 := ti_q h1686
                        refine Tp_gd (ti_ix (by omega) (by omega)) ?_
                        unfold f_MO_takeLine_160
                        have b1690 := MI_13 ci (c := 29) (p := q1570.1.toNatClampNeg) rfl
                        have i1691 := ti_rg (mz_gI s 29 q1570.1.toNatClampNeg)
                        refine Tp_bi (s_MO_addNumber hn ci  (t := t) (x1 := mz_gI t 29 q1570.1.toNatClampNeg)) (fun q1688 h1689 => ?_)
                        have ci1692 := h1689
                        unfold f_MO_takeLine_163
                        have l1693 : ((0 : Int32)).toInt = 0 := rfl
                        first | (have a1694 : ((x3 + (1 : Int32)) + (1 : Int32)).toInt = (x3 + (1 : Int32)).toInt + ((1 : Int32)).toInt := ti_add (by omega) (by omega)) | (have a1695 := ti_rg ((x3 + (1 : Int32)) + (1 : Int32)))
                        have b1696 := MI_g23 ci1692 (c := 0) (p := 60) rfl
                        exact ih x1 (0 : Int32) ((x3 + (1 : Int32)) + (1 : Int32)) q1688 ci1692 (by omega) (by omega) (by omega) (by omega) (by omega) (by omega) (by omega)
                      · have g1697 := ti_nq h1686
                        refine Tp_gd (ti_ix (by omega) (by omega)) ?_
                        unfold f_MO_takeLine_160
                        have b1700 := MI_13 ci (c := 27) (p := q1570.1.toNatClampNeg) rfl
                        have b1701 := FX_27 ci.1 q1570.1.toNatClampNeg
                        refine Tp_bi (s_MO_addNumber hn ci  (t := t) (x1 := mz_gI t 27 q1570.1.toNatClampNeg)) (fun q1698 h1699 => ?_)
                        have ci1702 := h1699
                        unfold f_MO_takeLine_163
                        have l1703 : ((0 : Int32)).toInt = 0 := rfl
                        first | (have a1704 : ((x3 + (1 : Int32)) + (1 : Int32)).toInt = (x3 + (1 : Int32)).toInt + ((1 : Int32)).toInt := ti_add (by omega) (by omega)) | (have a1705 := ti_rg ((x3 + (1 : Int32)) + (1 : Int32)))
                        have b1706 := MI_g23 ci1702 (c := 0) (p := 60) rfl
                        exact ih x1 (0 : Int32) ((x3 + (1 : Int32)) + (1 : Int32)) q1698 ci1702 (by omega) (by omega) (by omega) (by omega) (by omega) (by omega) (by omega)
                  · have g1707 := ti_nq h1674
                    have i1708 := ti_rg x2
                    have l1709 : (0 : Int32).toInt = 0 := rfl
                    refine Tp_if (fun h1710 => ?_) (fun h1710 => ?_)
                    · have g1711 := ti_l h1710
                      have i1712 := ti_rg q1570.1
                      unfold f_MO_takeLine_128
                      unfold f_MO_takeLine_129
                      refine Tp_if (fun h1713 => ?_) (fun h1713 => ?_)
                      · have g1714 := ti_l h1713
                        unfold f_MO_takeLine_163
                        have l1715 : ((0 : Int32)).toInt = 0 := rfl
                        first | (have a1716 : ((x3 + (1 : Int32)) + (1 : Int32)).toInt = (x3 + (1 : Int32)).toInt + ((1 : Int32)).toInt := ti_add (by omega) (by omega)) | (have a1717 := ti_rg ((x3 + (1 : Int32)) + (1 : Int32)))
                        exact ih x1 (0 : Int32) ((x3 + (1 : Int32)) + (1 : Int32)) t ci (by omega) (by omega) (by omega) (by omega) (by omega) (by omega) (by omega)
                      · have g1718 := ti_nl h1713
                        refine Tp_if (fun h1719 => ?_) (fun h1719 => ?_)
                        · have g1720 := ti_q h1719
                          refine Tp_gd (ti_ix (by omega) (by omega)) ?_
                          unfold f_MO_takeLine_160
                          have b1723 := MI_13 ci (c := 29) (p := q1570.1.toNatClampNeg) rfl
                          have i1724 := ti_rg (mz_gI s 29 q1570.1.toNatClampNeg)
                          refine Tp_bi (s_MO_addNumber hn ci  (t := t) (x1 := mz_gI t 29 q1570.1.toNatClampNeg)) (fun q1721 h1722 => ?_)
                          have ci1725 := h1722
                          unfold f_MO_takeLine_163
                          have l1726 : ((0 : Int32)).toInt = 0 := rfl
                          first | (have a1727 : ((x3 + (1 : Int32)) + (1 : Int32)).toInt = (x3 + (1 : Int32)).toInt + ((1 : Int32)).toInt := ti_add (by omega) (by omega)) | (have a1728 := ti_rg ((x3 + (1 : Int32)) + (1 : Int32)))
                          have b1729 := MI_g23 ci1725 (c := 0) (p := 60) rfl
                          exact ih x1 (0 : Int32) ((x3 + (1 : Int32)) + (1 : Int32)) q1721 ci1725 (by omega) (by omega) (by omega) (by omega) (by omega) (by omega) (by omega)
                        · have g1730 := ti_nq h1719
                          refine Tp_gd (ti_ix (by omega) (by omega)) ?_
                          unfold f_MO_takeLine_160
                          have b1733 := MI_13 ci (c := 27) (p := q1570.1.toNatClampNeg) rfl
                          have b1734 := FX_27 ci.1 q1570.1.toNatClampNeg
                          refine Tp_bi (s_MO_addNumber hn ci  (t := t) (x1 := mz_gI t 27 q1570.1.toNatClampNeg)) (fun q1731 h1732 => ?_)
                          have ci1735 := h1732
                          unfold f_MO_takeLine_163
                          have l1736 : ((0 : Int32)).toInt = 0 := rfl
                          first | (have a1737 : ((x3 + (1 : Int32)) + (1 : Int32)).toInt = (x3 + (1 : Int32)).toInt + ((1 : Int32)).toInt := ti_add (by omega) (by omega)) | (have a1738 := ti_rg ((x3 + (1 : Int32)) + (1 : Int32)))
                          have b1739 := MI_g23 ci1735 (c := 0) (p := 60) rfl
                          exact ih x1 (0 : Int32) ((x3 + (1 : Int32)) + (1 : Int32)) q1731 ci1735 (by omega) (by omega) (by omega) (by omega) (by omega) (by omega) (by omega)
                    · have g1740 := ti_nl h1710
                      have i1741 := ti_rg q1570.1
                      unfold f_MO_takeLine_129
                      refine Tp_if (fun h1742 => ?_) (fun h1742 => ?_)
                      · have g1743 := ti_l h1742
                        unfold f_MO_takeLine_163
                        first | (have a1744 : ((x3 + (1 : Int32)) + (1 : Int32)).toInt = (x3 + (1 : Int32)).toInt + ((1 : Int32)).toInt := ti_add (by omega) (by omega)) | (have a1745 := ti_rg ((x3 + (1 : Int32)) + (1 : Int32)))
                        exact ih x1 (1 : Int32) ((x3 + (1 : Int32)) + (1 : Int32)) t ci (by omega) (by omega) (by omega) (by omega) (by omega) (by omega) (by omega)
                      · have g1746 := ti_nl h1742
                        refine Tp_if (fun h1747 => ?_) (fun h1747 => ?_)
                        · have g1748 := ti_q h1747
                          refine Tp_gd (ti_ix (by omega) (by omega)) ?_
                          unfold f_MO_takeLine_160
                          have b1751 := MI_13 ci (c := 29) (p := q1570.1.toNatClampNeg) rfl
                          have i1752 := ti_rg (mz_gI s 29 q1570.1.toNatClampNeg)
                          refine Tp_bi (s_MO_addNumber hn ci  (t := t) (x1 := mz_gI t 29 q1570.1.toNatClampNeg)) (fun q1749 h1750 => ?_)
                          have ci1753 := h1750
                          unfold f_MO_takeLine_163
                          first | (have a1754 : ((x3 + (1 : Int32)) + (1 : Int32)).toInt = (x3 + (1 : Int32)).toInt + ((1 : Int32)).toInt := ti_add (by omega) (by omega)) | (have a1755 := ti_rg ((x3 + (1 : Int32)) + (1 : Int32)))
                          have b1756 := MI_g23 ci1753 (c := 0) (p := 60) rfl
                          exact ih x1 (1 : Int32) ((x3 + (1 : Int32)) + (1 : Int32)) q1749 ci1753 (by omega) (by omega) (by omega) (by omega) (by omega) (by omega) (by omega)
                        · have g1757 := ti_nq h1747
                          refine Tp_gd (ti_ix (by omega) (by omega)) ?_
                          unfold f_MO_takeLine_160
                          have b1760 := MI_13 ci (c := 27) (p := q1570.1.toNatClampNeg) rfl
                          have b1761 := FX_27 ci.1 q1570.1.toNatClampNeg
                          refine Tp_bi (s_MO_addNumber hn ci  (t := t) (x1 := mz_gI t 27 q1570.1.toNatClampNeg)) (fun q1758 h1759 => ?_)
                          have ci1762 := h1759
                          unfold f_MO_takeLine_163
                          first | (have a1763 : ((x3 + (1 : Int32)) + (1 : Int32)).toInt = (x3 + (1 : Int32)).toInt + ((1 : Int32)).toInt := ti_add (by omega) (by omega)) | (have a1764 := ti_rg ((x3 + (1 : Int32)) + (1 : Int32)))
                          have b1765 := MI_g23 ci1762 (c := 0) (p := 60) rfl
                          exact ih x1 (1 : Int32) ((x3 + (1 : Int32)) + (1 : Int32)) q1758 ci1762 (by omega) (by omega) (by omega) (by omega) (by omega) (by omega) (by omega)
                · have g1766 := ti_nq h1671
                  have l1767 : ((63 : Int32)).toInt = 63 := rfl
                  have i1768 := ti_rg x2
                  have l1769 : ((0 : Int32)).toInt = 0 := rfl
                  refine Tp_mo (l_MO_takeLine_178 hn ((x3 + (1 : Int32)).toInt - 1) n x1 x2 (x3 + (1 : Int32)) (0 : Int64) (0 : Int64) (0 : Int32) t ci (by omega) (by omega) (by omega) (by omega) (by omega) (by omega) (fun y z u cu h1 h2 => ih x1 y z u cu (by omega) (by omega) (by omega) (by omega) (by omega) (by omega) (by omega)) (by omega)) (fun q1770 h1771 => ?_)
                  obtain ⟨ci1772, p1773, p1774, p1775⟩ := h1771
                  have b1776 := MI_g23 ci1772 (c := 0) (p := 60) rfl
                  have i1777 := ti_rg q1770.1
                  refine ⟨ci1772, ?_, ?_, ?_⟩
                  · (try dsimp only) <;> first | omega | assumption
                  · (try dsimp only) <;> first | omega | assumption
                  · (try dsimp only) <;> first | omega | assumption
      · have g1778 := ti_nq h896
        have b1779 := MI_13 ci (c := 1) (p := x3.toNatClampNeg) rfl
        have i1780 := ti_rg (mz_gI s 1 x3.toNatClampNeg)
        have l1781 : ((92 : Int32)).toInt = 92 := rfl
        unfold f_MO_takeLine_50
        refine Tp_bi (s_MO_add hn ci  (t := t) (x1 := mz_gI t 1 x3.toNatClampNeg)) (fun q1782 h1783 => ?_)
        obtain ⟨ci1784, p1785, p1786⟩ := h1783
        have b1787 := MI_g23 ci1784 (c := 0) (p := 60) rfl
        have i1788 := ti_rg x2
        have l1789 : ((1 : Int32)).toInt = 1 := rfl
        first | (have a1790 : (x3 + (1 : Int32)).toInt = (x3).toInt + ((1 : Int32)).toInt := ti_add (by omega) (by omega)) | (have a1791 := ti_rg (x3 + (1 : Int32)))
        exact ih x1 x2 (x3 + (1 : Int32)) q1782 ci1784 (by omega) (by omega) (by omega) (by omega) (by omega) (by omega) (by omega)
