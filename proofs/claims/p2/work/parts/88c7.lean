/-! TOTAL: written by vcg.py -/
set_option maxRecDepth 4000 in
set_option maxHeartbeats 8000000 in
theorem l_EX_run_6 {n : Nat} {L : Int32} (hn : 8589934592 ≤ n)  : ∀ (k : Nat) (x1 : Int32) (t : mz_St), CI L t → (0 ≤ x1.toInt) → (2147483648 - x1.toInt).toNat < k → Tp (f_EX_run_6 n k x1 t) (fun r => CI L r) := by
  intro k
  induction k with
  | zero => intros; omega
  | succ k ih =>
    intro x1 t ci i0 hm
    unfold f_EX_run_6
    refine Tp_if (fun h6840 => ?_) (fun h6840 => ?_)
    · have g6841 := ti_e h6840
      have l6842 : ((1000000 : Int32)).toInt = 1000000 := rfl
      have i6843 := ti_rg x1
      refine Tp_so ?_
      exact ci
    · have g6844 := ti_ne h6840
      have l6845 : ((1000000 : Int32)).toInt = 1000000 := rfl
      have i6846 := ti_rg x1
      refine Tp_if (fun h6847 => ?_) (fun h6847 => ?_)
      · have g6848 := ti_q h6847
        have i6849 := ti_rg (mz_gI t 5 7)
        have l6850 : (0 : Int32).toInt = 0 := rfl
        refine Tp_bi (s_SK_top hn ci  (t := t)) (fun q6851 h6852 => ?_)
        obtain ⟨ci6853, E6854, p6855⟩ := h6852
        try rw [E6854]
        refine Tp_gd (by omega) ?_
        refine Tp_if (fun h6856 => ?_) (fun h6856 => ?_)
        · have g6857 := ti_l h6856
          have i6858 := ti_rg (mz_gI t q6851.1 3)
          have i6859 := ti_rg (mz_gI t q6851.1 2)
          refine Tp_bi (s_EX_look hn ci (by omega) (t := t) (x1 := q6851.1)) (fun q6860 h6861 => ?_)
          obtain ⟨ci6862, p6863, p6864⟩ := h6861
          refine Tp_if (fun h6865 => ?_) (fun h6865 => ?_)
          · have g6866 := ti_q h6865
            have i6867 := ti_rg q6860.1
            unfold f_EX_run_83
            have l6868 : ((1 : Int32)).toInt = 1 := rfl
            first | (have a6869 : (x1 + (1 : Int32)).toInt = (x1).toInt + ((1 : Int32)).toInt := ti_add (by omega) (by omega)) | (have a6870 := ti_rg (x1 + (1 : Int32)))
            exact ih (x1 + (1 : Int32)) q6860.2 ci6862 (by omega) (by omega)
          · have g6871 := ti_nq h6865
            have i6872 := ti_rg q6860.1
            refine Tp_bi (s_EX_takeLine hn ci6862  (t := q6860.2)) (fun q6873 h6874 => ?_)
            obtain ⟨ci6875, p6876, p6877⟩ := h6874
            refine Tp_if (fun h6878 => ?_) (fun h6878 => ?_)
            · have g6879 := ti_q h6878
              have i6880 := ti_rg q6873.1
              unfold f_EX_run_83
              have l6881 : ((1 : Int32)).toInt = 1 := rfl
              first | (have a6882 : (x1 + (1 : Int32)).toInt = (x1).toInt + ((1 : Int32)).toInt := ti_add (by omega) (by omega)) | (have a6883 := ti_rg (x1 + (1 : Int32)))
              exact ih (x1 + (1 : Int32)) q6873.2 ci6875 (by omega) (by omega)
            · have g6884 := ti_nq h6878
              have i6885 := ti_rg q6873.1
              refine Tp_bi (s_CO_live hn ci6875  (t := q6873.2)) (fun q6886 h6887 => ?_)
              obtain ⟨ci6888, E6889, p6890, p6891⟩ := h6887
              try rw [E6889]
              refine Tp_if (fun h6892 => ?_) (fun h6892 => ?_)
              · have g6893 := ti_q h6892
                have i6894 := ti_rg q6886.1
                refine Tp_bi (s_EX_pass hn ci6875  (t := q6873.2)) (fun q6895 h6896 => ?_)
                have ci6897 := h6896
                unfold f_EX_run_83
                have l6898 : ((1 : Int32)).toInt = 1 := rfl
                first | (have a6899 : (x1 + (1 : Int32)).toInt = (x1).toInt + ((1 : Int32)).toInt := ti_add (by omega) (by omega)) | (have a6900 := ti_rg (x1 + (1 : Int32)))
                exact ih (x1 + (1 : Int32)) q6895 ci6897 (by omega) (by omega)
              · have g6901 := ti_nq h6892
                have i6902 := ti_rg q6886.1
                refine Tp_bi (s_EX_come hn ci6875  (t := q6873.2)) (fun q6903 h6904 => ?_)
                have ci6905 := h6904
                unfold f_EX_run_83
                have l6906 : ((1 : Int32)).toInt = 1 := rfl
                first | (have a6907 : (x1 + (1 : Int32)).toInt = (x1).toInt + ((1 : Int32)).toInt := ti_add (by omega) (by omega)) | (have a6908 := ti_rg (x1 + (1 : Int32)))
                exact ih (x1 + (1 : Int32)) q6903 ci6905 (by omega) (by omega)
        · have g6909 := ti_nl h6856
          have i6910 := ti_rg (mz_gI t q6851.1 3)
          have i6911 := ti_rg (mz_gI t q6851.1 2)
          refine Tp_bi (s_EX_endRange hn ci (by omega) (t := t) (x1 := q6851.1)) (fun q6912 h6913 => ?_)
          obtain ⟨ci6914, p6915, p6916⟩ := h6913
          refine Tp_if (fun h6917 => ?_) (fun h6917 => ?_)
          · have g6918 := ti_q h6917
            have i6919 := ti_rg q6912.1
            refine Tp_so ?_
            exact ci6914
          · have g6920 := ti_nq h6917
            have i6921 := ti_rg q6912.1
            unfold f_EX_run_83
            have l6922 : ((1 : Int32)).toInt = 1 := rfl
            first | (have a6923 : (x1 + (1 : Int32)).toInt = (x1).toInt + ((1 : Int32)).toInt := ti_add (by omega) (by omega)) | (have a6924 := ti_rg (x1 + (1 : Int32)))
            exact ih (x1 + (1 : Int32)) q6912.2 ci6914 (by omega) (by omega)
      · have g6925 := ti_nq h6847
        have i6926 := ti_rg (mz_gI t 5 7)
        have l6927 : (0 : Int32).toInt = 0 := rfl
        refine Tp_so ?_
        exact ci
set_option maxRecDepth 4000 in
set_option maxHeartbeats 8000000 in
theorem s_EX_run {n : Nat} {L : Int32} (hn : 8589934592 ≤ n) {t : mz_St}  (ci : CI L t)  : Tp (f_EX_run n t) (fun r => CI L r) := by
  unfold f_EX_run
  refine Tp_bi (s_EX_startAnew hn ci  (t := t)) (fun q6928 h6929 => ?_)
  have ci6930 := h6929
  have l6931 : ((0 : Int32)).toInt = 0 := rfl
  refine Tp_mo (l_EX_run_6 hn  n (0 : Int32) q6928 ci6930 (by omega) (by omega)) (fun q6932 h6933 => ?_)
  have ci6934 := h6933
  exact ci6934
set_option maxRecDepth 4000 in
set_option maxHeartbeats 8000000 in
theorem s_MH_expand {n : Nat} {L : Int32} (hn : 8589934592 ≤ n) {t : mz_St}  (ci : CI L t)  : Tp (f_MH_expand n t) (fun r => CI L r.2) := by
  unfold f_MH_expand
  refine Tp_bi (s_EX_run hn ci  (t := t)) (fun q6935 h6936 => ?_)
  have ci6937 := h6936
  refine Tp_if (fun h6938 => ?_) (fun h6938 => ?_)
  · have g6939 := ti_q h6938
    have i6940 := ti_rg (mz_gI q6935 5 7)
    have l6941 : (0 : Int32).toInt = 0 := rfl
    refine Tp_so ?_
    have b6942 := CI_g7 ci6937 (c := 32) (p := 5) rfl
    exact ci6937
  · have g6943 := ti_nq h6938
    have i6944 := ti_rg (mz_gI q6935 5 7)
    have l6945 : (0 : Int32).toInt = 0 := rfl
    refine Tp_so ?_
    have l6946 : ((-1 : Int32)).toInt = -1 := rfl
    exact ci6937
