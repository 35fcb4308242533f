/-! TOTAL: written by vcg.py -/
set_option maxRecDepth 4000 in
set_option maxHeartbeats 8000000 in
theorem s_MA_isHeadTold {n : Nat} {L : Int32} (hn : 8589934592 ≤ n) {t : mz_St}  (ci : CI L t)  : Tp (f_MA_isHeadTold n t) (fun r => CI L r.2 ∧ r.2 = t ∧ 0 ≤ (r.1).toInt ∧ (r.1).toInt ≤ 1) := by
  unfold f_MA_isHeadTold
  have i3840 := ti_rg (mz_gI t 18 10)
  have i3841 := ti_rg (mz_gI t 18 11)
  refine Tp_bi (s_NA_find_m hn ci  (t := t) (x1 := mz_gI t 18 10) (x2 := mz_gI t 18 11)) (fun q3838 h3839 => ?_)
  obtain ⟨ci3842, E3843, p3844, p3845⟩ := h3839
  try rw [E3843]
  refine Tp_if (fun h3846 => ?_) (fun h3846 => ?_)
  · have g3847 := ti_q h3846
    have i3848 := ti_rg q3838.1
    have l3849 : ((-1 : Int32)).toInt = -1 := rfl
    refine Tp_so ?_
    have l3850 : ((0 : Int32)).toInt = 0 := rfl
    refine ⟨ci, rfl, ?_, ?_⟩
    · (try dsimp only) <;> first | omega | assumption
    · (try dsimp only) <;> first | omega | assumption
  · have g3851 := ti_nq h3846
    have i3852 := ti_rg q3838.1
    have l3853 : ((-1 : Int32)).toInt = -1 := rfl
    refine Tp_so ?_
    have l3854 : ((1 : Int32)).toInt = 1 := rfl
    refine ⟨ci, rfl, ?_, ?_⟩
    · (try dsimp only) <;> first | omega | assumption
    · (try dsimp only) <;> first | omega | assumption
set_option maxRecDepth 4000 in
set_option maxHeartbeats 8000000 in
theorem s_MA_add {n : Nat} {L : Int32} (hn : 8589934592 ≤ n) {x1 : Int32} {x2 : Int32} {t : mz_St}  (ci : CI L t)  : Tp (f_MA_add n x1 x2 t) (fun r => CI L r.2 ∧ 0 ≤ (r.1).toInt ∧ (r.1).toInt ≤ 1) := by
  unfold f_MA_add
  refine Tp_bi (s_NA_isFull_m hn ci  (t := t)) (fun q3855 h3856 => ?_)
  obtain ⟨ci3857, E3858, p3859, p3860⟩ := h3856
  try rw [E3858]
  refine Tp_if (fun h3861 => ?_) (fun h3861 => ?_)
  · have g3862 := ti_q h3861
    have i3863 := ti_rg q3855.1
    have l3864 : (0 : Int32).toInt = 0 := rfl
    refine Tp_if (fun h3865 => ?_) (fun h3865 => ?_)
    · have g3866 := ti_l h3865
      have b3867 := CI_g6 ci (c := 27) (p := 4) rfl
      refine Tp_so ?_
      have l3868 : ((0 : Int32)).toInt = 0 := rfl
      refine ⟨ci, ?_, ?_⟩
      · (try dsimp only) <;> first | omega | assumption
      · (try dsimp only) <;> first | omega | assumption
    · have g3869 := ti_nl h3865
      have b3870 := CI_g6 ci (c := 27) (p := 4) rfl
      refine Tp_if (fun h3871 => ?_) (fun h3871 => ?_)
      · have g3872 := ti_l h3871
        have l3873 : ((17 : Int32)).toInt = 17 := rfl
        have i3876 := ti_rg (mz_gI t 18 10)
        have i3877 := ti_rg (mz_gI t 18 11)
        refine Tp_bi (s_NA_add_m hn ci  (t := t) (x1 := mz_gI t 18 10) (x2 := mz_gI t 18 11)) (fun q3874 h3875 => ?_)
        have ci3878 := h3875
        refine Tp_gd (ti_ix (by omega) (by omega)) ?_
        have i3881 := ti_rg x1
        refine Tp_le (fun t3879 E3880 => ?_)
        have ci3882 := CI_p0 ci3878 E3880 rfl
        refine Tp_gd (ti_ix (by omega) (by omega)) ?_
        have i3885 := ti_rg x2
        refine Tp_le (fun t3883 E3884 => ?_)
        have ci3886 := CI_p0 ci3882 E3884 rfl
        refine Tp_gd (ti_ix (by omega) (by omega)) ?_
        have l3889 : ((0 : Int32)).toInt = 0 := rfl
        refine Tp_le (fun t3887 E3888 => ?_)
        have ci3890 := CI_p0 ci3886 E3888 rfl
        refine Tp_so ?_
        have l3891 : ((1 : Int32)).toInt = 1 := rfl
        refine ⟨ci3890, ?_, ?_⟩
        · (try dsimp only) <;> first | omega | assumption
        · (try dsimp only) <;> first | omega | assumption
      · have g3892 := ti_nl h3871
        have l3893 : ((17 : Int32)).toInt = 17 := rfl
        refine Tp_so ?_
        have l3894 : ((0 : Int32)).toInt = 0 := rfl
        refine ⟨ci, ?_, ?_⟩
        · (try dsimp only) <;> first | omega | assumption
        · (try dsimp only) <;> first | omega | assumption
  · have g3895 := ti_nq h3861
    have i3896 := ti_rg q3855.1
    have l3897 : (0 : Int32).toInt = 0 := rfl
    refine Tp_so ?_
    have l3898 : ((0 : Int32)).toInt = 0 := rfl
    refine ⟨ci, ?_, ?_⟩
    · (try dsimp only) <;> first | omega | assumption
    · (try dsimp only) <;> first | omega | assumption
set_option maxRecDepth 4000 in
set_option maxHeartbeats 8000000 in
theorem s_MA_tell {n : Nat} {L : Int32} (hn : 8589934592 ≤ n) {x1 : Int32} {x2 : Int32} {t : mz_St}  (ci : CI L t)  : Tp (f_MA_tell n x1 x2 t) (fun r => CI L r.2 ∧ r.2 = t) := by
  unfold f_MA_tell
  refine Tp_if (fun h3899 => ?_) (fun h3899 => ?_)
  · have g3900 := ti_l h3899
    have i3901 := ti_rg x1
    have l3902 : (0 : Int32).toInt = 0 := rfl
    refine Tp_so ?_
    have l3903 : ((-1 : Int32)).toInt = -1 := rfl
    exact ⟨ci, rfl⟩
  · have g3904 := ti_nl h3899
    have i3905 := ti_rg x1
    have l3906 : (0 : Int32).toInt = 0 := rfl
    refine Tp_if (fun h3907 => ?_) (fun h3907 => ?_)
    · have g3908 := ti_l h3907
      have l3909 : ((17 : Int32)).toInt = 17 := rfl
      refine Tp_if (fun h3910 => ?_) (fun h3910 => ?_)
      · have g3911 := ti_q h3910
        have i3912 := ti_rg x2
        have l3913 : ((0 : Int32)).toInt = 0 := rfl
        refine Tp_gd (ti_ix (by omega) (by omega)) ?_
        refine Tp_so ?_
        have i3914 := ti_rg (mz_gI t 19 x1.toNatClampNeg)
        exact ⟨ci, rfl⟩
      · have g3915 := ti_nq h3910
        have i3916 := ti_rg x2
        have l3917 : ((0 : Int32)).toInt = 0 := rfl
        refine Tp_if (fun h3918 => ?_) (fun h3918 => ?_)
        · have g3919 := ti_q h3918
          have l3920 : ((1 : Int32)).toInt = 1 := rfl
          refine Tp_gd (ti_ix (by omega) (by omega)) ?_
          refine Tp_so ?_
          have i3921 := ti_rg (mz_gI t 20 x1.toNatClampNeg)
          exact ⟨ci, rfl⟩
        · have g3922 := ti_nq h3918
          have l3923 : ((1 : Int32)).toInt = 1 := rfl
          refine Tp_if (fun h3924 => ?_) (fun h3924 => ?_)
          · have g3925 := ti_q h3924
            have l3926 : ((2 : Int32)).toInt = 2 := rfl
            refine Tp_gd (ti_ix (by omega) (by omega)) ?_
            refine Tp_so ?_
            have i3927 := ti_rg (mz_gI t 21 x1.toNatClampNeg)
            exact ⟨ci, rfl⟩
          · have g3928 := ti_nq h3924
            have l3929 : ((2 : Int32)).toInt = 2 := rfl
            refine Tp_if (fun h3930 => ?_) (fun h3930 => ?_)
            · have g3931 := ti_q h3930
              have l3932 : ((3 : Int32)).toInt = 3 := rfl
              refine Tp_gd (ti_ix (by omega) (by omega)) ?_
              refine Tp_so ?_
              have i3933 := ti_rg (mz_gI t 22 x1.toNatClampNeg)
              exact ⟨ci, rfl⟩
            · have g3934 := ti_nq h3930
              have l3935 : ((3 : Int32)).toInt = 3 := rfl
              have l3938 : ((4 : Int32)).toInt = 4 := rfl
              first | (have a3939 : (x2 - (4 : Int32)).toInt = (x2).toInt - ((4 : Int32)).toInt := ti_sub (by omega) (by omega)) | (have a3940 := ti_rg (x2 - (4 : Int32)))
              refine Tp_bi (s_NA_sign_m hn ci (by omega) (by omega) (t := t) (x1 := x1) (x2 := x2 - (4 : Int32))) (fun q3936 h3937 => ?_)
              obtain ⟨ci3941, E3942⟩ := h3937
              try rw [E3942]
              refine Tp_so ?_
              have i3943 := ti_rg q3936.1
              exact ⟨ci, rfl⟩
    · have g3944 := ti_nl h3907
      have l3945 : ((17 : Int32)).toInt = 17 := rfl
      refine Tp_so ?_
      have l3946 : ((-1 : Int32)).toInt = -1 := rfl
      exact ⟨ci, rfl⟩
set_option maxRecDepth 4000 in
set_option maxHeartbeats 8000000 in
theorem s_SK_startAnew {n : Nat} {L : Int32} (hn : 8589934592 ≤ n) {t : mz_St}  (ci : CI L t)  : Tp (f_SK_startAnew n t) (fun r => CI L r) := by
  unfold f_SK_startAnew
  have l3949 : ((0 : Int32)).toInt = 0 := rfl
  refine Tp_le (fun t3947 E3948 => ?_)
  have l3951 : (4 : Int32).toInt = 4 := rfl
  have ci3950 := CI_p10 ci E3948 rfl (by omega) (by omega)
  refine Tp_le (fun t3952 E3953 => ?_)
  have ci3954 := CI_p0 ci3950 E3953 rfl
  have b3957 := CI_g4 ci3954 (c := 1) (p := 4) rfl
  have e3958 : (mz_gI t3952 1 4).toInt = (mz_gI t3947 1 4).toInt := by rw [E3953, gI_oth _ _ (by simp)]
  have b3959 := CI_g4 ci3950 (c := 1) (p := 4) rfl
  have e3960 : (mz_gI t3947 1 4).toInt = (mz_gI t 1 4).toInt := by rw [E3948, gI_oth _ _ (by simp)]
  have b3961 := CI_g4 ci (c := 1) (p := 4) rfl
  have l3962 : ((1 : Int32)).toInt = 1 := rfl
  refine Tp_bi (s_FR_begin hn ci3954 (by omega) (by omega) (by omega) (t := t3952) (x0 := 51) (x1 := (0 : Int32)) (x2 := (0 : Int32)) (x3 := mz_gI t3952 1 4) (x4 := (1 : Int32)) (x5 := (0 : Int32))) (fun q3955 h3956 => ?_)
  have ci3963 := h3956
  refine Tp_so ?_
  exact ci3963
set_option maxRecDepth 4000 in
set_option maxHeartbeats 8000000 in
theorem s_SK_frameAt {n : Nat} {L : Int32} (hn : 8589934592 ≤ n) {x1 : Int32} {t : mz_St}  (ci : CI L t)  : Tp (f_SK_frameAt n x1 t) (fun r => CI L r.2 ∧ r.2 = t ∧ mz_fr r.1) := by
  unfold f_SK_frameAt
  refine Tp_if (fun h3964 => ?_) (fun h3964 => ?_)
  · have g3965 := ti_l h3964
    have i3966 := ti_rg x1
    have l3967 : ((1 : Int32)).toInt = 1 := rfl
    refine Tp_so ?_
    have l3968 : (51 : Int32).toInt = 51 := rfl
    refine ⟨ci, rfl, ?_⟩
    · (try dsimp only) <;> first | omega | assumption
  · have g3969 := ti_nl h3964
    have i3970 := ti_rg x1
    have l3971 : ((1 : Int32)).toInt = 1 := rfl
    refine Tp_if (fun h3972 => ?_) (fun h3972 => ?_)
    · have g3973 := ti_l h3972
      have l3974 : ((13 : Int32)).toInt = 13 := rfl
      refine Tp_so ?_
      have l3975 : (51 : Int32).toInt = 51 := rfl
      refine ⟨ci, rfl, ?_⟩
      · (try dsimp only) <;> first | omega | assumption
    · have g3976 := ti_nl h3972
      have l3977 : ((13 : Int32)).toInt = 13 := rfl
      first | (have a3978 : (x1 - (1 : Int32)).toInt = (x1).toInt - ((1 : Int32)).toInt := ti_sub (by omega) (by omega)) | (have a3979 := ti_rg (x1 - (1 : Int32)))
      refine Tp_gd (ti_ix (by omega) (by omega)) ?_
      have k3980 := ti_cl (x1 - (1 : Int32))
      refine Tp_gd (by omega) ?_
      refine Tp_so ?_
      refine ⟨ci, rfl, ?_⟩
      · (try dsimp only) <;> first | omega | assumption
set_option maxRecDepth 4000 in
set_option maxHeartbeats 8000000 in
theorem s_SK_top {n : Nat} {L : Int32} (hn : 8589934592 ≤ n) {t : mz_St}  (ci : CI L t)  : Tp (f_SK_top n t) (fun r => CI L r.2 ∧ r.2 = t ∧ mz_fr r.1) := by
  unfold f_SK_top
  have b3983 := CI_g10 ci (c := 30) (p := 4) rfl
  refine Tp_bi (s_SK_frameAt hn ci  (t := t) (x1 := mz_gI t 30 4)) (fun q3981 h3982 => ?_)
  obtain ⟨ci3984, E3985, p3986⟩ := h3982
  try rw [E3985]
  refine Tp_gd (by omega) ?_
  refine Tp_so ?_
  refine ⟨ci, rfl, ?_⟩
  · (try dsimp only) <;> first | omega | assumption
set_option maxRecDepth 4000 in
set_option maxHeartbeats 8000000 in
theorem s_SK_spare {n : Nat} {L : Int32} (hn : 8589934592 ≤ n) {t : mz_St}  (ci : CI L t)  : Tp (f_SK_spare n t) (fun r => CI L r.2 ∧ r.2 = t ∧ mz_fr r.1) := by
  unfold f_SK_spare
  have b3989 := CI_g10 ci (c := 30) (p := 4) rfl
  have l3990 : ((1 : Int32)).toInt = 1 := rfl
  first | (have a3991 : ((mz_gI t 30 4) + (1 : Int32)).toInt = (mz_gI t 30 4).toInt + ((1 : Int32)).toInt := ti_add (by omega) (by omega)) | (have a3992 := ti_rg ((mz_gI t 30 4) + (1 : Int32)))
  refine Tp_bi (s_SK_frameAt hn ci  (t := t) (x1 := (mz_gI t 30 4) + (1 : Int32))) (fun q3987 h3988 => ?_)
  obtain ⟨ci3993, E3994, p3995⟩ := h3988
  try rw [E3994]
  refine Tp_gd (by omega) ?_
  refine Tp_so ?_
  refine ⟨ci, rfl, ?_⟩
  · (try dsimp only) <;> first | omega | assumption
set_option maxRecDepth 4000 in
set_option maxHeartbeats 8000000 in
theorem s_SK_setTrimmed {n : Nat} {L : Int32} (hn : 8589934592 ≤ n) {x1 : Nat} {x2 : Int32} {x3 : Int32} {x4 : Int32} {t : mz_St}  (ci : CI L t) (i0 : mz_fr x1) (i1 : -1 ≤ x3.toInt) (i2 : x3.toInt ≤ 7000) (i3 : -1 ≤ x4.toInt) (i4 : x4.toInt ≤ 7000) : Tp (f_SK_setTrimmed n x1 x2 x3 x4 t) (fun r => CI L r) := by
  unfold f_SK_setTrimmed
  refine Tp_gd (by omega) ?_
  have i3998 := ti_rg x3
  have i3999 := ti_rg x4
  refine Tp_bi (s_SI_behindBlanks hn ci  (t := t) (x1 := x3) (x2 := x4)) (fun q3996 h3997 => ?_)
  obtain ⟨ci4000, E4001, p4002, p4003⟩ := h3997
  try rw [E4001]
  have i4006 := ti_rg q3996.1
  refine Tp_bi (s_SI_aheadOfBlanks hn ci  (t := t) (x1 := q3996.1) (x2 := x4)) (fun q4004 h4005 => ?_)
  obtain ⟨ci4007, E4008, p4009, p4010⟩ := h4005
  try rw [E4008]
  have i4013 := ti_rg x2
  have i4014 := ti_rg q4004.1
  refine Tp_bi (s_FR_setArgument hn ci (by omega) (by omega) (by omega) (by omega) (by omega) (t := t) (x0 := x1) (x1 := x2) (x2 := q3996.1) (x3 := q4004.1)) (fun q4011 h4012 => ?_)
  have ci4015 := h4012
  refine Tp_so ?_
  exact ci4015
set_option maxRecDepth 4000 in
set_option maxHeartbeats 8000000 in
theorem s_SK_nextText {n : Nat} {L : Int32} (hn : 8589934592 ≤ n) {x1 : Nat} {t : mz_St}  (ci : CI L t) (i0 : mz_fr x1) : Tp (f_SK_nextText n x1 t) (fun r => CI L r) := by
  unfold f_SK_nextText
  refine Tp_gd (by omega) ?_
  have b4018 := CI_g1 ci (c := x1) (p := 11) (bxK_f9 (by omega) (by decide) (by decide))
  have b4019 := CI_g1 ci (c := x1) (p := 12) (bxK_f9 (by omega) (by decide) (by decide))
  refine Tp_bi (s_SI_argumentEnd hn ci  (t := t) (x1 := mz_gI t x1 11) (x2 := mz_gI t x1 12)) (fun q4016 h4017 => ?_)
  obtain ⟨ci4020, E4021, p4022⟩ := h4017
  try rw [E4021]
  refine Tp_if (fun h4023 => ?_) (fun h4023 => ?_)
  · have g4024 := ti_q h4023
    have i4025 := ti_rg q4016.1
    have l4026 : ((-1 : Int32)).toInt = -1 := rfl
    unfold f_SK_nextText_26
    refine Tp_gd (by omega) ?_
    have l4029 : ((0 : Int32)).toInt = 0 := rfl
    refine Tp_bi (s_SK_setTrimmed hn ci (by omega) (by omega) (by omega) (by omega) (by omega) (t := t) (x1 := x1) (x2 := (0 : Int32)) (x3 := mz_gI t x1 11) (x4 := mz_gI t x1 12)) (fun q4027 h4028 => ?_)
    have ci4030 := h4028
    have b4033 := CI_g1 ci4030 (c := x1) (p := 12) (bxK_f9 (by omega) (by decide) (by decide))
    have l4034 : ((1 : Int32)).toInt = 1 := rfl
    first | (have a4035 : ((mz_gI t x1 12) + (1 : Int32)).toInt = (mz_gI t x1 12).toInt + ((1 : Int32)).toInt := ti_add (by omega) (by omega)) | (have a4036 := ti_rg ((mz_gI t x1 12) + (1 : Int32)))
    have m4037 := ti_mx (a := mz_gI q4027 x1 12) (b := (mz_gI t x1 12) + (1 : Int32)) (x := mz_gI q4027 x1 12) (y := (mz_gI t x1 12) + (1 : Int32))
    refine Tp_le (fun t4031 E4032 => ?_)
    have l4039 : (11 : Int32).toInt = 11 := rfl
    have ci4038 := CI_p1 ci4030 E4032 (bxK_f9 (by omega) (by decide) (by decide)) (by omega) (by omega)
    refine Tp_so ?_
    exact ci4038
  · have g4040 := ti_nq h4023
    have i4041 := ti_rg q4016.1
    have l4042 : ((-1 : Int32)).toInt = -1 := rfl
    unfold f_SK_nextText_26
    refine Tp_gd (by omega) ?_
    have l4045 : ((0 : Int32)).toInt = 0 := rfl
    refine Tp_bi (s_SK_setTrimmed hn ci (by omega) (by omega) (by omega) (by omega) (by omega) (t := t) (x1 := x1) (x2 := (0 : Int32)) (x3 := mz_gI t x1 11) (x4 := q4016.1)) (fun q4043 h4044 => ?_)
    have ci4046 := h4044
    have b4049 := CI_g1 ci4046 (c := x1) (p := 12) (bxK_f9 (by omega) (by decide) (by decide))
    have l4050 : ((1 : Int32)).toInt = 1 := rfl
    first | (have a4051 : (q4016.1 + (1 : Int32)).toInt = (q4016.1).toInt + ((1 : Int32)).toInt := ti_add (by omega) (by omega)) | (have a4052 := ti_rg (q4016.1 + (1 : Int32)))
    have m4053 := ti_mx (a := mz_gI q4043 x1 12) (b := q4016.1 + (1 : Int32)) (x := mz_gI q4043 x1 12) (y := q4016.1 + (1 : Int32))
    refine Tp_le (fun t4047 E4048 => ?_)
    have l4055 : (11 : Int32).toInt = 11 := rfl
    have ci4054 := CI_p1 ci4046 E4048 (bxK_f9 (by omega) (by decide) (by decide)) (by omega) (by omega)
    refine Tp_so ?_
    exact ci4054
set_option maxRecDepth 4000 in
set_option maxHeartbeats 8000000 in
theorem s_SK_turn {n : Nat} {L : Int32} (hn : 8589934592 ≤ n) {t : mz_St}  (ci : CI L t)  : Tp (f_SK_turn n t) (fun r => CI L r) := by
  unfold f_SK_turn
  refine Tp_bi (s_SK_top hn ci  (t := t)) (fun q4056 h4057 => ?_)
  obtain ⟨ci4058, E4059, p4060⟩ := h4057
  try rw [E4059]
  refine Tp_gd (by omega) ?_
  have i4063 := ti_rg (mz_gI t q4056.1 5)
  have l4064 : ((1 : Int32)).toInt = 1 := rfl
  first | (have a4065 : ((mz_gI t q4056.1 5) + (1 : Int32)).toInt = (mz_gI t q4056.1 5).toInt + ((1 : Int32)).toInt := ti_add (by omega) (by omega)) | (have a4066 := ti_rg ((mz_gI t q4056.1 5) + (1 : Int32)))
  refine Tp_le (fun t4061 E4062 => ?_)
  have ci4067 := CI_p0 ci E4062 (bxK_f1 (by omega) (by decide) (by decide))
  refine Tp_if (fun h4068 => ?_) (fun h4068 => ?_)
  · have g4069 := ti_e h4068
    have i4070 := ti_rg (mz_gI t4061 q4056.1 4)
    have e4071 : (mz_gI t4061 q4056.1 4).toInt = (mz_gI t q4056.1 4).toInt := by rw [E4062, gI_oth _ _ (by simp)]
    have i4072 := ti_rg (mz_gI t q4056.1 4)
    have i4073 := ti_rg (mz_gI t4061 q4056.1 5)
    have e4074 : (mz_gI t4061 q4056.1 5).toInt = ((mz_gI t q4056.1 5) + (1 : Int32)).toInt := by rw [E4062, gI_same]
    unfold f_SK_turn_37
    have l4077 : ((0 : Int32)).toInt = 0 := rfl
    have b4078 := CI_g10 ci4067 (c := 30) (p := 4) rfl
    have e4079 : (mz_gI t4061 30 4).toInt = (mz_gI t 30 4).toInt := by rw [E4062, gI_oth _ _ (by simp)]
    have b4080 := CI_g10 ci (c := 30) (p := 4) rfl
    first | (have a4081 : ((mz_gI t4061 30 4) - (1 : Int32)).toInt = (mz_gI t4061 30 4).toInt - ((1 : Int32)).toInt := ti_sub (by omega) (by omega)) | (have a4082 := ti_rg ((mz_gI t4061 30 4) - (1 : Int32)))
    have m4083 := ti_mx (a := (0 : Int32)) (b := (mz_gI t4061 30 4) - (1 : Int32)) (x := (mz_gI t4061 30 4) - (1 : Int32)) (y := (0 : Int32))
    refine Tp_le (fun t4075 E4076 => ?_)
    have l4085 : (4 : Int32).toInt = 4 := rfl
    have ci4084 := CI_p10 ci4067 E4076 rfl (by omega) (by omega)
    refine Tp_so ?_
    exact ci4084
  · have g4086 := ti_ne h4068
    have i4087 := ti_rg (mz_gI t4061 q4056.1 4)
    have e4088 : (mz_gI t4061 q4056.1 4).toInt = (mz_gI t q4056.1 4).toInt := by rw [E4062, gI_oth _ _ (by simp)]
    have i4089 := ti_rg (mz_gI t q4056.1 4)
    have i4090 := ti_rg (mz_gI t4061 q4056.1 5)
    have e4091 : (mz_gI t4061 q4056.1 5).toInt = ((mz_gI t q4056.1 5) + (1 : Int32)).toInt := by rw [E4062, gI_same]
    refine Tp_if (fun h4092 => ?_) (fun h4092 => ?_)
    · have g4093 := ti_l h4092
      have i4094 := ti_rg (mz_gI t4061 q4056.1 1)
      have e4095 : (mz_gI t4061 q4056.1 1).toInt = (mz_gI t q4056.1 1).toInt := by rw [E4062, gI_oth _ _ (by simp)]
      have i4096 := ti_rg (mz_gI t q4056.1 1)
      have i4097 := ti_rg (mz_gI t4061 q4056.1 2)
      have e4098 : (mz_gI t4061 q4056.1 2).toInt = (mz_gI t q4056.1 2).toInt := by rw [E4062, gI_oth _ _ (by simp)]
      have i4099 := ti_rg (mz_gI t q4056.1 2)
      refine Tp_le (fun t4100 E4101 => ?_)
      have ci4102 := CI_p0 ci4067 E4101 (bxK_f1 (by omega) (by decide) (by decide))
      have b4103 := CI_g3 ci4102 (c := q4056.1) (p := 0) (bxK_f0 (by omega))
      have e4104 : (mz_gI t4100 q4056.1 0).toInt = (mz_gI t4061 q4056.1 0).toInt := by rw [E4101, gI_oth _ _ (by simp)]
      have b4105 := CI_g3 ci4067 (c := q4056.1) (p := 0) (bxK_f0 (by omega))
      have e4106 : (mz_gI t4061 q4056.1 0).toInt = (mz_gI t q4056.1 0).toInt := by rw [E4062, gI_oth _ _ (by simp)]
      have b4107 := CI_g3 ci (c := q4056.1) (p := 0) (bxK_f0 (by omega))
      refine Tp_gd ⟨ti_c16 (by decide) (by omega), by decide⟩ ?_
      refine Tp_if (fun h4108 => ?_) (fun h4108 => ?_)
      · skip
        refine Tp_bi (s_SK_nextText hn ci4102 (by omega) (t := t4100) (x1 := q4056.1)) (fun q4109 h4110 => ?_)
        have ci4111 := h4110
        refine Tp_so ?_
        exact ci4111
      · skip
        refine Tp_so ?_
        exact ci4102
    · have g4112 := ti_nl h4092
      have i4113 := ti_rg (mz_gI t4061 q4056.1 1)
      have e4114 : (mz_gI t4061 q4056.1 1).toInt = (mz_gI t q4056.1 1).toInt := by rw [E4062, gI_oth _ _ (by simp)]
      have i4115 := ti_rg (mz_gI t q4056.1 1)
      have i4116 := ti_rg (mz_gI t4061 q4056.1 2)
      have e4117 : (mz_gI t4061 q4056.1 2).toInt = (mz_gI t q4056.1 2).toInt := by rw [E4062, gI_oth _ _ (by simp)]
      have i4118 := ti_rg (mz_gI t q4056.1 2)
      unfold f_SK_turn_37
      have l4121 : ((0 : Int32)).toInt = 0 := rfl
      have b4122 := CI_g10 ci4067 (c := 30) (p := 4) rfl
      have e4123 : (mz_gI t4061 30 4).toInt = (mz_gI t 30 4).toInt := by rw [E4062, gI_oth _ _ (by simp)]
      have b4124 := CI_g10 ci (c := 30) (p := 4) rfl
      first | (have a4125 : ((mz_gI t4061 30 4) - (1 : Int32)).toInt = (mz_gI t4061 30 4).toInt - ((1 : Int32)).toInt := ti_sub (by omega) (by omega)) | (have a4126 := ti_rg ((mz_gI t4061 30 4) - (1 : Int32)))
      have m4127 := ti_mx (a := (0 : Int32)) (b := (mz_gI t4061 30 4) - (1 : Int32)) (x := (mz_gI t4061 30 4) - (1 : Int32)) (y := (0 : Int32))
      refine Tp_le (fun t4119 E4120 => ?_)
      have l4129 : (4 : Int32).toInt = 4 := rfl
      have ci4128 := CI_p10 ci4067 E4120 rfl (by omega) (by omega)
      refine Tp_so ?_
      exact ci4128
set_option maxRecDepth 4000 in
set_option maxHeartbeats 8000000 in
theorem l_SK_macroDepth_5 {n : Nat} {L : Int32} (hn : 8589934592 ≤ n)  : ∀ (k : Nat) (x1 : Int32) (t : mz_St), CI L t → (0 ≤ x1.toInt) → (x1.toInt ≤ 12) → (x1.toInt + 2147483648).toNat < k → Tp (f_SK_macroDepth_5 n k x1 t) (fun r => CI L r.2 ∧ r.2 = t ∧ 0 ≤ (r.1).toInt ∧ (r.1).toInt ≤ 12) := by
  intro k
  induction k with
  | zero => intros; omega
  | succ k ih =>
    intro x1 t ci i0 i1 hm
    unfold f_SK_macroDepth_5
    simp only [ti_m1]
    refine Tp_if (fun h4130 => ?_) (fun h4130 => ?_)
    · have g4131 := ti_e h4130
      have i4132 := ti_rg x1
      have l4133 : (0 : Int32).toInt = 0 := rfl
      refine Tp_so ?_
      refine ⟨ci, rfl, ?_, ?_⟩
      · (try dsimp only) <;> first | omega | assumption
      · (try dsimp only) <;> first | omega | assumption
    · have g4134 := ti_ne h4130
      have i4135 := ti_rg x1
      have l4136 : (0 : Int32).toInt = 0 := rfl
      refine Tp_bi (s_SK_frameAt hn ci  (t := t) (x1 := x1)) (fun q4137 h4138 => ?_)
      obtain ⟨ci4139, E4140, p4141⟩ := h4138
      try rw [E4140]
      refine Tp_gd (by omega) ?_
      have b4142 := CI_g3 ci (c := q4137.1) (p := 0) (bxK_f0 (by omega))
      refine Tp_gd ⟨ti_c16 (by decide) (by omega), by decide⟩ ?_
      refine Tp_if (fun h4143 => ?_) (fun h4143 => ?_)
      · skip
        refine Tp_so ?_
        refine ⟨ci, rfl, ?_, ?_⟩
        · (try dsimp only) <;> first | omega | assumption
        · (try dsimp only) <;> first | omega | assumption
      · skip
        have l4144 : ((1 : Int32)).toInt = 1 := rfl
        first | (have a4145 : (x1 - (1 : Int32)).toInt = (x1).toInt - ((1 : Int32)).toInt := ti_sub (by omega) (by omega)) | (have a4146 := ti_rg (x1 - (1 : Int32)))
        exact ih (x1 - (1 : Int32)) t ci (by omega) (by omega) (by omega)
set_option maxRecDepth 4000 in
set_option maxHeartbeats 8000000 in
theorem s_SK_macroDepth {n : Nat} {L : Int32} (hn : 8589934592 ≤ n) {t : mz_St}  (ci : CI L t)  : Tp (f_SK_macroDepth n t) (fun r => CI L r.2 ∧ r.2 = t ∧ 0 ≤ (r.1).toInt ∧ (r.1).toInt ≤ 12) := by
  unfold f_SK_macroDepth
  have b4147 := CI_g10 ci (c := 30) (p := 4) rfl
  refine Tp_mo (l_SK_macroDepth_5 hn  n (mz_gI t 30 4) t ci (by omega) (by omega) (by omega)) (fun q4148 h4149 => ?_)
  obtain ⟨ci4150, E4151, p4152, p4153⟩ := h4149
  have i4154 := ti_rg q4148.1
  refine ⟨ci4150, (E4151), ?_, ?_⟩
  · (try dsimp only) <;> first | omega | assumption
  · (try dsimp only) <;> first | omega | assumption
set_option maxRecDepth 4000 in
set_option maxHeartbeats 8000000 in
theorem s_SK_appendSign {n : Nat} {L : Int32} (hn : 8589934592 ≤ n) {x1 : Int32} {t : mz_St}  (ci : CI L t) (i0 : (mz_gI t 30 8).toInt ≤ 1000001000) : Tp (f_SK_appendSign n x1 t) (fun r => CI L r ∧ (mz_gI r 30 8).toInt ≤ (mz_gI t 30 8).toInt + 1) := by
  unfold f_SK_appendSign
  have b4155 := CI_g11 ci (c := 30) (p := 8) rfl
  refine Tp_if (fun h4156 => ?_) (fun h4156 => ?_)
  · have g4157 := ti_e h4156
    have l4158 : ((300 : Int32)).toInt = 300 := rfl
    have b4159 := CI_g12 ci (c := 30) (p := 7) rfl
    first | (have a4160 : ((mz_gI t 30 8) - (mz_gI t 30 7)).toInt = (mz_gI t 30 8).toInt - (mz_gI t 30 7).toInt := ti_sub (by omega) (by omega)) | (have a4161 := ti_rg ((mz_gI t 30 8) - (mz_gI t 30 7)))
    unfold f_SK_appendSign_27
    have l4164 : ((1 : Int32)).toInt = 1 := rfl
    first | (have a4165 : ((mz_gI t 30 8) + (1 : Int32)).toInt = (mz_gI t 30 8).toInt + ((1 : Int32)).toInt := ti_add (by omega) (by omega)) | (have a4166 := ti_rg ((mz_gI t 30 8) + (1 : Int32)))
    refine Tp_le (fun t4162 E4163 => ?_)
    have l4168 : (8 : Int32).toInt = 8 := rfl
    have ci4167 := CI_p11 ci E4163 rfl (by omega) (by omega)
    refine Tp_so ?_
    have b4169 := CI_g11 ci4167 (c := 30) (p := 8) rfl
    have e4170 : (mz_gI t4162 30 8).toInt = ((mz_gI t 30 8) + (1 : Int32)).toInt := by rw [E4163, gI_same]
    refine ⟨ci4167, ?_⟩
    · (try dsimp only) <;> first | omega | assumption
  · have g4171 := ti_ne h4156
    have l4172 : ((300 : Int32)).toInt = 300 := rfl
    have b4173 := CI_g12 ci (c := 30) (p := 7) rfl
    first | (have a4174 : ((mz_gI t 30 8) - (mz_gI t 30 7)).toInt = (mz_gI t 30 8).toInt - (mz_gI t 30 7).toInt := ti_sub (by omega) (by omega)) | (have a4175 := ti_rg ((mz_gI t 30 8) - (mz_gI t 30 7)))
    have i4178 := ti_rg x1
    refine Tp_bi (s_SI_write hn ci  (t := t) (x1 := mz_gI t 30 8) (x2 := x1)) (fun q4176 h4177 => ?_)
    obtain ⟨ci4179, p4180, p4181⟩ := h4177
    have b4182 := CI_g11 ci4179 (c := 30) (p := 8) rfl
    have b4183 := CI_g12 ci4179 (c := 30) (p := 7) rfl
    unfold f_SK_appendSign_27
    have l4186 : ((1 : Int32)).toInt = 1 := rfl
    first | (have a4187 : ((mz_gI q4176 30 8) + (1 : Int32)).toInt = (mz_gI q4176 30 8).toInt + ((1 : Int32)).toInt := ti_add (by omega) (by omega)) | (have a4188 := ti_rg ((mz_gI q4176 30 8) + (1 : Int32)))
    refine Tp_le (fun t4184 E4185 => ?_)
    have l4190 : (8 : Int32).toInt = 8 := rfl
    have ci4189 := CI_p11 ci4179 E4185 rfl (by omega) (by omega)
    refine Tp_so ?_
    have b4191 := CI_g11 ci4189 (c := 30) (p := 8) rfl
    have e4192 : (mz_gI t4184 30 8).toInt = ((mz_gI q4176 30 8) + (1 : Int32)).toInt := by rw [E4185, gI_same]
    refine ⟨ci4189, ?_⟩
    · (try dsimp only) <;> first | omega | assumption
set_option maxRecDepth 4000 in
set_option maxHeartbeats 8000000 in
theorem an_46 {n : Nat} {L : Int32} (hn : 8589934592 ≤ n) {K : Int32 → Int32 → Int32 → mz_St → Option mz_St} {x1 u d s0 : Int32} {t : mz_St} {G : Int} {Q : mz_St → Prop} (ci : CI L t) (hc : (mz_gI t 30 8).toInt ≤ G) (hG : G ≤ 1000000100)
    (hK : ∀ b t', CI L t' → (mz_gI t' 30 8).toInt ≤ G + 1 → Tp (K x1 b (u / (10 : Int32)) t') Q) : Tp (f_SK_appendNumber_46 n K x1 u d s0 t) Q := by
  unfold f_SK_appendNumber_46
  refine Tp_if (fun h => ?_) (fun h => ?_)
  · unfold f_SK_appendNumber_60
    rw [if_pos (by decide)]
    exact hK _ t ci (by omega)
  · refine Tp_bi (s_SK_appendSign hn ci (by omega)) (fun q hq => ?_)
    unfold f_SK_appendNumber_60
    rw [if_pos (by decide)]
    exact hK _ q hq.1 (by have := hq.2; omega)
set_option maxRecDepth 4000 in
set_option maxHeartbeats 8000000 in
theorem an_step {n : Nat} {L : Int32} (hn : 8589934592 ≤ n) {k : Nat} {x1 x2 u : Int32} {t : mz_St} {G : Int} {Q : mz_St → Prop} (ci : CI L t) (hu : 0 < u.toInt) (hc : (mz_gI t 30 8).toInt ≤ G) (hG : G ≤ 1000000100)
    (hK : ∀ b t', CI L t' → (mz_gI t' 30 8).toInt ≤ G + 1 → Tp (f_SK_appendNumber_15 n k x1 b (u / (10 : Int32)) t') Q) : Tp (f_SK_appendNumber_15 n (k + 1) x1 x2 u t) Q := by
  unfold f_SK_appendNumber_15
  rw [if_neg (fun q => by have := ti_e q; rw [show (0 : Int32).toInt = 0 from rfl] at this; omega), if_pos (ti_n0 (by omega)), if_pos (by decide)]
  unfold f_SK_appendNumber_41
  refine Tp_if (fun h => ?_) (fun h => ?_)
  · refine Tp_if (fun h => ?_) (fun h => ?_)
    · exact an_46 hn ci hc hG hK
    · refine Tp_if (fun h => ?_) (fun h => ?_)
      · exact an_46 hn ci hc hG hK
      · exact an_46 hn ci hc hG hK
  · exact an_46 hn ci hc hG hK
set_option maxRecDepth 4000 in
set_option maxHeartbeats 8000000 in
theorem an_all {n : Nat} {L : Int32} (hn : 8589934592 ≤ n) {x1 x2 : Int32} {t : mz_St} (ci : CI L t) (hc : (mz_gI t 30 8).toInt ≤ 1000000000) : Tp (f_SK_appendNumber_15 n n x1 x2 (1000000000 : Int32) t) (fun r => CI L r ∧ (mz_gI r 30 8).toInt ≤ (mz_gI t 30 8).toInt + 7001) := by
  obtain ⟨m, rfl⟩ : ∃ m, n = m + 11 := ⟨n - 11, by omega⟩
  refine an_step hn (G := (mz_gI t 30 8).toInt + 0) ci (by decide) (by omega) (by omega) (fun b1 t1 c1 h1 => ?_)
  rw [show (1000000000 : Int32) / (10 : Int32) = (100000000 : Int32) from by decide]
  refine an_step hn (G := (mz_gI t 30 8).toInt + 1) c1 (by decide) (by omega) (by omega) (fun b2 t2 c2 h2 => ?_)
  rw [show (100000000 : Int32) / (10 : Int32) = (10000000 : Int32) from by decide]
  refine an_step hn (G := (mz_gI t 30 8).toInt + 2) c2 (by decide) (by omega) (by omega) (fun b3 t3 c3 h3 => ?_)
  rw [show (10000000 : Int32) / (10 : Int32) = (1000000 : Int32) from by decide]
  refine an_step hn (G := (mz_gI t 30 8).toInt + 3) c3 (by decide) (by omega) (by omega) (fun b4 t4 c4 h4 => ?_)
  rw [show (1000000 : Int32) / (10 : Int32) = (100000 : Int32) from by decide]
  refine an_step hn (G := (mz_gI t 30 8).toInt + 4) c4 (by decide) (by omega) (by omega) (fun b5 t5 c5 h5 => ?_)
  rw [show (100000 : Int32) / (10 : Int32) = (10000 : Int32) from by decide]
  refine an_step hn (G := (mz_gI t 30 8).toInt + 5) c5 (by decide) (by omega) (by omega) (fun b6 t6 c6 h6 => ?_)
  rw [show (10000 : Int32) / (10 : Int32) = (1000 : Int32) from by decide]
  refine an_step hn (G := (mz_gI t 30 8).toInt + 6) c6 (by decide) (by omega) (by omega) (fun b7 t7 c7 h7 => ?_)
  rw [show (1000 : Int32) / (10 : Int32) = (100 : Int32) from by decide]
  refine an_step hn (G := (mz_gI t 30 8).toInt + 7) c7 (by decide) (by omega) (by omega) (fun b8 t8 c8 h8 => ?_)
  rw [show (100 : Int32) / (10 : Int32) = (10 : Int32) from by decide]
  refine an_step hn (G := (mz_gI t 30 8).toInt + 8) c8 (by decide) (by omega) (by omega) (fun b9 t9 c9 h9 => ?_)
  rw [show (10 : Int32) / (10 : Int32) = (1 : Int32) from by decide]
  refine an_step hn (G := (mz_gI t 30 8).toInt + 9) c9 (by decide) (by omega) (by omega) (fun b10 t10 c10 h10 => ?_)
  rw [show (1 : Int32) / (10 : Int32) = (0 : Int32) from by decide]
  unfold f_SK_appendNumber_15
  rw [if_pos (by decide)]
  exact ⟨t10, rfl, c10, by omega⟩
set_option maxRecDepth 4000 in
set_option maxHeartbeats 8000000 in
theorem s_SK_appendNumber {n : Nat} {L : Int32} (hn : 8589934592 ≤ n) {x1 : Int32} {t : mz_St}  (ci : CI L t) (i0 : (mz_gI t 30 8).toInt ≤ 1000000000) : Tp (f_SK_appendNumber n x1 t) (fun r => CI L r ∧ (mz_gI r 30 8).toInt ≤ (mz_gI t 30 8).toInt + 7001) := by
  unfold f_SK_appendNumber
  have b4193 := CI_g11 ci (c := 30) (p := 8) rfl
  refine Tp_if (fun h4194 => ?_) (fun h4194 => ?_)
  · have g4195 := ti_e h4194
    have l4196 : (0 : Int32).toInt = 0 := rfl
    have i4197 := ti_rg x1
    have l4198 : ((0 : Int32)).toInt = 0 := rfl
    have l4199 : ((1000000000 : Int32)).toInt = 1000000000 := rfl
    refine Tp_mo (an_all hn ci (by omega)) (fun q4200 h4201 => ?_)
    obtain ⟨ci4202, p4203⟩ := h4201
    have b4204 := CI_g11 ci4202 (c := 30) (p := 8) rfl
    refine ⟨ci4202, ?_⟩
    · (try dsimp only) <;> first | omega | assumption
  · have g4205 := ti_ne h4194
    have l4206 : (0 : Int32).toInt = 0 := rfl
    have i4207 := ti_rg x1
    have l4210 : ((1 : Int32)).toInt = 1 := rfl
    refine Tp_le (fun t4208 E4209 => ?_)
    have l4212 : (9 : Int32).toInt = 9 := rfl
    have ci4211 := CI_p2 ci E4209 rfl (by omega) (by omega)
    refine Tp_so ?_
    have b4213 := CI_g11 ci4211 (c := 30) (p := 8) rfl
    have e4214 : (mz_gI t4208 30 8).toInt = (mz_gI t 30 8).toInt := by rw [E4209, gI_oth _ _ (by simp)]
    refine ⟨ci4211, ?_⟩
    · (try dsimp only) <;> first | omega | assumption
set_option maxRecDepth 4000 in
set_option maxHeartbeats 8000000 in
theorem l_SK_append_34 {n : Nat} {L : Int32} (hn : 8589934592 ≤ n) (g0 : Int) : ∀ (k : Nat) (x2 : Int32) (x3 : Int32) (t : mz_St), CI L t → ((mz_gI t 30 8).toInt ≤ g0) → ((mz_gI t 30 8).toInt + x2.toInt - x3.toInt ≤ g0) → (g0 ≤ 1900000000) → (2147483648 - x3.toInt).toNat < k → Tp (f_SK_append_34 n k x2 x3 t) (fun r => CI L r ∧ (mz_gI r 30 8).toInt ≤ g0) := by
  intro k
  induction k with
  | zero => intros; omega
  | succ k ih =>
    intro x2 x3 t ci i0 i1 i2 hm
    unfold f_SK_append_34
    have b4215 := CI_g11 ci (c := 30) (p := 8) rfl
    refine Tp_if (fun h4216 => ?_) (fun h4216 => ?_)
    · have g4217 := ti_e h4216
      have i4218 := ti_rg x2
      have i4219 := ti_rg x3
      refine Tp_so ?_
      refine ⟨ci, ?_⟩
      · (try dsimp only) <;> first | omega | assumption
    · have g4220 := ti_ne h4216
      have i4221 := ti_rg x2
      have i4222 := ti_rg x3
      refine Tp_bi (s_SI_at hn ci  (t := t) (x1 := x3)) (fun q4223 h4224 => ?_)
      obtain ⟨ci4225, E4226⟩ := h4224
      try rw [E4226]
      have i4229 := ti_rg q4223.1
      refine Tp_bi (s_SI_write hn ci  (t := t) (x1 := mz_gI t 30 8) (x2 := q4223.1)) (fun q4227 h4228 => ?_)
      obtain ⟨ci4230, p4231, p4232⟩ := h4228
      have b4233 := CI_g12 ci (c := 30) (p := 7) rfl
      have b4234 := CI_g11 ci4230 (c := 30) (p := 8) rfl
      have b4235 := CI_g12 ci4230 (c := 30) (p := 7) rfl
      have l4238 : ((1 : Int32)).toInt = 1 := rfl
      first | (have a4239 : ((mz_gI q4227 30 8) + (1 : Int32)).toInt = (mz_gI q4227 30 8).toInt + ((1 : Int32)).toInt := ti_add (by omega) (by omega)) | (have a4240 := ti_rg ((mz_gI q4227 30 8) + (1 : Int32)))
      refine Tp_le (fun t4236 E4237 => ?_)
      have l4242 : (8 : Int32).toInt = 8 := rfl
      have ci4241 := CI_p11 ci4230 E4237 rfl (by omega) (by omega)
      first | (have a4243 : (x3 + (1 : Int32)).toInt = (x3).toInt + ((1 : Int32)).toInt := ti_add (by omega) (by omega)) | (have a4244 := ti_rg (x3 + (1 : Int32)))
      have b4245 := CI_g11 ci4241 (c := 30) (p := 8) rfl
      have e4246 : (mz_gI t4236 30 8).toInt = ((mz_gI q4227 30 8) + (1 : Int32)).toInt := by rw [E4237, gI_same]
      exact ih x2 (x3 + (1 : Int32)) t4236 ci4241 (by omega) (by omega) (by omega) (by omega)
set_option maxRecDepth 4000 in
set_option maxHeartbeats 8000000 in
theorem s_SK_append {n : Nat} {L : Int32} (hn : 8589934592 ≤ n) {x1 : Int32} {x2 : Int32} {t : mz_St}  (ci : CI L t) (i0 : -1 ≤ x1.toInt) (i1 : x1.toInt ≤ 7000) (i2 : -1 ≤ x2.toInt) (i3 : x2.toInt ≤ 7000) (i4 : (mz_gI t 30 8).toInt ≤ 1000000000) : Tp (f_SK_append n x1 x2 t) (fun r => CI L r ∧ (mz_gI r 30 8).toInt ≤ (mz_gI t 30 8).toInt + 7001) := by
  unfold f_SK_append
  have b4247 := CI_g11 ci (c := 30) (p := 8) rfl
  refine Tp_if (fun h4248 => ?_) (fun h4248 => ?_)
  · have g4249 := ti_e h4248
    have b4250 := CI_g12 ci (c := 30) (p := 7) rfl
    first | (have a4251 : ((mz_gI t 30 8) - (mz_gI t 30 7)).toInt = (mz_gI t 30 8).toInt - (mz_gI t 30 7).toInt := ti_sub (by omega) (by omega)) | (have a4252 := ti_rg ((mz_gI t 30 8) - (mz_gI t 30 7)))
    have i4253 := ti_rg x2
    have i4254 := ti_rg x1
    first | (have a4255 : (x2 - x1).toInt = (x2).toInt - (x1).toInt := ti_sub (by omega) (by omega)) | (have a4256 := ti_rg (x2 - x1))
    first | (have a4257 : (((mz_gI t 30 8) - (mz_gI t 30 7)) + (x2 - x1)).toInt = ((mz_gI t 30 8) - (mz_gI t 30 7)).toInt + (x2 - x1).toInt := ti_add (by omega) (by omega)) | (have a4258 := ti_rg (((mz_gI t 30 8) - (mz_gI t 30 7)) + (x2 - x1)))
    have l4259 : ((300 : Int32)).toInt = 300 := rfl
    refine Tp_mo (l_SK_append_34 hn ((mz_gI t 30 8).toInt + 7001) n x2 x1 t ci (by omega) (by omega) (by omega) (by omega)) (fun q4260 h4261 => ?_)
    obtain ⟨ci4262, p4263⟩ := h4261
    have b4264 := CI_g11 ci4262 (c := 30) (p := 8) rfl
    refine ⟨ci4262, ?_⟩
    · (try dsimp only) <;> first | omega | assumption
  · have g4265 := ti_ne h4248
    have b4266 := CI_g12 ci (c := 30) (p := 7) rfl
    first | (have a4267 : ((mz_gI t 30 8) - (mz_gI t 30 7)).toInt = (mz_gI t 30 8).toInt - (mz_gI t 30 7).toInt := ti_sub (by omega) (by omega)) | (have a4268 := ti_rg ((mz_gI t 30 8) - (mz_gI t 30 7)))
    have i4269 := ti_rg x2
    have i4270 := ti_rg x1
    first | (have a4271 : (x2 - x1).toInt = (x2).toInt - (x1).toInt := ti_sub (by omega) (by omega)) | (have a4272 := ti_rg (x2 - x1))
    first | (have a4273 : (((mz_gI t 30 8) - (mz_gI t 30 7)) + (x2 - x1)).toInt = ((mz_gI t 30 8) - (mz_gI t 30 7)).toInt + (x2 - x1).toInt := ti_add (by omega) (by omega)) | (have a4274 := ti_rg (((mz_gI t 30 8) - (mz_gI t 30 7)) + (x2 - x1)))
    have l4275 : ((300 : Int32)).toInt = 300 := rfl
    first | (have a4278 : ((mz_gI t 30 8) + (x2 - x1)).toInt = (mz_gI t 30 8).toInt + (x2 - x1).toInt := ti_add (by omega) (by omega)) | (have a4279 := ti_rg ((mz_gI t 30 8) + (x2 - x1)))
    refine Tp_le (fun t4276 E4277 => ?_)
    have l4281 : (8 : Int32).toInt = 8 := rfl
    have ci4280 := CI_p11 ci E4277 rfl (by omega) (by omega)
    refine Tp_so ?_
    have b4282 := CI_g11 ci4280 (c := 30) (p := 8) rfl
    have e4283 : (mz_gI t4276 30 8).toInt = ((mz_gI t 30 8) + (x2 - x1)).toInt := by rw [E4277, gI_same]
    refine ⟨ci4280, ?_⟩
    · (try dsimp only) <;> first | omega | assumption
set_option maxRecDepth 4000 in
set_option maxHeartbeats 8000000 in
theorem l_SK_appendNamed_5 {n : Nat} {L : Int32} (hn : 8589934592 ≤ n)  : ∀ (k : Nat) (x1 : Int32) (x2 : Int32) (x3 : Int32) (t : mz_St), CI L t → (-1 ≤ x1.toInt) → (x1.toInt ≤ 7000) → (-1 ≤ x2.toInt) → (x2.toInt ≤ 7000) → ((mz_gI t 30 8).toInt ≤ 1000000000) → (x3.toInt ≤ 13) → (-1 ≤ x3.toInt) → (x3.toInt + 2147483648).toNat < k → Tp (f_SK_appendNamed_5 n k x1 x2 x3 t) (fun r => CI L r ∧ (mz_gI r 30 8).toInt ≤ (mz_gI t 30 8).toInt + 7001) := by
  intro k
  induction k with
  | zero => intros; omega
  | succ k ih =>
    intro x1 x2 x3 t ci i0 i1 i2 i3 i4 i5 i6 hm
    unfold f_SK_appendNamed_5
    have b4284 := CI_g11 ci (c := 30) (p := 8) rfl
    refine Tp_if (fun h4285 => ?_) (fun h4285 => ?_)
    · have g4286 := ti_e h4285
      have i4287 := ti_rg x3
      have b4288 := CI_g10 ci (c := 30) (p := 10) rfl
      refine Tp_bi (s_SK_frameAt hn ci  (t := t) (x1 := mz_gI t 30 10)) (fun q4289 h4290 => ?_)
      obtain ⟨ci4291, E4292, p4293⟩ := h4290
      try rw [E4292]
      refine Tp_gd (by omega) ?_
      refine Tp_if (fun h4294 => ?_) (fun h4294 => ?_)
      · have g4295 := ti_q h4294
        have l4296 : (0 : Int32).toInt = 0 := rfl
        unfold f_SK_appendNamed_109
        refine Tp_gd (by omega) ?_
        refine Tp_if (fun h4297 => ?_) (fun h4297 => ?_)
        · have g4298 := ti_q h4297
          have l4299 : ((-1 : Int32)).toInt = -1 := rfl
          have l4302 : ((1 : Int32)).toInt = 1 := rfl
          refine Tp_le (fun t4300 E4301 => ?_)
          have l4304 : (9 : Int32).toInt = 9 := rfl
          have ci4303 := CI_p2 ci E4301 rfl (by omega) (by omega)
          refine Tp_so ?_
          have b4305 := CI_g11 ci4303 (c := 30) (p := 8) rfl
          have e4306 : (mz_gI t4300 30 8).toInt = (mz_gI t 30 8).toInt := by rw [E4301, gI_oth _ _ (by simp)]
          refine ⟨ci4303, ?_⟩
          · (try dsimp only) <;> first | omega | assumption
        · have g4307 := ti_nq h4297
          have l4308 : ((-1 : Int32)).toInt = -1 := rfl
          refine Tp_bi (s_FR_argumentStart hn ci (by omega) (t := t) (x0 := q4289.1) (x1 := (-1 : Int32))) (fun q4309 h4310 => ?_)
          obtain ⟨ci4311, E4312, p4313, p4314⟩ := h4310
          try rw [E4312]
          refine Tp_bi (s_FR_argumentStop hn ci (by omega) (t := t) (x0 := q4289.1) (x1 := (-1 : Int32))) (fun q4315 h4316 => ?_)
          obtain ⟨ci4317, E4318, p4319, p4320⟩ := h4316
          try rw [E4318]
          have i4323 := ti_rg q4309.1
          have i4324 := ti_rg q4315.1
          refine Tp_bi (s_SK_append hn ci (by omega) (by omega) (by omega) (by omega) (by omega) (t := t) (x1 := q4309.1) (x2 := q4315.1)) (fun q4321 h4322 => ?_)
          obtain ⟨ci4325, p4326⟩ := h4322
          have b4327 := CI_g11 ci4325 (c := 30) (p := 8) rfl
          refine Tp_so ?_
          refine ⟨ci4325, ?_⟩
          · (try dsimp only) <;> first | omega | assumption
      · have g4328 := ti_nq h4294
        have l4329 : (0 : Int32).toInt = 0 := rfl
        have i4332 := ti_rg (mz_gI t q4289.1 7)
        have i4333 := ti_rg x1
        have i4334 := ti_rg x2
        refine Tp_bi (s_MA_findParameter hn ci (by omega) (by omega) (by omega) (by omega) (t := t) (x1 := mz_gI t q4289.1 7) (x2 := x1) (x3 := x2)) (fun q4330 h4331 => ?_)
        obtain ⟨ci4335, E4336⟩ := h4331
        try rw [E4336]
        unfold f_SK_appendNamed_109
        refine Tp_gd (by omega) ?_
        refine Tp_if (fun h4337 => ?_) (fun h4337 => ?_)
        · have g4338 := ti_q h4337
          have i4339 := ti_rg q4330.1
          have l4340 : ((-1 : Int32)).toInt = -1 := rfl
          have l4343 : ((1 : Int32)).toInt = 1 := rfl
          refine Tp_le (fun t4341 E4342 => ?_)
          have l4345 : (9 : Int32).toInt = 9 := rfl
          have ci4344 := CI_p2 ci E4342 rfl (by omega) (by omega)
          refine Tp_so ?_
          have b4346 := CI_g11 ci4344 (c := 30) (p := 8) rfl
          have e4347 : (mz_gI t4341 30 8).toInt = (mz_gI t 30 8).toInt := by rw [E4342, gI_oth _ _ (by simp)]
          refine ⟨ci4344, ?_⟩
          · (try dsimp only) <;> first | omega | assumption
        · have g4348 := ti_nq h4337
          have i4349 := ti_rg q4330.1
          have l4350 : ((-1 : Int32)).toInt = -1 := rfl
          refine Tp_bi (s_FR_argumentStart hn ci (by omega) (t := t) (x0 := q4289.1) (x1 := q4330.1)) (fun q4351 h4352 => ?_)
          obtain ⟨ci4353, E4354, p4355, p4356⟩ := h4352
          try rw [E4354]
          refine Tp_bi (s_FR_argumentStop hn ci (by omega) (t := t) (x0 := q4289.1) (x1 := q4330.1)) (fun q4357 h4358 => ?_)
          obtain ⟨ci4359, E4360, p4361, p4362⟩ := h4358
          try rw [E4360]
          have i4365 := ti_rg q4351.1
          have i4366 := ti_rg q4357.1
          refine Tp_bi (s_SK_append hn ci (by omega) (by omega) (by omega) (by omega) (by omega) (t := t) (x1 := q4351.1) (x2 := q4357.1)) (fun q4363 h4364 => ?_)
          obtain ⟨ci4367, p4368⟩ := h4364
          have b4369 := CI_g11 ci4367 (c := 30) (p := 8) rfl
          refine Tp_so ?_
          refine ⟨ci4367, ?_⟩
          · (try dsimp only) <;> first | omega | assumption
    · have g4370 := ti_ne h4285
      have i4371 := ti_rg x3
      have b4372 := CI_g10 ci (c := 30) (p := 10) rfl
      refine Tp_bi (s_SK_frameAt hn ci  (t := t) (x1 := x3)) (fun q4373 h4374 => ?_)
      obtain ⟨ci4375, E4376, p4377⟩ := h4374
      try rw [E4376]
      refine Tp_gd (by omega) ?_
      have b4378 := CI_g3 ci (c := q4373.1) (p := 0) (bxK_f0 (by omega))
      refine Tp_gd ⟨ti_c16 (by decide) (by omega), by decide⟩ ?_
      refine Tp_if (fun h4379 => ?_) (fun h4379 => ?_)
      · skip
        have b4382 := CI_g1 ci (c := q4373.1) (p := 9) (bxK_f9 (by omega) (by decide) (by decide))
        have b4383 := CI_g1 ci (c := q4373.1) (p := 10) (bxK_f9 (by omega) (by decide) (by decide))
        have i4384 := ti_rg x1
        have i4385 := ti_rg x2
        refine Tp_bi (s_SI_same hn ci (by omega) (by omega) (by omega) (by omega) (by omega) (by omega) (t := t) (x1 := mz_gI t q4373.1 9) (x2 := mz_gI t q4373.1 10) (x3 := x1) (x4 := x2)) (fun q4380 h4381 => ?_)
        obtain ⟨ci4386, E4387, p4388, p4389⟩ := h4381
        try rw [E4387]
        refine Tp_if (fun h4390 => ?_) (fun h4390 => ?_)
        · have g4391 := ti_q h4390
          have i4392 := ti_rg q4380.1
          have l4393 : (0 : Int32).toInt = 0 := rfl
          unfold f_SK_appendNamed_70
          simp only [ti_m1]
          have l4394 : ((1 : Int32)).toInt = 1 := rfl
          first | (have a4395 : (x3 - (1 : Int32)).toInt = (x3).toInt - ((1 : Int32)).toInt := ti_sub (by omega) (by omega)) | (have a4396 := ti_rg (x3 - (1 : Int32)))
          exact ih x1 x2 (x3 - (1 : Int32)) t ci (by omega) (by omega) (by omega) (by omega) (by omega) (by omega) (by omega) (by omega)
        · have g4397 := ti_nq h4390
          have i4398 := ti_rg q4380.1
          have l4399 : (0 : Int32).toInt = 0 := rfl
          have l4402 : ((0 : Int32)).toInt = 0 := rfl
          refine Tp_bi (s_FR_argumentStart hn ci (by omega) (t := t) (x0 := q4373.1) (x1 := (0 : Int32))) (fun q4400 h4401 => ?_)
          obtain ⟨ci4403, E4404, p4405, p4406⟩ := h4401
          try rw [E4404]
          refine Tp_bi (s_FR_argumentStop hn ci (by omega) (t := t) (x0 := q4373.1) (x1 := (0 : Int32))) (fun q4407 h4408 => ?_)
          obtain ⟨ci4409, E4410, p4411, p4412⟩ := h4408
          try rw [E4410]
          have i4415 := ti_rg q4400.1
          have i4416 := ti_rg q4407.1
          refine Tp_bi (s_SK_append hn ci (by omega) (by omega) (by omega) (by omega) (by omega) (t := t) (x1 := q4400.1) (x2 := q4407.1)) (fun q4413 h4414 => ?_)
          obtain ⟨ci4417, p4418⟩ := h4414
          have b4419 := CI_g11 ci4417 (c := 30) (p := 8) rfl
          refine Tp_so ?_
          refine ⟨ci4417, ?_⟩
          · (try dsimp only) <;> first | omega | assumption
      · skip
        unfold f_SK_appendNamed_70
        simp only [ti_m1]
        have i4420 := ti_rg x1
        have i4421 := ti_rg x2
        have l4422 : ((1 : Int32)).toInt = 1 := rfl
        first | (have a4423 : (x3 - (1 : Int32)).toInt = (x3).toInt - ((1 : Int32)).toInt := ti_sub (by omega) (by omega)) | (have a4424 := ti_rg (x3 - (1 : Int32)))
        exact ih x1 x2 (x3 - (1 : Int32)) t ci (by omega) (by omega) (by omega) (by omega) (by omega) (by omega) (by omega) (by omega)
set_option maxRecDepth 4000 in
set_option maxHeartbeats 8000000 in
theorem s_SK_appendNamed {n : Nat} {L : Int32} (hn : 8589934592 ≤ n) {x1 : Int32} {x2 : Int32} {t : mz_St}  (ci : CI L t) (i0 : -1 ≤ x1.toInt) (i1 : x1.toInt ≤ 7000) (i2 : -1 ≤ x2.toInt) (i3 : x2.toInt ≤ 7000) (i4 : (mz_gI t 30 8).toInt ≤ 1000000000) : Tp (f_SK_appendNamed n x1 x2 t) (fun r => CI L r ∧ (mz_gI r 30 8).toInt ≤ (mz_gI t 30 8).toInt + 7001) := by
  unfold f_SK_appendNamed
  have b4425 := CI_g11 ci (c := 30) (p := 8) rfl
  have i4426 := ti_rg x1
  have i4427 := ti_rg x2
  have b4428 := CI_g10 ci (c := 30) (p := 4) rfl
  refine Tp_mo (l_SK_appendNamed_5 hn  n x1 x2 (mz_gI t 30 4) t ci (by omega) (by omega) (by omega) (by omega) (by omega) (by omega) (by omega) (by omega)) (fun q4429 h4430 => ?_)
  obtain ⟨ci4431, p4432⟩ := h4430
  have b4433 := CI_g11 ci4431 (c := 30) (p := 8) rfl
  refine ⟨ci4431, ?_⟩
  · (try dsimp only) <;> first | omega | assumption
set_option maxRecDepth 4000 in
set_option maxHeartbeats 8000000 in
theorem s_SK_replaceMark {n : Nat} {L : Int32} (hn : 8589934592 ≤ n) {x1 : Int32} {x2 : Int32} {t : mz_St}  (ci : CI L t) (i0 : 0 ≤ x1.toInt) (i1 : x1.toInt ≤ 6601) (i2 : -1 ≤ x2.toInt) (i3 : x2.toInt ≤ 6600) (i4 : (mz_gI t 30 8).toInt ≤ 1000000000) : Tp (f_SK_replaceMark n x1 x2 t) (fun r => CI L r.2 ∧ (r.1).toInt ≤ 7001 ∧ (mz_gI r.2 30 8).toInt ≤ (mz_gI t 30 8).toInt + 7001) := by
  unfold f_SK_replaceMark
  have b4434 := CI_g11 ci (c := 30) (p := 8) rfl
  refine Tp_if (fun h4435 => ?_) (fun h4435 => ?_)
  · have g4436 := ti_e h4435
    have i4437 := ti_rg x2
    have i4438 := ti_rg x1
    unfold f_SK_replaceMark_17
    refine Tp_if (fun h4439 => ?_) (fun h4439 => ?_)
    · have g4440 := ti_q h4439
      have l4441 : ((-1 : Int32)).toInt = -1 := rfl
      have l4442 : ((64 : Int32)).toInt = 64 := rfl
      refine Tp_if (fun h4443 => ?_) (fun h4443 => ?_)
      · have g4444 := ti_q h4443
        have b4445 := CI_g10 ci (c := 30) (p := 10) rfl
        have l4446 : (0 : Int32).toInt = 0 := rfl
        unfold f_SK_replaceMark_47
        refine Tp_bi (s_SK_appendNumber hn ci (by omega) (t := t) (x1 := (-1 : Int32))) (fun q4447 h4448 => ?_)
        obtain ⟨ci4449, p4450⟩ := h4448
        have b4451 := CI_g11 ci4449 (c := 30) (p := 8) rfl
        refine Tp_so ?_
        have l4452 : ((1 : Int32)).toInt = 1 := rfl
        first | (have a4453 : (x1 + (1 : Int32)).toInt = (x1).toInt + ((1 : Int32)).toInt := ti_add (by omega) (by omega)) | (have a4454 := ti_rg (x1 + (1 : Int32)))
        refine ⟨ci4449, ?_, ?_⟩
        · (try dsimp only) <;> first | omega | assumption
        · (try dsimp only) <;> first | omega | assumption
      · have g4455 := ti_nq h4443
        have b4456 := CI_g10 ci (c := 30) (p := 10) rfl
        have l4457 : (0 : Int32).toInt = 0 := rfl
        refine Tp_bi (s_SK_frameAt hn ci  (t := t) (x1 := mz_gI t 30 10)) (fun q4458 h4459 => ?_)
        obtain ⟨ci4460, E4461, p4462⟩ := h4459
        try rw [E4461]
        refine Tp_gd (by omega) ?_
        unfold f_SK_replaceMark_47
        have i4465 := ti_rg (mz_gI t q4458.1 8)
        refine Tp_bi (s_SK_appendNumber hn ci (by omega) (t := t) (x1 := mz_gI t q4458.1 8)) (fun q4463 h4464 => ?_)
        obtain ⟨ci4466, p4467⟩ := h4464
        have b4468 := CI_g11 ci4466 (c := 30) (p := 8) rfl
        refine Tp_so ?_
        have l4469 : ((1 : Int32)).toInt = 1 := rfl
        first | (have a4470 : (x1 + (1 : Int32)).toInt = (x1).toInt + ((1 : Int32)).toInt := ti_add (by omega) (by omega)) | (have a4471 := ti_rg (x1 + (1 : Int32)))
        refine ⟨ci4466, ?_, ?_⟩
        · (try dsimp only) <;> first | omega | assumption
        · (try dsimp only) <;> first | omega | assumption
    · have g4472 := ti_nq h4439
      have l4473 : ((-1 : Int32)).toInt = -1 := rfl
      have l4474 : ((64 : Int32)).toInt = 64 := rfl
      refine Tp_if (fun h4475 => ?_) (fun h4475 => ?_)
      · have g4476 := ti_q h4475
        have l4477 : ((63 : Int32)).toInt = 63 := rfl
        refine Tp_bi (s_SK_top hn ci  (t := t)) (fun q4478 h4479 => ?_)
        obtain ⟨ci4480, E4481, p4482⟩ := h4479
        try rw [E4481]
        refine Tp_gd (by omega) ?_
        refine Tp_bi (s_FR_repeats hn ci (by omega) (t := t) (x0 := q4478.1)) (fun q4483 h4484 => ?_)
        obtain ⟨ci4485, E4486, p4487, p4488⟩ := h4484
        try rw [E4486]
        refine Tp_if (fun h4489 => ?_) (fun h4489 => ?_)
        · have g4490 := ti_q h4489
          have i4491 := ti_rg q4483.1
          have l4492 : (0 : Int32).toInt = 0 := rfl
          unfold f_SK_replaceMark_82
          refine Tp_bi (s_SK_appendNumber hn ci (by omega) (t := t) (x1 := (-1 : Int32))) (fun q4493 h4494 => ?_)
          obtain ⟨ci4495, p4496⟩ := h4494
          have b4497 := CI_g11 ci4495 (c := 30) (p := 8) rfl
          refine Tp_so ?_
          have l4498 : ((1 : Int32)).toInt = 1 := rfl
          first | (have a4499 : (x1 + (1 : Int32)).toInt = (x1).toInt + ((1 : Int32)).toInt := ti_add (by omega) (by omega)) | (have a4500 := ti_rg (x1 + (1 : Int32)))
          refine ⟨ci4495, ?_, ?_⟩
          · (try dsimp only) <;> first | omega | assumption
          · (try dsimp only) <;> first | omega | assumption
        · have g4501 := ti_nq h4489
          have i4502 := ti_rg q4483.1
          have l4503 : (0 : Int32).toInt = 0 := rfl
          refine Tp_bi (s_SK_top hn ci  (t := t)) (fun q4504 h4505 => ?_)
          obtain ⟨ci4506, E4507, p4508⟩ := h4505
          try rw [E4507]
          refine Tp_gd (by omega) ?_
          unfold f_SK_replaceMark_82
          have i4511 := ti_rg (mz_gI t q4504.1 5)
          refine Tp_bi (s_SK_appendNumber hn ci (by omega) (t := t) (x1 := mz_gI t q4504.1 5)) (fun q4509 h4510 => ?_)
          obtain ⟨ci4512, p4513⟩ := h4510
          have b4514 := CI_g11 ci4512 (c := 30) (p := 8) rfl
          refine Tp_so ?_
          have l4515 : ((1 : Int32)).toInt = 1 := rfl
          first | (have a4516 : (x1 + (1 : Int32)).toInt = (x1).toInt + ((1 : Int32)).toInt := ti_add (by omega) (by omega)) | (have a4517 := ti_rg (x1 + (1 : Int32)))
          refine ⟨ci4512, ?_, ?_⟩
          · (try dsimp only) <;> first | omega | assumption
          · (try dsimp only) <;> first | omega | assumption
      · have g4518 := ti_nq h4475
        have l4519 : ((63 : Int32)).toInt = 63 := rfl
        refine Tp_bi (s_SI_wordEnd hn ci  (t := t) (x1 := x1) (x2 := x2)) (fun q4520 h4521 => ?_)
        obtain ⟨ci4522, E4523, p4524, p4525⟩ := h4521
        try rw [E4523]
        have i4528 := ti_rg q4520.1
        refine Tp_bi (s_SK_appendNamed hn ci (by omega) (by omega) (by omega) (by omega) (by omega) (t := t) (x1 := x1) (x2 := q4520.1)) (fun q4526 h4527 => ?_)
        obtain ⟨ci4529, p4530⟩ := h4527
        have b4531 := CI_g11 ci4529 (c := 30) (p := 8) rfl
        refine Tp_so ?_
        refine ⟨ci4529, ?_, ?_⟩
        · (try dsimp only) <;> first | omega | assumption
        · (try dsimp only) <;> first | omega | assumption
  · have g4532 := ti_ne h4435
    have i4533 := ti_rg x2
    have i4534 := ti_rg x1
    refine Tp_bi (s_SI_at hn ci  (t := t) (x1 := x1)) (fun q4535 h4536 => ?_)
    obtain ⟨ci4537, E4538⟩ := h4536
    try rw [E4538]
    unfold f_SK_replaceMark_17
    refine Tp_if (fun h4539 => ?_) (fun h4539 => ?_)
    · have g4540 := ti_q h4539
      have i4541 := ti_rg q4535.1
      have l4542 : ((64 : Int32)).toInt = 64 := rfl
      refine Tp_if (fun h4543 => ?_) (fun h4543 => ?_)
      · have g4544 := ti_q h4543
        have b4545 := CI_g10 ci (c := 30) (p := 10) rfl
        have l4546 : (0 : Int32).toInt = 0 := rfl
        unfold f_SK_replaceMark_47
        have l4549 : ((-1 : Int32)).toInt = -1 := rfl
        refine Tp_bi (s_SK_appendNumber hn ci (by omega) (t := t) (x1 := (-1 : Int32))) (fun q4547 h4548 => ?_)
        obtain ⟨ci4550, p4551⟩ := h4548
        have b4552 := CI_g11 ci4550 (c := 30) (p := 8) rfl
        refine Tp_so ?_
        have l4553 : ((1 : Int32)).toInt = 1 := rfl
        first | (have a4554 : (x1 + (1 : Int32)).toInt = (x1).toInt + ((1 : Int32)).toInt := ti_add (by omega) (by omega)) | (have a4555 := ti_rg (x1 + (1 : Int32)))
        refine ⟨ci4550, ?_, ?_⟩
        · (try dsimp only) <;> first | omega | assumption
        · (try dsimp only) <;> first | omega | assumption
      · have g4556 := ti_nq h4543
        have b4557 := CI_g10 ci (c := 30) (p := 10) rfl
        have l4558 : (0 : Int32).toInt = 0 := rfl
        refine Tp_bi (s_SK_frameAt hn ci  (t := t) (x1 := mz_gI t 30 10)) (fun q4559 h4560 => ?_)
        obtain ⟨ci4561, E4562, p4563⟩ := h4560
        try rw [E4562]
        refine Tp_gd (by omega) ?_
        unfold f_SK_replaceMark_47
        have i4566 := ti_rg (mz_gI t q4559.1 8)
        refine Tp_bi (s_SK_appendNumber hn ci (by omega) (t := t) (x1 := mz_gI t q4559.1 8)) (fun q4564 h4565 => ?_)
        obtain ⟨ci4567, p4568⟩ := h4565
        have b4569 := CI_g11 ci4567 (c := 30) (p := 8) rfl
        refine Tp_so ?_
        have l4570 : ((1 : Int32)).toInt = 1 := rfl
        first | (have a4571 : (x1 + (1 : Int32)).toInt = (x1).toInt + ((1 : Int32)).toInt := ti_add (by omega) (by omega)) | (have a4572 := ti_rg (x1 + (1 : Int32)))
        refine ⟨ci4567, ?_, ?_⟩
        · (try dsimp only) <;> first | omega | assumption
        · (try dsimp only) <;> first | omega | assumption
    · have g4573 := ti_nq h4539
      have i4574 := ti_rg q4535.1
      have l4575 : ((64 : Int32)).toInt = 64 := rfl
      refine Tp_if (fun h4576 => ?_) (fun h4576 => ?_)
      · have g4577 := ti_q h4576
        have l4578 : ((63 : Int32)).toInt = 63 := rfl
        refine Tp_bi (s_SK_top hn ci  (t := t)) (fun q4579 h4580 => ?_)
        obtain ⟨ci4581, E4582, p4583⟩ := h4580
        try rw [E4582]
        refine Tp_gd (by omega) ?_
        refine Tp_bi (s_FR_repeats hn ci (by omega) (t := t) (x0 := q4579.1)) (fun q4584 h4585 => ?_)
        obtain ⟨ci4586, E4587, p4588, p4589⟩ := h4585
        try rw [E4587]
        refine Tp_if (fun h4590 => ?_) (fun h4590 => ?_)
        · have g4591 := ti_q h4590
          have i4592 := ti_rg q4584.1
          have l4593 : (0 : Int32).toInt = 0 := rfl
          unfold f_SK_replaceMark_82
          have l4596 : ((-1 : Int32)).toInt = -1 := rfl
          refine Tp_bi (s_SK_appendNumber hn ci (by omega) (t := t) (x1 := (-1 : Int32))) (fun q4594 h4595 => ?_)
          obtain ⟨ci4597, p4598⟩ := h4595
          have b4599 := CI_g11 ci4597 (c := 30) (p := 8) rfl
          refine Tp_so ?_
          have l4600 : ((1 : Int32)).toInt = 1 := rfl
          first | (have a4601 : (x1 + (1 : Int32)).toInt = (x1).toInt + ((1 : Int32)).toInt := ti_add (by omega) (by omega)) | (have a4602 := ti_rg (x1 + (1 : Int32)))
          refine ⟨ci4597, ?_, ?_⟩
          · (try dsimp only) <;> first | omega | assumption
          · (try dsimp only) <;> first | omega | assumption
        · have g4603 := ti_nq h4590
          have i4604 := ti_rg q4584.1
          have l4605 : (0 : Int32).toInt = 0 := rfl
          refine Tp_bi (s_SK_top hn ci  (t := t)) (fun q4606 h4607 => ?_)
          obtain ⟨ci4608, E4609, p4610⟩ := h4607
          try rw [E4609]
          refine Tp_gd (by omega) ?_
          unfold f_SK_replaceMark_82
          have i4613 := ti_rg (mz_gI t q4606.1 5)
          refine Tp_bi (s_SK_appendNumber hn ci (by omega) (t := t) (x1 := mz_gI t q4606.1 5)) (fun q4611 h4612 => ?_)
          obtain ⟨ci4614, p4615⟩ := h4612
          have b4616 := CI_g11 ci4614 (c := 30) (p := 8) rfl
          refine Tp_so ?_
          have l4617 : ((1 : Int32)).toInt = 1 := rfl
          first | (have a4618 : (x1 + (1 : Int32)).toInt = (x1).toInt + ((1 : Int32)).toInt := ti_add (by omega) (by omega)) | (have a4619 := ti_rg (x1 + (1 : Int32)))
          refine ⟨ci4614, ?_, ?_⟩
          · (try dsimp only) <;> first | omega | assumption
          · (try dsimp only) <;> first | omega | assumption
      · have g4620 := ti_nq h4576
        have l4621 : ((63 : Int32)).toInt = 63 := rfl
        refine Tp_bi (s_SI_wordEnd hn ci  (t := t) (x1 := x1) (x2 := x2)) (fun q4622 h4623 => ?_)
        obtain ⟨ci4624, E4625, p4626, p4627⟩ := h4623
        try rw [E4625]
        have i4630 := ti_rg q4622.1
        refine Tp_bi (s_SK_appendNamed hn ci (by omega) (by omega) (by omega) (by omega) (by omega) (t := t) (x1 := x1) (x2 := q4622.1)) (fun q4628 h4629 => ?_)
        obtain ⟨ci4631, p4632⟩ := h4629
        have b4633 := CI_g11 ci4631 (c := 30) (p := 8) rfl
        refine Tp_so ?_
        refine ⟨ci4631, ?_, ?_⟩
        · (try dsimp only) <;> first | omega | assumption
        · (try dsimp only) <;> first | omega | assumption
set_option maxRecDepth 4000 in
set_option maxHeartbeats 8000000 in
theorem l_SK_replace_45 {n : Nat} {L : Int32} (hn : 8589934592 ≤ n)  : ∀ (k : Nat) (x2 : Int32) (x3 : Int32) (t : mz_St), CI L t → (-1 ≤ x3.toInt) → (x3.toInt ≤ 7002) → (-1 ≤ x2.toInt) → (x2.toInt ≤ 6600) → ((mz_gI t 30 8).toInt ≤ 7000 + 8000 * (x3.toInt + 1)) → (2147483648 - x3.toInt).toNat < k → Tp (f_SK_replace_45 n k x2 x3 t) (fun r => CI L r.2 ∧ (¬ (r.1).toInt = 0 ∨ (mz_gI r.2 30 8).toInt ≤ 6600)) := by
  intro k
  induction k with
  | zero => intros; omega
  | succ k ih =>
    intro x2 x3 t ci i0 i1 i2 i3 i4 hm
    unfold f_SK_replace_45
    have b4634 := CI_g11 ci (c := 30) (p := 8) rfl
    refine Tp_if (fun h4635 => ?_) (fun h4635 => ?_)
    · have g4636 := ti_e h4635
      have i4637 := ti_rg x2
      have i4638 := ti_rg x3
      refine Tp_if (fun h4639 => ?_) (fun h4639 => ?_)
      · have g4640 := ti_q h4639
        have b4641 := CI_g2 ci (c := 30) (p := 9) rfl
        have l4642 : (0 : Int32).toInt = 0 := rfl
        refine Tp_if (fun h4643 => ?_) (fun h4643 => ?_)
        · have g4644 := ti_e h4643
          have b4645 := CI_g12 ci (c := 30) (p := 7) rfl
          first | (have a4646 : ((mz_gI t 30 8) - (mz_gI t 30 7)).toInt = (mz_gI t 30 8).toInt - (mz_gI t 30 7).toInt := ti_sub (by omega) (by omega)) | (have a4647 := ti_rg ((mz_gI t 30 8) - (mz_gI t 30 7)))
          have l4648 : ((300 : Int32)).toInt = 300 := rfl
          refine Tp_so ?_
          have l4649 : ((0 : Int32)).toInt = 0 := rfl
          refine ⟨ci, ?_⟩
          · (try dsimp only) <;> first | omega | assumption
        · have g4650 := ti_ne h4643
          have b4651 := CI_g12 ci (c := 30) (p := 7) rfl
          first | (have a4652 : ((mz_gI t 30 8) - (mz_gI t 30 7)).toInt = (mz_gI t 30 8).toInt - (mz_gI t 30 7).toInt := ti_sub (by omega) (by omega)) | (have a4653 := ti_rg ((mz_gI t 30 8) - (mz_gI t 30 7)))
          have l4654 : ((300 : Int32)).toInt = 300 := rfl
          refine Tp_so ?_
          have l4655 : ((6 : Int32)).toInt = 6 := rfl
          refine ⟨ci, ?_⟩
          · (try dsimp only) <;> first | omega | assumption
      · have g4656 := ti_nq h4639
        have b4657 := CI_g2 ci (c := 30) (p := 9) rfl
        have l4658 : (0 : Int32).toInt = 0 := rfl
        refine Tp_so ?_
        have l4659 : ((1 : Int32)).toInt = 1 := rfl
        refine ⟨ci, ?_⟩
        · (try dsimp only) <;> first | omega | assumption
    · have g4660 := ti_ne h4635
      have i4661 := ti_rg x2
      have i4662 := ti_rg x3
      refine Tp_bi (s_SI_at hn ci  (t := t) (x1 := x3)) (fun q4663 h4664 => ?_)
      obtain ⟨ci4665, E4666⟩ := h4664
      try rw [E4666]
      refine Tp_if (fun h4667 => ?_) (fun h4667 => ?_)
      · have g4668 := ti_q h4667
        have i4669 := ti_rg q4663.1
        have l4670 : ((92 : Int32)).toInt = 92 := rfl
        have l4673 : ((1 : Int32)).toInt = 1 := rfl
        first | (have a4674 : (x3 + (1 : Int32)).toInt = (x3).toInt + ((1 : Int32)).toInt := ti_add (by omega) (by omega)) | (have a4675 := ti_rg (x3 + (1 : Int32)))
        refine Tp_bi (s_SK_replaceMark hn ci (by omega) (by omega) (by omega) (by omega) (by omega) (t := t) (x1 := x3 + (1 : Int32)) (x2 := x2)) (fun q4671 h4672 => ?_)
        obtain ⟨ci4676, p4677, p4678⟩ := h4672
        have b4679 := CI_g11 ci4676 (c := 30) (p := 8) rfl
        have i4680 := ti_rg q4671.1
        have m4681 := ti_mx (a := x3 + (1 : Int32)) (b := q4671.1) (x := q4671.1) (y := x3 + (1 : Int32))
        exact ih x2 (if (x3 + (1 : Int32)) < q4671.1 then q4671.1 else (x3 + (1 : Int32))) q4671.2 ci4676 (by omega) (by omega) (by omega) (by omega) (by omega) (by omega)
      · have g4682 := ti_nq h4667
        have i4683 := ti_rg q4663.1
        have l4684 : ((92 : Int32)).toInt = 92 := rfl
        have l4687 : ((1 : Int32)).toInt = 1 := rfl
        first | (have a4688 : (x3 + (1 : Int32)).toInt = (x3).toInt + ((1 : Int32)).toInt := ti_add (by omega) (by omega)) | (have a4689 := ti_rg (x3 + (1 : Int32)))
        refine Tp_bi (s_SK_append hn ci (by omega) (by omega) (by omega) (by omega) (by omega) (t := t) (x1 := x3) (x2 := x3 + (1 : Int32))) (fun q4685 h4686 => ?_)
        obtain ⟨ci4690, p4691⟩ := h4686
        have b4692 := CI_g11 ci4690 (c := 30) (p := 8) rfl
        exact ih x2 (x3 + (1 : Int32)) q4685 ci4690 (by omega) (by omega) (by omega) (by omega) (by omega) (by omega)
