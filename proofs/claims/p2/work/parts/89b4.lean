/-! TOTAL: written by vcg.py -/
set_option maxRecDepth 4000 in
set_option maxHeartbeats 8000000 in
theorem s_MO_signOf {n : Nat} {s : mz_St} (hn : 8589934592 ≤ n) {x0 : Int64} {x2 : Int64} {x4 : Int32} {t : mz_St}  (ci : MI s t)  : Tp (f_MO_signOf n x0 x2 x4 t) (fun r => MI s r.2 ∧ r.2 = t) := by
  unfold f_MO_signOf
  have i3759 := ti_rg x4
  have l3760 : ((0 : Int32)).toInt = 0 := rfl
  have l3761 : ((11 : Int32)).toInt = 11 := rfl
  refine Tp_bi (s_MO_in hn ci  (t := t) (x0 := x4) (x1 := (0 : Int32)) (x2 := (11 : Int32))) (fun q3757 h3758 => ?_)
  obtain ⟨ci3762, E3763, p3764, p3765, p3766⟩ := h3758
  try rw [E3763]
  refine Tp_if (fun h3767 => ?_) (fun h3767 => ?_)
  · have g3768 := ti_q h3767
    have i3769 := ti_rg q3757.1
    have l3770 : (0 : Int32).toInt = 0 := rfl
    refine Tp_so ?_
    have l3771 : ((-1 : Int32)).toInt = -1 := rfl
    exact ⟨ci, rfl⟩
  · have g3772 := ti_nq h3767
    have i3773 := ti_rg q3757.1
    have l3774 : (0 : Int32).toInt = 0 := rfl
    refine Tp_if (fun h3775 => ?_) (fun h3775 => ?_)
    · have g3776 := ti_e h3775
      have l3777 : ((8 : Int32)).toInt = 8 := rfl
      unfold f_MO_signOf_25
      refine Tp_gd (ti_n0 (by omega)) ?_
      refine Tp_if (fun h3778 => ?_) (fun h3778 => ?_)
      · have g3779 := ti_q h3778
        have i3780 := ti_rg ((x2 >>> (((8 : Int32) * (x4 - ((x4 / (8 : Int32)) * (8 : Int32)))).toInt64 &&& 63)) &&& (127 : Int64)).toInt32
        refine Tp_so ?_
        have l3781 : ((-1 : Int32)).toInt = -1 := rfl
        exact ⟨ci, rfl⟩
      · have g3782 := ti_nq h3778
        have i3783 := ti_rg ((x2 >>> (((8 : Int32) * (x4 - ((x4 / (8 : Int32)) * (8 : Int32)))).toInt64 &&& 63)) &&& (127 : Int64)).toInt32
        refine Tp_so ?_
        exact ⟨ci, rfl⟩
    · have g3784 := ti_ne h3775
      have l3785 : ((8 : Int32)).toInt = 8 := rfl
      unfold f_MO_signOf_25
      refine Tp_gd (ti_n0 (by omega)) ?_
      refine Tp_if (fun h3786 => ?_) (fun h3786 => ?_)
      · have g3787 := ti_q h3786
        have i3788 := ti_rg ((x0 >>> (((8 : Int32) * (x4 - ((x4 / (8 : Int32)) * (8 : Int32)))).toInt64 &&& 63)) &&& (127 : Int64)).toInt32
        refine Tp_so ?_
        have l3789 : ((-1 : Int32)).toInt = -1 := rfl
        exact ⟨ci, rfl⟩
      · have g3790 := ti_nq h3786
        have i3791 := ti_rg ((x0 >>> (((8 : Int32) * (x4 - ((x4 / (8 : Int32)) * (8 : Int32)))).toInt64 &&& 63)) &&& (127 : Int64)).toInt32
        refine Tp_so ?_
        exact ⟨ci, rfl⟩
set_option maxRecDepth 4000 in
set_option maxHeartbeats 8000000 in
theorem s_MO_constant {n : Nat} {s : mz_St} (hn : 8589934592 ≤ n) {x1 : Int32} {x2 : Int32} {t : mz_St}  (ci : MI s t)  : Tp (f_MO_constant n x1 x2 t) (fun r => MI s r.2) := by
  unfold f_MO_constant
  have i3794 := ti_rg x1
  have l3795 : ((0 : Int32)).toInt = 0 := rfl
  have b3796 := MI_g5 ci (c := 0) (p := 24) rfl
  have l3797 : ((1 : Int32)).toInt = 1 := rfl
  first | (have a3798 : ((mz_gI t 0 24) - (1 : Int32)).toInt = (mz_gI t 0 24).toInt - ((1 : Int32)).toInt := ti_sub (by omega) (by omega)) | (have a3799 := ti_rg ((mz_gI t 0 24) - (1 : Int32)))
  refine Tp_bi (s_MO_in hn ci  (t := t) (x0 := x1) (x1 := (0 : Int32)) (x2 := (mz_gI t 0 24) - (1 : Int32))) (fun q3792 h3793 => ?_)
  obtain ⟨ci3800, E3801, p3802, p3803, p3804⟩ := h3793
  try rw [E3801]
  refine Tp_if (fun h3805 => ?_) (fun h3805 => ?_)
  · have g3806 := ti_q h3805
    have i3807 := ti_rg q3792.1
    have l3808 : (0 : Int32).toInt = 0 := rfl
    unfold f_MO_constant_22
    refine Tp_if (fun h3809 => ?_) (fun h3809 => ?_)
    · have g3810 := ti_q h3809
      unfold f_MO_constant_34
      unfold f_MO_constant_35
      refine Tp_bi (s_MO_refuse hn ci  (t := t) (x1 := (1 : Int32)) (x2 := (0 : Int32))) (fun q3811 h3812 => ?_)
      obtain ⟨ci3813, p3814⟩ := h3812
      refine Tp_if (fun h3815 => ?_) (fun h3815 => ?_)
      · have g3816 := ti_q h3815
        have i3817 := ti_rg q3811.1
        refine Tp_if (fun h3818 => ?_) (fun h3818 => ?_)
        · have g3819 := ti_q h3818
          have i3820 := ti_rg x2
          refine Tp_gd (ti_ix (by omega) (by omega)) ?_
          refine Tp_so ?_
          have i3821 := ti_rg (mz_gI q3811.2 17 x1.toNatClampNeg)
          exact ci3813
        · have g3822 := ti_nq h3818
          have i3823 := ti_rg x2
          refine Tp_gd (ti_ix (by omega) (by omega)) ?_
          refine Tp_gd (ti_ix (by omega) (by omega)) ?_
          first | (have a3826 : (x2 - (1 : Int32)).toInt = (x2).toInt - ((1 : Int32)).toInt := ti_sub (by omega) (by omega)) | (have a3827 := ti_rg (x2 - (1 : Int32)))
          refine Tp_bi (s_MO_signOf hn ci3813  (t := q3811.2) (x0 := mz_gL q3811.2 15 x1.toNatClampNeg) (x2 := mz_gL q3811.2 16 x1.toNatClampNeg) (x4 := x2 - (1 : Int32))) (fun q3824 h3825 => ?_)
          obtain ⟨ci3828, E3829⟩ := h3825
          try rw [E3829]
          refine Tp_so ?_
          have i3830 := ti_rg q3824.1
          exact ci3813
      · have g3831 := ti_nq h3815
        have i3832 := ti_rg q3811.1
        refine Tp_so ?_
        exact ci3813
    · have g3833 := ti_nq h3809
      refine Tp_if (fun h3834 => ?_) (fun h3834 => ?_)
      · have g3835 := ti_e h3834
        have i3836 := ti_rg x2
        unfold f_MO_constant_34
        unfold f_MO_constant_35
        refine Tp_bi (s_MO_refuse hn ci  (t := t) (x1 := (1 : Int32)) (x2 := (0 : Int32))) (fun q3837 h3838 => ?_)
        obtain ⟨ci3839, p3840⟩ := h3838
        refine Tp_if (fun h3841 => ?_) (fun h3841 => ?_)
        · have g3842 := ti_q h3841
          have i3843 := ti_rg q3837.1
          refine Tp_if (fun h3844 => ?_) (fun h3844 => ?_)
          · have g3845 := ti_q h3844
            refine Tp_gd (ti_ix (by omega) (by omega)) ?_
            refine Tp_so ?_
            have i3846 := ti_rg (mz_gI q3837.2 17 x1.toNatClampNeg)
            exact ci3839
          · have g3847 := ti_nq h3844
            refine Tp_gd (ti_ix (by omega) (by omega)) ?_
            refine Tp_gd (ti_ix (by omega) (by omega)) ?_
            first | (have a3850 : (x2 - (1 : Int32)).toInt = (x2).toInt - ((1 : Int32)).toInt := ti_sub (by omega) (by omega)) | (have a3851 := ti_rg (x2 - (1 : Int32)))
            refine Tp_bi (s_MO_signOf hn ci3839  (t := q3837.2) (x0 := mz_gL q3837.2 15 x1.toNatClampNeg) (x2 := mz_gL q3837.2 16 x1.toNatClampNeg) (x4 := x2 - (1 : Int32))) (fun q3848 h3849 => ?_)
            obtain ⟨ci3852, E3853⟩ := h3849
            try rw [E3853]
            refine Tp_so ?_
            have i3854 := ti_rg q3848.1
            exact ci3839
        · have g3855 := ti_nq h3841
          have i3856 := ti_rg q3837.1
          refine Tp_so ?_
          exact ci3839
      · have g3857 := ti_ne h3834
        have i3858 := ti_rg x2
        unfold f_MO_constant_35
        refine Tp_bi (s_MO_refuse hn ci  (t := t) (x1 := (1 : Int32)) (x2 := (1 : Int32))) (fun q3859 h3860 => ?_)
        obtain ⟨ci3861, p3862⟩ := h3860
        refine Tp_if (fun h3863 => ?_) (fun h3863 => ?_)
        · have g3864 := ti_q h3863
          have i3865 := ti_rg q3859.1
          refine Tp_if (fun h3866 => ?_) (fun h3866 => ?_)
          · have g3867 := ti_q h3866
            refine Tp_gd (ti_ix (by omega) (by omega)) ?_
            refine Tp_so ?_
            have i3868 := ti_rg (mz_gI q3859.2 17 x1.toNatClampNeg)
            exact ci3861
          · have g3869 := ti_nq h3866
            refine Tp_gd (ti_ix (by omega) (by omega)) ?_
            refine Tp_gd (ti_ix (by omega) (by omega)) ?_
            first | (have a3872 : (x2 - (1 : Int32)).toInt = (x2).toInt - ((1 : Int32)).toInt := ti_sub (by omega) (by omega)) | (have a3873 := ti_rg (x2 - (1 : Int32)))
            refine Tp_bi (s_MO_signOf hn ci3861  (t := q3859.2) (x0 := mz_gL q3859.2 15 x1.toNatClampNeg) (x2 := mz_gL q3859.2 16 x1.toNatClampNeg) (x4 := x2 - (1 : Int32))) (fun q3870 h3871 => ?_)
            obtain ⟨ci3874, E3875⟩ := h3871
            try rw [E3875]
            refine Tp_so ?_
            have i3876 := ti_rg q3870.1
            exact ci3861
        · have g3877 := ti_nq h3863
          have i3878 := ti_rg q3859.1
          refine Tp_so ?_
          exact ci3861
  · have g3879 := ti_nq h3805
    have i3880 := ti_rg q3792.1
    have l3881 : (0 : Int32).toInt = 0 := rfl
    unfold f_MO_constant_22
    refine Tp_if (fun h3882 => ?_) (fun h3882 => ?_)
    · have g3883 := ti_q h3882
      unfold f_MO_constant_34
      unfold f_MO_constant_35
      refine Tp_bi (s_MO_refuse hn ci  (t := t) (x1 := (0 : Int32)) (x2 := (0 : Int32))) (fun q3884 h3885 => ?_)
      obtain ⟨ci3886, p3887⟩ := h3885
      refine Tp_if (fun h3888 => ?_) (fun h3888 => ?_)
      · have g3889 := ti_q h3888
        have i3890 := ti_rg q3884.1
        refine Tp_if (fun h3891 => ?_) (fun h3891 => ?_)
        · have g3892 := ti_q h3891
          have i3893 := ti_rg x2
          refine Tp_gd (ti_ix (by omega) (by omega)) ?_
          refine Tp_so ?_
          have i3894 := ti_rg (mz_gI q3884.2 17 x1.toNatClampNeg)
          exact ci3886
        · have g3895 := ti_nq h3891
          have i3896 := ti_rg x2
          refine Tp_gd (ti_ix (by omega) (by omega)) ?_
          refine Tp_gd (ti_ix (by omega) (by omega)) ?_
          first | (have a3899 : (x2 - (1 : Int32)).toInt = (x2).toInt - ((1 : Int32)).toInt := ti_sub (by omega) (by omega)) | (have a3900 := ti_rg (x2 - (1 : Int32)))
          refine Tp_bi (s_MO_signOf hn ci3886  (t := q3884.2) (x0 := mz_gL q3884.2 15 x1.toNatClampNeg) (x2 := mz_gL q3884.2 16 x1.toNatClampNeg) (x4 := x2 - (1 : Int32))) (fun q3897 h3898 => ?_)
          obtain ⟨ci3901, E3902⟩ := h3898
          try rw [E3902]
          refine Tp_so ?_
          have i3903 := ti_rg q3897.1
          exact ci3886
      · have g3904 := ti_nq h3888
        have i3905 := ti_rg q3884.1
        refine Tp_so ?_
        exact ci3886
    · have g3906 := ti_nq h3882
      refine Tp_if (fun h3907 => ?_) (fun h3907 => ?_)
      · have g3908 := ti_e h3907
        have i3909 := ti_rg x2
        unfold f_MO_constant_34
        unfold f_MO_constant_35
        refine Tp_bi (s_MO_refuse hn ci  (t := t) (x1 := (0 : Int32)) (x2 := (0 : Int32))) (fun q3910 h3911 => ?_)
        obtain ⟨ci3912, p3913⟩ := h3911
        refine Tp_if (fun h3914 => ?_) (fun h3914 => ?_)
        · have g3915 := ti_q h3914
          have i3916 := ti_rg q3910.1
          refine Tp_if (fun h3917 => ?_) (fun h3917 => ?_)
          · have g3918 := ti_q h3917
            refine Tp_gd (ti_ix (by omega) (by omega)) ?_
            refine Tp_so ?_
            have i3919 := ti_rg (mz_gI q3910.2 17 x1.toNatClampNeg)
            exact ci3912
          · have g3920 := ti_nq h3917
            refine Tp_gd (ti_ix (by omega) (by omega)) ?_
            refine Tp_gd (ti_ix (by omega) (by omega)) ?_
            first | (have a3923 : (x2 - (1 : Int32)).toInt = (x2).toInt - ((1 : Int32)).toInt := ti_sub (by omega) (by omega)) | (have a3924 := ti_rg (x2 - (1 : Int32)))
            refine Tp_bi (s_MO_signOf hn ci3912  (t := q3910.2) (x0 := mz_gL q3910.2 15 x1.toNatClampNeg) (x2 := mz_gL q3910.2 16 x1.toNatClampNeg) (x4 := x2 - (1 : Int32))) (fun q3921 h3922 => ?_)
            obtain ⟨ci3925, E3926⟩ := h3922
            try rw [E3926]
            refine Tp_so ?_
            have i3927 := ti_rg q3921.1
            exact ci3912
        · have g3928 := ti_nq h3914
          have i3929 := ti_rg q3910.1
          refine Tp_so ?_
          exact ci3912
      · have g3930 := ti_ne h3907
        have i3931 := ti_rg x2
        unfold f_MO_constant_35
        refine Tp_bi (s_MO_refuse hn ci  (t := t) (x1 := (0 : Int32)) (x2 := (1 : Int32))) (fun q3932 h3933 => ?_)
        obtain ⟨ci3934, p3935⟩ := h3933
        refine Tp_if (fun h3936 => ?_) (fun h3936 => ?_)
        · have g3937 := ti_q h3936
          have i3938 := ti_rg q3932.1
          refine Tp_if (fun h3939 => ?_) (fun h3939 => ?_)
          · have g3940 := ti_q h3939
            refine Tp_gd (ti_ix (by omega) (by omega)) ?_
            refine Tp_so ?_
            have i3941 := ti_rg (mz_gI q3932.2 17 x1.toNatClampNeg)
            exact ci3934
          · have g3942 := ti_nq h3939
            refine Tp_gd (ti_ix (by omega) (by omega)) ?_
            refine Tp_gd (ti_ix (by omega) (by omega)) ?_
            first | (have a3945 : (x2 - (1 : Int32)).toInt = (x2).toInt - ((1 : Int32)).toInt := ti_sub (by omega) (by omega)) | (have a3946 := ti_rg (x2 - (1 : Int32)))
            refine Tp_bi (s_MO_signOf hn ci3934  (t := q3932.2) (x0 := mz_gL q3932.2 15 x1.toNatClampNeg) (x2 := mz_gL q3932.2 16 x1.toNatClampNeg) (x4 := x2 - (1 : Int32))) (fun q3943 h3944 => ?_)
            obtain ⟨ci3947, E3948⟩ := h3944
            try rw [E3948]
            refine Tp_so ?_
            have i3949 := ti_rg q3943.1
            exact ci3934
        · have g3950 := ti_nq h3936
          have i3951 := ti_rg q3932.1
          refine Tp_so ?_
          exact ci3934
set_option maxRecDepth 4000 in
set_option maxHeartbeats 8000000 in
theorem s_MO_macro {n : Nat} {s : mz_St} (hn : 8589934592 ≤ n) {x1 : Int32} {x2 : Int32} {t : mz_St}  (ci : MI s t)  : Tp (f_MO_macro n x1 x2 t) (fun r => MI s r.2) := by
  unfold f_MO_macro
  have i3954 := ti_rg x1
  have l3955 : ((0 : Int32)).toInt = 0 := rfl
  have b3956 := MI_13 ci (c := 0) (p := 12) rfl
  have b3957 := FX_0_12 ci.1
  have l3958 : ((1 : Int32)).toInt = 1 := rfl
  first | (have a3959 : ((mz_gI t 0 12) - (1 : Int32)).toInt = (mz_gI t 0 12).toInt - ((1 : Int32)).toInt := ti_sub (by omega) (by omega)) | (have a3960 := ti_rg ((mz_gI t 0 12) - (1 : Int32)))
  refine Tp_bi (s_MO_in hn ci  (t := t) (x0 := x1) (x1 := (0 : Int32)) (x2 := (mz_gI t 0 12) - (1 : Int32))) (fun q3952 h3953 => ?_)
  obtain ⟨ci3961, E3962, p3963, p3964, p3965⟩ := h3953
  try rw [E3962]
  refine Tp_if (fun h3966 => ?_) (fun h3966 => ?_)
  · have g3967 := ti_q h3966
    have i3968 := ti_rg q3952.1
    have l3969 : (0 : Int32).toInt = 0 := rfl
    unfold f_MO_macro_22
    refine Tp_if (fun h3970 => ?_) (fun h3970 => ?_)
    · have g3971 := ti_q h3970
      unfold f_MO_macro_34
      unfold f_MO_macro_35
      refine Tp_bi (s_MO_refuse hn ci  (t := t) (x1 := (1 : Int32)) (x2 := (0 : Int32))) (fun q3972 h3973 => ?_)
      obtain ⟨ci3974, p3975⟩ := h3973
      refine Tp_if (fun h3976 => ?_) (fun h3976 => ?_)
      · have g3977 := ti_q h3976
        have i3978 := ti_rg q3972.1
        refine Tp_if (fun h3979 => ?_) (fun h3979 => ?_)
        · have g3980 := ti_q h3979
          have i3981 := ti_rg x2
          refine Tp_gd (ti_ix (by omega) (by omega)) ?_
          refine Tp_so ?_
          have b3982 := MI_13 ci3974 (c := 10) (p := x1.toNatClampNeg) rfl
          have b3983 := FX_10 ci3974.1 x1.toNatClampNeg
          exact ci3974
        · have g3984 := ti_nq h3979
          have i3985 := ti_rg x2
          refine Tp_if (fun h3986 => ?_) (fun h3986 => ?_)
          · have g3987 := ti_q h3986
            refine Tp_gd (ti_ix (by omega) (by omega)) ?_
            refine Tp_gd (ti_ix (by omega) (by omega)) ?_
            refine Tp_so ?_
            have b3988 := MI_13 ci3974 (c := 7) (p := x1.toNatClampNeg) rfl
            have b3989 := FX_7 ci3974.1 x1.toNatClampNeg
            have b3990 := MI_13 ci3974 (c := 6) (p := x1.toNatClampNeg) rfl
            have b3991 := FX_6 ci3974.1 x1.toNatClampNeg
            first | (have a3992 : ((mz_gI q3972.2 7 x1.toNatClampNeg) - (mz_gI q3972.2 6 x1.toNatClampNeg)).toInt = (mz_gI q3972.2 7 x1.toNatClampNeg).toInt - (mz_gI q3972.2 6 x1.toNatClampNeg).toInt := ti_sub (by omega) (by omega)) | (have a3993 := ti_rg ((mz_gI q3972.2 7 x1.toNatClampNeg) - (mz_gI q3972.2 6 x1.toNatClampNeg)))
            exact ci3974
          · have g3994 := ti_nq h3986
            refine Tp_if (fun h3995 => ?_) (fun h3995 => ?_)
            · have g3996 := ti_q h3995
              have l3997 : ((2 : Int32)).toInt = 2 := rfl
              refine Tp_gd (ti_ix (by omega) (by omega)) ?_
              refine Tp_so ?_
              have b3998 := MI_13 ci3974 (c := 8) (p := x1.toNatClampNeg) rfl
              have i3999 := ti_rg (mz_gI s 8 x1.toNatClampNeg)
              exact ci3974
            · have g4000 := ti_nq h3995
              have l4001 : ((2 : Int32)).toInt = 2 := rfl
              refine Tp_if (fun h4002 => ?_) (fun h4002 => ?_)
              · have g4003 := ti_q h4002
                have l4004 : ((3 : Int32)).toInt = 3 := rfl
                refine Tp_gd (ti_ix (by omega) (by omega)) ?_
                refine Tp_so ?_
                have b4005 := MI_13 ci3974 (c := 9) (p := x1.toNatClampNeg) rfl
                have i4006 := ti_rg (mz_gI s 9 x1.toNatClampNeg)
                exact ci3974
              · have g4007 := ti_nq h4002
                have l4008 : ((3 : Int32)).toInt = 3 := rfl
                refine Tp_gd (ti_ix (by omega) (by omega)) ?_
                refine Tp_gd (ti_ix (by omega) (by omega)) ?_
                have l4011 : ((4 : Int32)).toInt = 4 := rfl
                first | (have a4012 : (x2 - (4 : Int32)).toInt = (x2).toInt - ((4 : Int32)).toInt := ti_sub (by omega) (by omega)) | (have a4013 := ti_rg (x2 - (4 : Int32)))
                refine Tp_bi (s_MO_signOf hn ci3974  (t := q3972.2) (x0 := mz_gL q3972.2 4 x1.toNatClampNeg) (x2 := mz_gL q3972.2 5 x1.toNatClampNeg) (x4 := x2 - (4 : Int32))) (fun q4009 h4010 => ?_)
                obtain ⟨ci4014, E4015⟩ := h4010
                try rw [E4015]
                refine Tp_so ?_
                have i4016 := ti_rg q4009.1
                exact ci3974
      · have g4017 := ti_nq h3976
        have i4018 := ti_rg q3972.1
        refine Tp_so ?_
        exact ci3974
    · have g4019 := ti_nq h3970
      refine Tp_if (fun h4020 => ?_) (fun h4020 => ?_)
      · have g4021 := ti_e h4020
        have i4022 := ti_rg x2
        unfold f_MO_macro_34
        unfold f_MO_macro_35
        refine Tp_bi (s_MO_refuse hn ci  (t := t) (x1 := (1 : Int32)) (x2 := (0 : Int32))) (fun q4023 h4024 => ?_)
        obtain ⟨ci4025, p4026⟩ := h4024
        refine Tp_if (fun h4027 => ?_) (fun h4027 => ?_)
        · have g4028 := ti_q h4027
          have i4029 := ti_rg q4023.1
          refine Tp_if (fun h4030 => ?_) (fun h4030 => ?_)
          · have g4031 := ti_q h4030
            refine Tp_gd (ti_ix (by omega) (by omega)) ?_
            refine Tp_so ?_
            have b4032 := MI_13 ci4025 (c := 10) (p := x1.toNatClampNeg) rfl
            have b4033 := FX_10 ci4025.1 x1.toNatClampNeg
            exact ci4025
          · have g4034 := ti_nq h4030
            refine Tp_if (fun h4035 => ?_) (fun h4035 => ?_)
            · have g4036 := ti_q h4035
              refine Tp_gd (ti_ix (by omega) (by omega)) ?_
              refine Tp_gd (ti_ix (by omega) (by omega)) ?_
              refine Tp_so ?_
              have b4037 := MI_13 ci4025 (c := 7) (p := x1.toNatClampNeg) rfl
              have b4038 := FX_7 ci4025.1 x1.toNatClampNeg
              have b4039 := MI_13 ci4025 (c := 6) (p := x1.toNatClampNeg) rfl
              have b4040 := FX_6 ci4025.1 x1.toNatClampNeg
              first | (have a4041 : ((mz_gI q4023.2 7 x1.toNatClampNeg) - (mz_gI q4023.2 6 x1.toNatClampNeg)).toInt = (mz_gI q4023.2 7 x1.toNatClampNeg).toInt - (mz_gI q4023.2 6 x1.toNatClampNeg).toInt := ti_sub (by omega) (by omega)) | (have a4042 := ti_rg ((mz_gI q4023.2 7 x1.toNatClampNeg) - (mz_gI q4023.2 6 x1.toNatClampNeg)))
              exact ci4025
            · have g4043 := ti_nq h4035
              refine Tp_if (fun h4044 => ?_) (fun h4044 => ?_)
              · have g4045 := ti_q h4044
                have l4046 : ((2 : Int32)).toInt = 2 := rfl
                refine Tp_gd (ti_ix (by omega) (by omega)) ?_
                refine Tp_so ?_
                have b4047 := MI_13 ci4025 (c := 8) (p := x1.toNatClampNeg) rfl
                have i4048 := ti_rg (mz_gI s 8 x1.toNatClampNeg)
                exact ci4025
              · have g4049 := ti_nq h4044
                have l4050 : ((2 : Int32)).toInt = 2 := rfl
                refine Tp_if (fun h4051 => ?_) (fun h4051 => ?_)
                · have g4052 := ti_q h4051
                  have l4053 : ((3 : Int32)).toInt = 3 := rfl
                  refine Tp_gd (ti_ix (by omega) (by omega)) ?_
                  refine Tp_so ?_
                  have b4054 := MI_13 ci4025 (c := 9) (p := x1.toNatClampNeg) rfl
                  have i4055 := ti_rg (mz_gI s 9 x1.toNatClampNeg)
                  exact ci4025
                · have g4056 := ti_nq h4051
                  have l4057 : ((3 : Int32)).toInt = 3 := rfl
                  refine Tp_gd (ti_ix (by omega) (by omega)) ?_
                  refine Tp_gd (ti_ix (by omega) (by omega)) ?_
                  have l4060 : ((4 : Int32)).toInt = 4 := rfl
                  first | (have a4061 : (x2 - (4 : Int32)).toInt = (x2).toInt - ((4 : Int32)).toInt := ti_sub (by omega) (by omega)) | (have a4062 := ti_rg (x2 - (4 : Int32)))
                  refine Tp_bi (s_MO_signOf hn ci4025  (t := q4023.2) (x0 := mz_gL q4023.2 4 x1.toNatClampNeg) (x2 := mz_gL q4023.2 5 x1.toNatClampNeg) (x4 := x2 - (4 : Int32))) (fun q4058 h4059 => ?_)
                  obtain ⟨ci4063, E4064⟩ := h4059
                  try rw [E4064]
                  refine Tp_so ?_
                  have i4065 := ti_rg q4058.1
                  exact ci4025
        · have g4066 := ti_nq h4027
          have i4067 := ti_rg q4023.1
          refine Tp_so ?_
          exact ci4025
      · have g4068 := ti_ne h4020
        have i4069 := ti_rg x2
        unfold f_MO_macro_35
        refine Tp_bi (s_MO_refuse hn ci  (t := t) (x1 := (1 : Int32)) (x2 := (1 : Int32))) (fun q4070 h4071 => ?_)
        obtain ⟨ci4072, p4073⟩ := h4071
        refine Tp_if (fun h4074 => ?_) (fun h4074 => ?_)
        · have g4075 := ti_q h4074
          have i4076 := ti_rg q4070.1
          refine Tp_if (fun h4077 => ?_) (fun h4077 => ?_)
          · have g4078 := ti_q h4077
            refine Tp_gd (ti_ix (by omega) (by omega)) ?_
            refine Tp_so ?_
            have b4079 := MI_13 ci4072 (c := 10) (p := x1.toNatClampNeg) rfl
            have b4080 := FX_10 ci4072.1 x1.toNatClampNeg
            exact ci4072
          · have g4081 := ti_nq h4077
            refine Tp_if (fun h4082 => ?_) (fun h4082 => ?_)
            · have g4083 := ti_q h4082
              refine Tp_gd (ti_ix (by omega) (by omega)) ?_
              refine Tp_gd (ti_ix (by omega) (by omega)) ?_
              refine Tp_so ?_
              have b4084 := MI_13 ci4072 (c := 7) (p := x1.toNatClampNeg) rfl
              have b4085 := FX_7 ci4072.1 x1.toNatClampNeg
              have b4086 := MI_13 ci4072 (c := 6) (p := x1.toNatClampNeg) rfl
              have b4087 := FX_6 ci4072.1 x1.toNatClampNeg
              first | (have a4088 : ((mz_gI q4070.2 7 x1.toNatClampNeg) - (mz_gI q4070.2 6 x1.toNatClampNeg)).toInt = (mz_gI q4070.2 7 x1.toNatClampNeg).toInt - (mz_gI q4070.2 6 x1.toNatClampNeg).toInt := ti_sub (by omega) (by omega)) | (have a4089 := ti_rg ((mz_gI q4070.2 7 x1.toNatClampNeg) - (mz_gI q4070.2 6 x1.toNatClampNeg)))
              exact ci4072
            · have g4090 := ti_nq h4082
              refine Tp_if (fun h4091 => ?_) (fun h4091 => ?_)
              · have g4092 := ti_q h4091
                have l4093 : ((2 : Int32)).toInt = 2 := rfl
                refine Tp_gd (ti_ix (by omega) (by omega)) ?_
                refine Tp_so ?_
                have b4094 := MI_13 ci4072 (c := 8) (p := x1.toNatClampNeg) rfl
                have i4095 := ti_rg (mz_gI s 8 x1.toNatClampNeg)
                exact ci4072
              · have g4096 := ti_nq h4091
                have l4097 : ((2 : Int32)).toInt = 2 := rfl
                refine Tp_if (fun h4098 => ?_) (fun h4098 => ?_)
                · have g4099 := ti_q h4098
                  have l4100 : ((3 : Int32)).toInt = 3 := rfl
                  refine Tp_gd (ti_ix (by omega) (by omega)) ?_
                  refine Tp_so ?_
                  have b4101 := MI_13 ci4072 (c := 9) (p := x1.toNatClampNeg) rfl
                  have i4102 := ti_rg (mz_gI s 9 x1.toNatClampNeg)
                  exact ci4072
                · have g4103 := ti_nq h4098
                  have l4104 : ((3 : Int32)).toInt = 3 := rfl
                  refine Tp_gd (ti_ix (by omega) (by omega)) ?_
                  refine Tp_gd (ti_ix (by omega) (by omega)) ?_
                  have l4107 : ((4 : Int32)).toInt = 4 := rfl
                  first | (have a4108 : (x2 - (4 : Int32)).toInt = (x2).toInt - ((4 : Int32)).toInt := ti_sub (by omega) (by omega)) | (have a4109 := ti_rg (x2 - (4 : Int32)))
                  refine Tp_bi (s_MO_signOf hn ci4072  (t := q4070.2) (x0 := mz_gL q4070.2 4 x1.toNatClampNeg) (x2 := mz_gL q4070.2 5 x1.toNatClampNeg) (x4 := x2 - (4 : Int32))) (fun q4105 h4106 => ?_)
                  obtain ⟨ci4110, E4111⟩ := h4106
                  try rw [E4111]
                  refine Tp_so ?_
                  have i4112 := ti_rg q4105.1
                  exact ci4072
        · have g4113 := ti_nq h4074
          have i4114 := ti_rg q4070.1
          refine Tp_so ?_
          exact ci4072
  · have g4115 := ti_nq h3966
    have i4116 := ti_rg q3952.1
    have l4117 : (0 : Int32).toInt = 0 := rfl
    unfold f_MO_macro_22
    refine Tp_if (fun h4118 => ?_) (fun h4118 => ?_)
    · have g4119 := ti_q h4118
      unfold f_MO_macro_34
      unfold f_MO_macro_35
      refine Tp_bi (s_MO_refuse hn ci  (t := t) (x1 := (0 : Int32)) (x2 := (0 : Int32))) (fun q4120 h4121 => ?_)
      obtain ⟨ci4122, p4123⟩ := h4121
      refine Tp_if (fun h4124 => ?_) (fun h4124 => ?_)
      · have g4125 := ti_q h4124
        have i4126 := ti_rg q4120.1
        refine Tp_if (fun h4127 => ?_) (fun h4127 => ?_)
        · have g4128 := ti_q h4127
          have i4129 := ti_rg x2
          refine Tp_gd (ti_ix (by omega) (by omega)) ?_
          refine Tp_so ?_
          have b4130 := MI_13 ci4122 (c := 10) (p := x1.toNatClampNeg) rfl
          have b4131 := FX_10 ci4122.1 x1.toNatClampNeg
          exact ci4122
        · have g4132 := ti_nq h4127
          have i4133 := ti_rg x2
          refine Tp_if (fun h4134 => ?_) (fun h4134 => ?_)
          · have g4135 := ti_q h4134
            refine Tp_gd (ti_ix (by omega) (by omega)) ?_
            refine Tp_gd (ti_ix (by omega) (by omega)) ?_
            refine Tp_so ?_
            have b4136 := MI_13 ci4122 (c := 7) (p := x1.toNatClampNeg) rfl
            have b4137 := FX_7 ci4122.1 x1.toNatClampNeg
            have b4138 := MI_13 ci4122 (c := 6) (p := x1.toNatClampNeg) rfl
            have b4139 := FX_6 ci4122.1 x1.toNatClampNeg
            first | (have a4140 : ((mz_gI q4120.2 7 x1.toNatClampNeg) - (mz_gI q4120.2 6 x1.toNatClampNeg)).toInt = (mz_gI q4120.2 7 x1.toNatClampNeg).toInt - (mz_gI q4120.2 6 x1.toNatClampNeg).toInt := ti_sub (by omega) (by omega)) | (have a4141 := ti_rg ((mz_gI q4120.2 7 x1.toNatClampNeg) - (mz_gI q4120.2 6 x1.toNatClampNeg)))
            exact ci4122
          · have g4142 := ti_nq h4134
            refine Tp_if (fun h4143 => ?_) (fun h4143 => ?_)
            · have g4144 := ti_q h4143
              have l4145 : ((2 : Int32)).toInt = 2 := rfl
              refine Tp_gd (ti_ix (by omega) (by omega)) ?_
              refine Tp_so ?_
              have b4146 := MI_13 ci4122 (c := 8) (p := x1.toNatClampNeg) rfl
              have i4147 := ti_rg (mz_gI s 8 x1.toNatClampNeg)
              exact ci4122
            · have g4148 := ti_nq h4143
              have l4149 : ((2 : Int32)).toInt = 2 := rfl
              refine Tp_if (fun h4150 => ?_) (fun h4150 => ?_)
              · have g4151 := ti_q h4150
                have l4152 : ((3 : Int32)).toInt = 3 := rfl
                refine Tp_gd (ti_ix (by omega) (by omega)) ?_
                refine Tp_so ?_
                have b4153 := MI_13 ci4122 (c := 9) (p := x1.toNatClampNeg) rfl
                have i4154 := ti_rg (mz_gI s 9 x1.toNatClampNeg)
                exact ci4122
              · have g4155 := ti_nq h4150
                have l4156 : ((3 : Int32)).toInt = 3 := rfl
                refine Tp_gd (ti_ix (by omega) (by omega)) ?_
                refine Tp_gd (ti_ix (by omega) (by omega)) ?_
                have l4159 : ((4 : Int32)).toInt = 4 := rfl
                first | (have a4160 : (x2 - (4 : Int32)).toInt = (x2).toInt - ((4 : Int32)).toInt := ti_sub (by omega) (by omega)) | (have a4161 := ti_rg (x2 - (4 : Int32)))
                refine Tp_bi (s_MO_signOf hn ci4122  (t := q4120.2) (x0 := mz_gL q4120.2 4 x1.toNatClampNeg) (x2 := mz_gL q4120.2 5 x1.toNatClampNeg) (x4 := x2 - (4 : Int32))) (fun q4157 h4158 => ?_)
                obtain ⟨ci4162, E4163⟩ := h4158
                try rw [E4163]
                refine Tp_so ?_
                have i4164 := ti_rg q4157.1
                exact ci4122
      · have g4165 := ti_nq h4124
        have i4166 := ti_rg q4120.1
        refine Tp_so ?_
        exact ci4122
    · have g4167 := ti_nq h4118
      refine Tp_if (fun h4168 => ?_) (fun h4168 => ?_)
      · have g4169 := ti_e h4168
        have i4170 := ti_rg x2
        unfold f_MO_macro_34
        unfold f_MO_macro_35
        refine Tp_bi (s_MO_refuse hn ci  (t := t) (x1 := (0 : Int32)) (x2 := (0 : Int32))) (fun q4171 h4172 => ?_)
        obtain ⟨ci4173, p4174⟩ := h4172
        refine Tp_if (fun h4175 => ?_) (fun h4175 => ?_)
        · have g4176 := ti_q h4175
          have i4177 := ti_rg q4171.1
          refine Tp_if (fun h4178 => ?_) (fun h4178 => ?_)
          · have g4179 := ti_q h4178
            refine Tp_gd (ti_ix (by omega) (by omega)) ?_
            refine Tp_so ?_
            have b4180 := MI_13 ci4173 (c := 10) (p := x1.toNatClampNeg) rfl
            have b4181 := FX_10 ci4173.1 x1.toNatClampNeg
            exact ci4173
          · have g4182 := ti_nq h4178
            refine Tp_if (fun h4183 => ?_) (fun h4183 => ?_)
            · have g4184 := ti_q h4183
              refine Tp_gd (ti_ix (by omega) (by omega)) ?_
              refine Tp_gd (ti_ix (by omega) (by omega)) ?_
              refine Tp_so ?_
              have b4185 := MI_13 ci4173 (c := 7) (p := x1.toNatClampNeg) rfl
              have b4186 := FX_7 ci4173.1 x1.toNatClampNeg
              have b4187 := MI_13 ci4173 (c := 6) (p := x1.toNatClampNeg) rfl
              have b4188 := FX_6 ci4173.1 x1.toNatClampNeg
              first | (have a4189 : ((mz_gI q4171.2 7 x1.toNatClampNeg) - (mz_gI q4171.2 6 x1.toNatClampNeg)).toInt = (mz_gI q4171.2 7 x1.toNatClampNeg).toInt - (mz_gI q4171.2 6 x1.toNatClampNeg).toInt := ti_sub (by omega) (by omega)) | (have a4190 := ti_rg ((mz_gI q4171.2 7 x1.toNatClampNeg) - (mz_gI q4171.2 6 x1.toNatClampNeg)))
              exact ci4173
            · have g4191 := ti_nq h4183
              refine Tp_if (fun h4192 => ?_) (fun h4192 => ?_)
              · have g4193 := ti_q h4192
                have l4194 : ((2 : Int32)).toInt = 2 := rfl
                refine Tp_gd (ti_ix (by omega) (by omega)) ?_
                refine Tp_so ?_
                have b4195 := MI_13 ci4173 (c := 8) (p := x1.toNatClampNeg) rfl
                have i4196 := ti_rg (mz_gI s 8 x1.toNatClampNeg)
                exact ci4173
              · have g4197 := ti_nq h4192
                have l4198 : ((2 : Int32)).toInt = 2 := rfl
                refine Tp_if (fun h4199 => ?_) (fun h4199 => ?_)
                · have g4200 := ti_q h4199
                  have l4201 : ((3 : Int32)).toInt = 3 := rfl
                  refine Tp_gd (ti_ix (by omega) (by omega)) ?_
                  refine Tp_so ?_
                  have b4202 := MI_13 ci4173 (c := 9) (p := x1.toNatClampNeg) rfl
                  have i4203 := ti_rg (mz_gI s 9 x1.toNatClampNeg)
                  exact ci4173
                · have g4204 := ti_nq h4199
                  have l4205 : ((3 : Int32)).toInt = 3 := rfl
                  refine Tp_gd (ti_ix (by omega) (by omega)) ?_
                  refine Tp_gd (ti_ix (by omega) (by omega)) ?_
                  have l4208 : ((4 : Int32)).toInt = 4 := rfl
                  first | (have a4209 : (x2 - (4 : Int32)).toInt = (x2).toInt - ((4 : Int32)).toInt := ti_sub (by omega) (by omega)) | (have a4210 := ti_rg (x2 - (4 : Int32)))
                  refine Tp_bi (s_MO_signOf hn ci4173  (t := q4171.2) (x0 := mz_gL q4171.2 4 x1.toNatClampNeg) (x2 := mz_gL q4171.2 5 x1.toNatClampNeg) (x4 := x2 - (4 : Int32))) (fun q4206 h4207 => ?_)
                  obtain ⟨ci4211, E4212⟩ := h4207
                  try rw [E4212]
                  refine Tp_so ?_
                  have i4213 := ti_rg q4206.1
                  exact ci4173
        · have g4214 := ti_nq h4175
          have i4215 := ti_rg q4171.1
          refine Tp_so ?_
          exact ci4173
      · have g4216 := ti_ne h4168
        have i4217 := ti_rg x2
        unfold f_MO_macro_35
        refine Tp_bi (s_MO_refuse hn ci  (t := t) (x1 := (0 : Int32)) (x2 := (1 : Int32))) (fun q4218 h4219 => ?_)
        obtain ⟨ci4220, p4221⟩ := h4219
        refine Tp_if (fun h4222 => ?_) (fun h4222 => ?_)
        · have g4223 := ti_q h4222
          have i4224 := ti_rg q4218.1
          refine Tp_if (fun h4225 => ?_) (fun h4225 => ?_)
          · have g4226 := ti_q h4225
            refine Tp_gd (ti_ix (by omega) (by omega)) ?_
            refine Tp_so ?_
            have b4227 := MI_13 ci4220 (c := 10) (p := x1.toNatClampNeg) rfl
            have b4228 := FX_10 ci4220.1 x1.toNatClampNeg
            exact ci4220
          · have g4229 := ti_nq h4225
            refine Tp_if (fun h4230 => ?_) (fun h4230 => ?_)
            · have g4231 := ti_q h4230
              refine Tp_gd (ti_ix (by omega) (by omega)) ?_
              refine Tp_gd (ti_ix (by omega) (by omega)) ?_
              refine Tp_so ?_
              have b4232 := MI_13 ci4220 (c := 7) (p := x1.toNatClampNeg) rfl
              have b4233 := FX_7 ci4220.1 x1.toNatClampNeg
              have b4234 := MI_13 ci4220 (c := 6) (p := x1.toNatClampNeg) rfl
              have b4235 := FX_6 ci4220.1 x1.toNatClampNeg
              first | (have a4236 : ((mz_gI q4218.2 7 x1.toNatClampNeg) - (mz_gI q4218.2 6 x1.toNatClampNeg)).toInt = (mz_gI q4218.2 7 x1.toNatClampNeg).toInt - (mz_gI q4218.2 6 x1.toNatClampNeg).toInt := ti_sub (by omega) (by omega)) | (have a4237 := ti_rg ((mz_gI q4218.2 7 x1.toNatClampNeg) - (mz_gI q4218.2 6 x1.toNatClampNeg)))
              exact ci4220
            · have g4238 := ti_nq h4230
              refine Tp_if (fun h4239 => ?_) (fun h4239 => ?_)
              · have g4240 := ti_q h4239
                have l4241 : ((2 : Int32)).toInt = 2 := rfl
                refine Tp_gd (ti_ix (by omega) (by omega)) ?_
                refine Tp_so ?_
                have b4242 := MI_13 ci4220 (c := 8) (p := x1.toNatClampNeg) rfl
                have i4243 := ti_rg (mz_gI s 8 x1.toNatClampNeg)
                exact ci4220
              · have g4244 := ti_nq h4239
                have l4245 : ((2 : Int32)).toInt = 2 := rfl
                refine Tp_if (fun h4246 => ?_) (fun h4246 => ?_)
                · have g4247 := ti_q h4246
                  have l4248 : ((3 : Int32)).toInt = 3 := rfl
                  refine Tp_gd (ti_ix (by omega) (by omega)) ?_
                  refine Tp_so ?_
                  have b4249 := MI_13 ci4220 (c := 9) (p := x1.toNatClampNeg) rfl
                  have i4250 := ti_rg (mz_gI s 9 x1.toNatClampNeg)
                  exact ci4220
                · have g4251 := ti_nq h4246
                  have l4252 : ((3 : Int32)).toInt = 3 := rfl
                  refine Tp_gd (ti_ix (by omega) (by omega)) ?_
                  refine Tp_gd (ti_ix (by omega) (by omega)) ?_
                  have l4255 : ((4 : Int32)).toInt = 4 := rfl
                  first | (have a4256 : (x2 - (4 : Int32)).toInt = (x2).toInt - ((4 : Int32)).toInt := ti_sub (by omega) (by omega)) | (have a4257 := ti_rg (x2 - (4 : Int32)))
                  refine Tp_bi (s_MO_signOf hn ci4220  (t := q4218.2) (x0 := mz_gL q4218.2 4 x1.toNatClampNeg) (x2 := mz_gL q4218.2 5 x1.toNatClampNeg) (x4 := x2 - (4 : Int32))) (fun q4253 h4254 => ?_)
                  obtain ⟨ci4258, E4259⟩ := h4254
                  try rw [E4259]
                  refine Tp_so ?_
                  have i4260 := ti_rg q4253.1
                  exact ci4220
        · have g4261 := ti_nq h4222
          have i4262 := ti_rg q4218.1
          refine Tp_so ?_
          exact ci4220
