/-! TOTAL: written by vcg.py -/
set_option maxRecDepth 4000 in
set_option maxHeartbeats 8000000 in
theorem s_SK_replace {n : Nat} {L : Int32} (hn : 8589934592 ≤ n) {x1 : Int32} {x2 : Int32} {t : mz_St}  (ci : CI L t) (i0 : -1 ≤ x1.toInt) (i1 : x1.toInt ≤ 6600) (i2 : -1 ≤ x2.toInt) (i3 : x2.toInt ≤ 6600) : Tp (f_SK_replace n x1 x2 t) (fun r => CI L r.2 ∧ (¬ (r.1).toInt = 0 ∨ (mz_gI r.2 30 8).toInt ≤ 6600)) := by
  unfold f_SK_replace
  have l4695 : ((3000 : Int32)).toInt = 3000 := rfl
  have l4696 : ((0 : Int32)).toInt = 0 := rfl
  have b4697 := CI_g10 ci (c := 30) (p := 4) rfl
  have l4698 : ((1 : Int32)).toInt = 1 := rfl
  first | (have a4699 : ((mz_gI t 30 4) - (1 : Int32)).toInt = (mz_gI t 30 4).toInt - ((1 : Int32)).toInt := ti_sub (by omega) (by omega)) | (have a4700 := ti_rg ((mz_gI t 30 4) - (1 : Int32)))
  have m4701 := ti_mx (a := (0 : Int32)) (b := (mz_gI t 30 4) - (1 : Int32)) (x := (mz_gI t 30 4) - (1 : Int32)) (y := (0 : Int32))
  have l4702 : ((300 : Int32)).toInt = 300 := rfl
  first | (have a4703 : ((if (0 : Int32) < ((mz_gI t 30 4) - (1 : Int32)) then ((mz_gI t 30 4) - (1 : Int32)) else (0 : Int32)) * (300 : Int32)).toInt = (if (0 : Int32) < ((mz_gI t 30 4) - (1 : Int32)) then ((mz_gI t 30 4) - (1 : Int32)) else (0 : Int32)).toInt * 300 := ti_mulr rfl (by omega) (by omega)) | (have a4704 := ti_rg ((if (0 : Int32) < ((mz_gI t 30 4) - (1 : Int32)) then ((mz_gI t 30 4) - (1 : Int32)) else (0 : Int32)) * (300 : Int32)))
  first | (have a4705 : ((3000 : Int32) + ((if (0 : Int32) < ((mz_gI t 30 4) - (1 : Int32)) then ((mz_gI t 30 4) - (1 : Int32)) else (0 : Int32)) * (300 : Int32))).toInt = ((3000 : Int32)).toInt + ((if (0 : Int32) < ((mz_gI t 30 4) - (1 : Int32)) then ((mz_gI t 30 4) - (1 : Int32)) else (0 : Int32)) * (300 : Int32)).toInt := ti_add (by omega) (by omega)) | (have a4706 := ti_rg ((3000 : Int32) + ((if (0 : Int32) < ((mz_gI t 30 4) - (1 : Int32)) then ((mz_gI t 30 4) - (1 : Int32)) else (0 : Int32)) * (300 : Int32))))
  refine Tp_le (fun t4693 E4694 => ?_)
  have l4708 : (7 : Int32).toInt = 7 := rfl
  have ci4707 := CI_p12 ci E4694 rfl (by omega) (by omega)
  have b4711 := CI_g12 ci4707 (c := 30) (p := 7) rfl
  have e4712 : (mz_gI t4693 30 7).toInt = ((3000 : Int32) + ((if (0 : Int32) < ((mz_gI t 30 4) - (1 : Int32)) then ((mz_gI t 30 4) - (1 : Int32)) else (0 : Int32)) * (300 : Int32))).toInt := by rw [E4694, gI_same]
  refine Tp_le (fun t4709 E4710 => ?_)
  have l4714 : (8 : Int32).toInt = 8 := rfl
  have ci4713 := CI_p11 ci4707 E4710 rfl (by omega) (by omega)
  refine Tp_le (fun t4715 E4716 => ?_)
  have l4718 : (9 : Int32).toInt = 9 := rfl
  have ci4717 := CI_p2 ci4713 E4716 rfl (by omega) (by omega)
  refine Tp_bi (s_SK_macroDepth hn ci4717  (t := t4715)) (fun q4719 h4720 => ?_)
  obtain ⟨ci4721, E4722, p4723, p4724⟩ := h4720
  try rw [E4722]
  have i4727 := ti_rg q4719.1
  refine Tp_le (fun t4725 E4726 => ?_)
  have l4729 : (10 : Int32).toInt = 10 := rfl
  have ci4728 := CI_p10 ci4717 E4726 rfl (by omega) (by omega)
  have i4730 := ti_rg x2
  have i4731 := ti_rg x1
  have b4732 := CI_g11 ci4728 (c := 30) (p := 8) rfl
  have e4733 : (mz_gI t4725 30 8).toInt = (mz_gI t4715 30 8).toInt := by rw [E4726, gI_oth _ _ (by simp)]
  have b4734 := CI_g11 ci4717 (c := 30) (p := 8) rfl
  have e4735 : (mz_gI t4715 30 8).toInt = (mz_gI t4709 30 8).toInt := by rw [E4716, gI_oth _ _ (by simp)]
  have b4736 := CI_g11 ci4713 (c := 30) (p := 8) rfl
  have e4737 : (mz_gI t4709 30 8).toInt = (mz_gI t4693 30 7).toInt := by rw [E4710, gI_same]
  refine Tp_mo (l_SK_replace_45 hn  n x2 x1 t4725 ci4728 (by omega) (by omega) (by omega) (by omega) (by omega) (by omega)) (fun q4738 h4739 => ?_)
  obtain ⟨ci4740, p4741⟩ := h4739
  have b4742 := CI_g11 ci4740 (c := 30) (p := 8) rfl
  have i4743 := ti_rg q4738.1
  have b4744 := CI_g11 ci (c := 30) (p := 8) rfl
  refine ⟨ci4740, ?_⟩
  · (try dsimp only) <;> first | omega | assumption
set_option maxRecDepth 4000 in
set_option maxHeartbeats 8000000 in
theorem l_SK_readArguments_46 {n : Nat} {L : Int32} (hn : 8589934592 ≤ n)  : ∀ (k : Nat) (x1 : Int32) (x3 : Int32) (x4 : Nat) (x5 : Int32) (x6 : Int32) (x7 : Int32) (t : mz_St), CI L t → (-1 ≤ x3.toInt) → (x3.toInt ≤ 6600) → (mz_fr x4) → (-1 ≤ x6.toInt) → (x6.toInt ≤ 7000) → (0 ≤ x7.toInt) → (2147483648 - x7.toInt).toNat < k → Tp (f_SK_readArguments_46 n k x1 x3 x4 x5 x6 x7 t) (fun r => CI L r.2 ∧ 0 ≤ (r.1).toInt ∧ (r.1).toInt ≤ 1) := by
  intro k
  induction k with
  | zero => intros; omega
  | succ k ih =>
    intro x1 x3 x4 x5 x6 x7 t ci i0 i1 i2 i3 i4 i5 hm
    unfold f_SK_readArguments_46
    refine Tp_gd (by omega) ?_
    refine Tp_if (fun h4745 => ?_) (fun h4745 => ?_)
    · have g4746 := ti_e h4745
      have i4747 := ti_rg x5
      have i4748 := ti_rg x7
      refine Tp_if (fun h4749 => ?_) (fun h4749 => ?_)
      · have g4750 := ti_e h4749
        have i4751 := ti_rg x6
        have i4752 := ti_rg x3
        refine Tp_so ?_
        have l4753 : ((0 : Int32)).toInt = 0 := rfl
        refine ⟨ci, ?_, ?_⟩
        · (try dsimp only) <;> first | omega | assumption
        · (try dsimp only) <;> first | omega | assumption
      · have g4754 := ti_ne h4749
        have i4755 := ti_rg x6
        have i4756 := ti_rg x3
        refine Tp_so ?_
        have l4757 : ((1 : Int32)).toInt = 1 := rfl
        refine ⟨ci, ?_, ?_⟩
        · (try dsimp only) <;> first | omega | assumption
        · (try dsimp only) <;> first | omega | assumption
    · have g4758 := ti_ne h4745
      have i4759 := ti_rg x5
      have i4760 := ti_rg x7
      have i4763 := ti_rg x3
      have i4764 := ti_rg x6
      have m4765 := ti_mx (a := x3) (b := x6) (x := x3) (y := x6)
      refine Tp_bi (s_SI_argumentEnd hn ci  (t := t) (x1 := if x3 < x6 then x3 else x6) (x2 := x3)) (fun q4761 h4762 => ?_)
      obtain ⟨ci4766, E4767, p4768⟩ := h4762
      try rw [E4767]
      refine Tp_if (fun h4769 => ?_) (fun h4769 => ?_)
      · have g4770 := ti_q h4769
        have i4771 := ti_rg q4761.1
        have l4772 : ((-1 : Int32)).toInt = -1 := rfl
        refine Tp_so ?_
        have l4773 : ((0 : Int32)).toInt = 0 := rfl
        refine ⟨ci, ?_, ?_⟩
        · (try dsimp only) <;> first | omega | assumption
        · (try dsimp only) <;> first | omega | assumption
      · have g4774 := ti_nq h4769
        have i4775 := ti_rg q4761.1
        have l4776 : ((-1 : Int32)).toInt = -1 := rfl
        refine Tp_bi (s_SK_setTrimmed hn ci (by omega) (by omega) (by omega) (by omega) (by omega) (t := t) (x1 := x4) (x2 := x7) (x3 := if x3 < x6 then x3 else x6) (x4 := q4761.1)) (fun q4777 h4778 => ?_)
        have ci4779 := h4778
        refine Tp_if (fun h4780 => ?_) (fun h4780 => ?_)
        · have g4781 := ti_e h4780
          unfold f_SK_readArguments_108
          refine Tp_gd (by omega) ?_
          refine Tp_bi (s_FR_argumentStart hn ci4779 (by omega) (t := q4777) (x0 := x4) (x1 := x7)) (fun q4782 h4783 => ?_)
          obtain ⟨ci4784, E4785, p4786, p4787⟩ := h4783
          try rw [E4785]
          refine Tp_bi (s_FR_argumentStop hn ci4779 (by omega) (t := q4777) (x0 := x4) (x1 := x7)) (fun q4788 h4789 => ?_)
          obtain ⟨ci4790, E4791, p4792, p4793⟩ := h4789
          try rw [E4791]
          refine Tp_if (fun h4794 => ?_) (fun h4794 => ?_)
          · have g4795 := ti_l h4794
            have i4796 := ti_rg q4782.1
            have i4797 := ti_rg q4788.1
            unfold f_SK_readArguments_170
            refine Tp_gd (by omega) ?_
            have i4798 := ti_rg x1
            have l4799 : ((1 : Int32)).toInt = 1 := rfl
            first | (have a4800 : (q4761.1 + (1 : Int32)).toInt = (q4761.1).toInt + ((1 : Int32)).toInt := ti_add (by omega) (by omega)) | (have a4801 := ti_rg (q4761.1 + (1 : Int32)))
            first | (have a4802 : (x7 + (1 : Int32)).toInt = (x7).toInt + ((1 : Int32)).toInt := ti_add (by omega) (by omega)) | (have a4803 := ti_rg (x7 + (1 : Int32)))
            exact ih x1 x3 x4 x5 (q4761.1 + (1 : Int32)) (x7 + (1 : Int32)) q4777 ci4779 (by omega) (by omega) (by omega) (by omega) (by omega) (by omega) (by omega)
          · have g4804 := ti_nl h4794
            have i4805 := ti_rg q4782.1
            have i4806 := ti_rg q4788.1
            have i4809 := ti_rg x1
            refine Tp_bi (s_MA_defaultStart hn ci4779  (t := q4777) (x1 := x1) (x2 := x7)) (fun q4807 h4808 => ?_)
            obtain ⟨ci4810, E4811, p4812, p4813⟩ := h4808
            try rw [E4811]
            refine Tp_if (fun h4814 => ?_) (fun h4814 => ?_)
            · have g4815 := ti_q h4814
              have i4816 := ti_rg q4807.1
              refine Tp_so ?_
              have l4817 : ((0 : Int32)).toInt = 0 := rfl
              refine ⟨ci4779, ?_, ?_⟩
              · (try dsimp only) <;> first | omega | assumption
              · (try dsimp only) <;> first | omega | assumption
            · have g4818 := ti_nq h4814
              have i4819 := ti_rg q4807.1
              refine Tp_bi (s_MA_defaultStart hn ci4779  (t := q4777) (x1 := x1) (x2 := x7)) (fun q4820 h4821 => ?_)
              obtain ⟨ci4822, E4823, p4824, p4825⟩ := h4821
              try rw [E4823]
              refine Tp_bi (s_MA_defaultStop hn ci4779  (t := q4777) (x1 := x1) (x2 := x7)) (fun q4826 h4827 => ?_)
              obtain ⟨ci4828, E4829, p4830, p4831⟩ := h4827
              try rw [E4829]
              have i4834 := ti_rg q4820.1
              have i4835 := ti_rg q4826.1
              refine Tp_bi (s_FR_setArgument hn ci4779 (by omega) (by omega) (by omega) (by omega) (by omega) (t := q4777) (x0 := x4) (x1 := x7) (x2 := q4820.1) (x3 := q4826.1)) (fun q4832 h4833 => ?_)
              have ci4836 := h4833
              unfold f_SK_readArguments_170
              refine Tp_gd (by omega) ?_
              have l4837 : ((1 : Int32)).toInt = 1 := rfl
              first | (have a4838 : (q4761.1 + (1 : Int32)).toInt = (q4761.1).toInt + ((1 : Int32)).toInt := ti_add (by omega) (by omega)) | (have a4839 := ti_rg (q4761.1 + (1 : Int32)))
              first | (have a4840 : (x7 + (1 : Int32)).toInt = (x7).toInt + ((1 : Int32)).toInt := ti_add (by omega) (by omega)) | (have a4841 := ti_rg (x7 + (1 : Int32)))
              exact ih x1 x3 x4 x5 (q4761.1 + (1 : Int32)) (x7 + (1 : Int32)) q4832 ci4836 (by omega) (by omega) (by omega) (by omega) (by omega) (by omega) (by omega)
        · have g4842 := ti_ne h4780
          unfold f_SK_readArguments_108
          refine Tp_gd (by omega) ?_
          refine Tp_bi (s_FR_argumentStart hn ci4779 (by omega) (t := q4777) (x0 := x4) (x1 := x7)) (fun q4843 h4844 => ?_)
          obtain ⟨ci4845, E4846, p4847, p4848⟩ := h4844
          try rw [E4846]
          refine Tp_bi (s_FR_argumentStop hn ci4779 (by omega) (t := q4777) (x0 := x4) (x1 := x7)) (fun q4849 h4850 => ?_)
          obtain ⟨ci4851, E4852, p4853, p4854⟩ := h4850
          try rw [E4852]
          refine Tp_if (fun h4855 => ?_) (fun h4855 => ?_)
          · have g4856 := ti_l h4855
            have i4857 := ti_rg q4843.1
            have i4858 := ti_rg q4849.1
            unfold f_SK_readArguments_170
            refine Tp_gd (by omega) ?_
            have i4859 := ti_rg x1
            have l4860 : ((1 : Int32)).toInt = 1 := rfl
            first | (have a4861 : (x7 + (1 : Int32)).toInt = (x7).toInt + ((1 : Int32)).toInt := ti_add (by omega) (by omega)) | (have a4862 := ti_rg (x7 + (1 : Int32)))
            exact ih x1 x3 x4 x5 x6 (x7 + (1 : Int32)) q4777 ci4779 (by omega) (by omega) (by omega) (by omega) (by omega) (by omega) (by omega)
          · have g4863 := ti_nl h4855
            have i4864 := ti_rg q4843.1
            have i4865 := ti_rg q4849.1
            have i4868 := ti_rg x1
            refine Tp_bi (s_MA_defaultStart hn ci4779  (t := q4777) (x1 := x1) (x2 := x7)) (fun q4866 h4867 => ?_)
            obtain ⟨ci4869, E4870, p4871, p4872⟩ := h4867
            try rw [E4870]
            refine Tp_if (fun h4873 => ?_) (fun h4873 => ?_)
            · have g4874 := ti_q h4873
              have i4875 := ti_rg q4866.1
              refine Tp_so ?_
              have l4876 : ((0 : Int32)).toInt = 0 := rfl
              refine ⟨ci4779, ?_, ?_⟩
              · (try dsimp only) <;> first | omega | assumption
              · (try dsimp only) <;> first | omega | assumption
            · have g4877 := ti_nq h4873
              have i4878 := ti_rg q4866.1
              refine Tp_bi (s_MA_defaultStart hn ci4779  (t := q4777) (x1 := x1) (x2 := x7)) (fun q4879 h4880 => ?_)
              obtain ⟨ci4881, E4882, p4883, p4884⟩ := h4880
              try rw [E4882]
              refine Tp_bi (s_MA_defaultStop hn ci4779  (t := q4777) (x1 := x1) (x2 := x7)) (fun q4885 h4886 => ?_)
              obtain ⟨ci4887, E4888, p4889, p4890⟩ := h4886
              try rw [E4888]
              have i4893 := ti_rg q4879.1
              have i4894 := ti_rg q4885.1
              refine Tp_bi (s_FR_setArgument hn ci4779 (by omega) (by omega) (by omega) (by omega) (by omega) (t := q4777) (x0 := x4) (x1 := x7) (x2 := q4879.1) (x3 := q4885.1)) (fun q4891 h4892 => ?_)
              have ci4895 := h4892
              unfold f_SK_readArguments_170
              refine Tp_gd (by omega) ?_
              have l4896 : ((1 : Int32)).toInt = 1 := rfl
              first | (have a4897 : (x7 + (1 : Int32)).toInt = (x7).toInt + ((1 : Int32)).toInt := ti_add (by omega) (by omega)) | (have a4898 := ti_rg (x7 + (1 : Int32)))
              exact ih x1 x3 x4 x5 x6 (x7 + (1 : Int32)) q4891 ci4895 (by omega) (by omega) (by omega) (by omega) (by omega) (by omega) (by omega)
set_option maxRecDepth 4000 in
set_option maxHeartbeats 8000000 in
theorem s_SK_readArguments {n : Nat} {L : Int32} (hn : 8589934592 ≤ n) {x1 : Int32} {x2 : Int32} {x3 : Int32} {t : mz_St}  (ci : CI L t) (i0 : -1 ≤ x2.toInt) (i1 : x2.toInt ≤ 7000) (i2 : -1 ≤ x3.toInt) (i3 : x3.toInt ≤ 6600) : Tp (f_SK_readArguments n x1 x2 x3 t) (fun r => CI L r.2 ∧ 0 ≤ (r.1).toInt ∧ (r.1).toInt ≤ 1) := by
  unfold f_SK_readArguments
  refine Tp_bi (s_SK_spare hn ci  (t := t)) (fun q4899 h4900 => ?_)
  obtain ⟨ci4901, E4902, p4903⟩ := h4900
  try rw [E4902]
  refine Tp_gd (by omega) ?_
  have i4906 := ti_rg x1
  refine Tp_bi (s_MA_parametersOf hn ci  (t := t) (x1 := x1)) (fun q4904 h4905 => ?_)
  obtain ⟨ci4907, E4908⟩ := h4905
  try rw [E4908]
  refine Tp_if (fun h4909 => ?_) (fun h4909 => ?_)
  · have g4910 := ti_q h4909
    have i4911 := ti_rg q4904.1
    have l4912 : (0 : Int32).toInt = 0 := rfl
    have i4915 := ti_rg x2
    have i4916 := ti_rg x3
    refine Tp_bi (s_SI_behindBlanks hn ci  (t := t) (x1 := x2) (x2 := x3)) (fun q4913 h4914 => ?_)
    obtain ⟨ci4917, E4918, p4919, p4920⟩ := h4914
    try rw [E4918]
    refine Tp_if (fun h4921 => ?_) (fun h4921 => ?_)
    · have g4922 := ti_l h4921
      have i4923 := ti_rg q4913.1
      refine Tp_so ?_
      have l4924 : ((0 : Int32)).toInt = 0 := rfl
      refine ⟨ci, ?_, ?_⟩
      · (try dsimp only) <;> first | omega | assumption
      · (try dsimp only) <;> first | omega | assumption
    · have g4925 := ti_nl h4921
      have i4926 := ti_rg q4913.1
      refine Tp_so ?_
      have l4927 : ((1 : Int32)).toInt = 1 := rfl
      refine ⟨ci, ?_, ?_⟩
      · (try dsimp only) <;> first | omega | assumption
      · (try dsimp only) <;> first | omega | assumption
  · have g4928 := ti_nq h4909
    have i4929 := ti_rg q4904.1
    have l4930 : (0 : Int32).toInt = 0 := rfl
    have i4931 := ti_rg x3
    have i4932 := ti_rg x2
    have l4933 : ((0 : Int32)).toInt = 0 := rfl
    refine Tp_mo (l_SK_readArguments_46 hn  n x1 x3 q4899.1 q4904.1 x2 (0 : Int32) t ci (by omega) (by omega) (by omega) (by omega) (by omega) (by omega) (by omega)) (fun q4934 h4935 => ?_)
    obtain ⟨ci4936, p4937, p4938⟩ := h4935
    have i4939 := ti_rg q4934.1
    refine ⟨ci4936, ?_, ?_⟩
    · (try dsimp only) <;> first | omega | assumption
    · (try dsimp only) <;> first | omega | assumption
set_option maxRecDepth 4000 in
set_option maxHeartbeats 8000000 in
theorem s_SK_open {n : Nat} {L : Int32} (hn : 8589934592 ≤ n) {x1 : Int32} {t : mz_St}  (ci : CI L t)  : Tp (f_SK_open n x1 t) (fun r => CI L r.2 ∧ 0 ≤ (r.1).toInt ∧ (r.1).toInt ≤ 1) := by
  unfold f_SK_open
  refine Tp_if (fun h4940 => ?_) (fun h4940 => ?_)
  · have g4941 := ti_l h4940
    have b4942 := CI_g10 ci (c := 30) (p := 4) rfl
    have l4943 : ((12 : Int32)).toInt = 12 := rfl
    refine Tp_if (fun h4944 => ?_) (fun h4944 => ?_)
    · have g4945 := ti_q h4944
      have l4946 : (0 : Int32).toInt = 0 := rfl
      have i4949 := ti_rg x1
      refine Tp_le (fun t4947 E4948 => ?_)
      have ci4950 := CI_p0 ci E4948 rfl
      unfold f_SK_open_23
      have b4953 := CI_g10 ci4950 (c := 30) (p := 4) rfl
      have e4954 : (mz_gI t4947 30 4).toInt = (mz_gI t 30 4).toInt := by rw [E4948, gI_oth _ _ (by simp)]
      have l4955 : ((1 : Int32)).toInt = 1 := rfl
      first | (have a4956 : ((mz_gI t4947 30 4) + (1 : Int32)).toInt = (mz_gI t4947 30 4).toInt + ((1 : Int32)).toInt := ti_add (by omega) (by omega)) | (have a4957 := ti_rg ((mz_gI t4947 30 4) + (1 : Int32)))
      refine Tp_le (fun t4951 E4952 => ?_)
      have l4959 : (4 : Int32).toInt = 4 := rfl
      have ci4958 := CI_p10 ci4950 E4952 rfl (by omega) (by omega)
      have i4962 := ti_rg (mz_gI t4951 30 5)
      have e4963 : (mz_gI t4951 30 5).toInt = (mz_gI t4947 30 5).toInt := by rw [E4952, gI_oth _ _ (by simp)]
      have i4964 := ti_rg (mz_gI t4947 30 5)
      have e4965 : (mz_gI t4947 30 5).toInt = (mz_gI t 30 5).toInt := by rw [E4948, gI_oth _ _ (by simp)]
      have i4966 := ti_rg (mz_gI t 30 5)
      have b4967 := CI_g10 ci4958 (c := 30) (p := 4) rfl
      have e4968 : (mz_gI t4951 30 4).toInt = ((mz_gI t4947 30 4) + (1 : Int32)).toInt := by rw [E4952, gI_same]
      have m4969 := ti_mx (a := mz_gI t4951 30 5) (b := mz_gI t4951 30 4) (x := mz_gI t4951 30 4) (y := mz_gI t4951 30 5)
      refine Tp_le (fun t4960 E4961 => ?_)
      have ci4970 := CI_p0 ci4958 E4961 rfl
      refine Tp_so ?_
      refine ⟨ci4970, ?_, ?_⟩
      · (try dsimp only) <;> first | omega | assumption
      · (try dsimp only) <;> first | omega | assumption
    · have g4971 := ti_nq h4944
      have l4972 : (0 : Int32).toInt = 0 := rfl
      unfold f_SK_open_23
      have l4975 : ((1 : Int32)).toInt = 1 := rfl
      first | (have a4976 : ((mz_gI t 30 4) + (1 : Int32)).toInt = (mz_gI t 30 4).toInt + ((1 : Int32)).toInt := ti_add (by omega) (by omega)) | (have a4977 := ti_rg ((mz_gI t 30 4) + (1 : Int32)))
      refine Tp_le (fun t4973 E4974 => ?_)
      have l4979 : (4 : Int32).toInt = 4 := rfl
      have ci4978 := CI_p10 ci E4974 rfl (by omega) (by omega)
      have i4982 := ti_rg (mz_gI t4973 30 5)
      have e4983 : (mz_gI t4973 30 5).toInt = (mz_gI t 30 5).toInt := by rw [E4974, gI_oth _ _ (by simp)]
      have i4984 := ti_rg (mz_gI t 30 5)
      have b4985 := CI_g10 ci4978 (c := 30) (p := 4) rfl
      have e4986 : (mz_gI t4973 30 4).toInt = ((mz_gI t 30 4) + (1 : Int32)).toInt := by rw [E4974, gI_same]
      have m4987 := ti_mx (a := mz_gI t4973 30 5) (b := mz_gI t4973 30 4) (x := mz_gI t4973 30 4) (y := mz_gI t4973 30 5)
      refine Tp_le (fun t4980 E4981 => ?_)
      have ci4988 := CI_p0 ci4978 E4981 rfl
      refine Tp_so ?_
      refine ⟨ci4988, ?_, ?_⟩
      · (try dsimp only) <;> first | omega | assumption
      · (try dsimp only) <;> first | omega | assumption
  · have g4989 := ti_nl h4940
    have b4990 := CI_g10 ci (c := 30) (p := 4) rfl
    have l4991 : ((12 : Int32)).toInt = 12 := rfl
    refine Tp_so ?_
    have l4992 : ((0 : Int32)).toInt = 0 := rfl
    refine ⟨ci, ?_, ?_⟩
    · (try dsimp only) <;> first | omega | assumption
    · (try dsimp only) <;> first | omega | assumption
set_option maxRecDepth 4000 in
set_option maxHeartbeats 8000000 in
theorem l_SK_readTexts_8 {n : Nat} {L : Int32} (hn : 8589934592 ≤ n)  : ∀ (k : Nat) (x1 : Int32) (x2 : Int32) (x3 : Int32) (x4 : Int32) (x5 : Int32) (t : mz_St), CI L t → (-1 ≤ x1.toInt) → (x1.toInt ≤ 7000) → (-1 ≤ x2.toInt) → (x2.toInt ≤ 6600) → (-1 ≤ x4.toInt) → (x4.toInt ≤ 7000) → (2147483648 - x5.toInt).toNat < k → Tp (f_SK_readTexts_8 n k x1 x2 x3 x4 x5 t) (fun r => CI L r.2) := by
  intro k
  induction k with
  | zero => intros; omega
  | succ k ih =>
    intro x1 x2 x3 x4 x5 t ci i0 i1 i2 i3 i4 i5 hm
    unfold f_SK_readTexts_8
    refine Tp_if (fun h4993 => ?_) (fun h4993 => ?_)
    · have g4994 := ti_l h4993
      have i4995 := ti_rg x2
      have i4996 := ti_rg x5
      unfold f_SK_readTexts_55
      refine Tp_bi (s_SK_spare hn ci  (t := t)) (fun q4997 h4998 => ?_)
      obtain ⟨ci4999, E5000, p5001⟩ := h4998
      try rw [E5000]
      refine Tp_gd (by omega) ?_
      have i5004 := ti_rg x1
      refine Tp_le (fun t5002 E5003 => ?_)
      have l5006 : (11 : Int32).toInt = 11 := rfl
      have ci5005 := CI_p1 ci E5003 (bxK_f9 (by omega) (by decide) (by decide)) (by omega) (by omega)
      refine Tp_le (fun t5007 E5008 => ?_)
      have l5010 : (12 : Int32).toInt = 12 := rfl
      have ci5009 := CI_p1 ci5005 E5008 (bxK_f9 (by omega) (by decide) (by decide)) (by omega) (by omega)
      refine Tp_bi (s_SK_nextText hn ci5009 (by omega) (t := t5007) (x1 := q4997.1)) (fun q5011 h5012 => ?_)
      have ci5013 := h5012
      refine Tp_so ?_
      have i5014 := ti_rg x3
      exact ci5013
    · have g5015 := ti_nl h4993
      have i5016 := ti_rg x2
      have i5017 := ti_rg x5
      refine Tp_if (fun h5018 => ?_) (fun h5018 => ?_)
      · have g5019 := ti_l h5018
        have i5020 := ti_rg x4
        unfold f_SK_readTexts_55
        refine Tp_bi (s_SK_spare hn ci  (t := t)) (fun q5021 h5022 => ?_)
        obtain ⟨ci5023, E5024, p5025⟩ := h5022
        try rw [E5024]
        refine Tp_gd (by omega) ?_
        have i5028 := ti_rg x1
        refine Tp_le (fun t5026 E5027 => ?_)
        have l5030 : (11 : Int32).toInt = 11 := rfl
        have ci5029 := CI_p1 ci E5027 (bxK_f9 (by omega) (by decide) (by decide)) (by omega) (by omega)
        refine Tp_le (fun t5031 E5032 => ?_)
        have l5034 : (12 : Int32).toInt = 12 := rfl
        have ci5033 := CI_p1 ci5029 E5032 (bxK_f9 (by omega) (by decide) (by decide)) (by omega) (by omega)
        refine Tp_bi (s_SK_nextText hn ci5033 (by omega) (t := t5031) (x1 := q5021.1)) (fun q5035 h5036 => ?_)
        have ci5037 := h5036
        refine Tp_so ?_
        have i5038 := ti_rg x3
        exact ci5037
      · have g5039 := ti_nl h5018
        have i5040 := ti_rg x4
        refine Tp_bi (s_SI_argumentEnd hn ci  (t := t) (x1 := x4) (x2 := x2)) (fun q5041 h5042 => ?_)
        obtain ⟨ci5043, E5044, p5045⟩ := h5042
        try rw [E5044]
        refine Tp_if (fun h5046 => ?_) (fun h5046 => ?_)
        · have g5047 := ti_q h5046
          have i5048 := ti_rg q5041.1
          have l5049 : ((-1 : Int32)).toInt = -1 := rfl
          refine Tp_so ?_
          exact ci
        · have g5050 := ti_nq h5046
          have i5051 := ti_rg q5041.1
          have l5052 : ((-1 : Int32)).toInt = -1 := rfl
          have i5053 := ti_rg x1
          have i5054 := ti_rg x3
          have l5055 : ((1 : Int32)).toInt = 1 := rfl
          first | (have a5056 : (x3 + (1 : Int32)).toInt = (x3).toInt + ((1 : Int32)).toInt := ti_add (by omega) (by omega)) | (have a5057 := ti_rg (x3 + (1 : Int32)))
          first | (have a5058 : (q5041.1 + (1 : Int32)).toInt = (q5041.1).toInt + ((1 : Int32)).toInt := ti_add (by omega) (by omega)) | (have a5059 := ti_rg (q5041.1 + (1 : Int32)))
          first | (have a5060 : (x5 + (1 : Int32)).toInt = (x5).toInt + ((1 : Int32)).toInt := ti_add (by omega) (by omega)) | (have a5061 := ti_rg (x5 + (1 : Int32)))
          exact ih x1 x2 (x3 + (1 : Int32)) (q5041.1 + (1 : Int32)) (x5 + (1 : Int32)) t ci (by omega) (by omega) (by omega) (by omega) (by omega) (by omega) (by omega)
set_option maxRecDepth 4000 in
set_option maxHeartbeats 8000000 in
theorem s_SK_readTexts {n : Nat} {L : Int32} (hn : 8589934592 ≤ n) {x1 : Int32} {x2 : Int32} {t : mz_St}  (ci : CI L t) (i0 : -1 ≤ x1.toInt) (i1 : x1.toInt ≤ 7000) (i2 : -1 ≤ x2.toInt) (i3 : x2.toInt ≤ 6600) : Tp (f_SK_readTexts n x1 x2 t) (fun r => CI L r.2) := by
  unfold f_SK_readTexts
  have i5062 := ti_rg x1
  have i5063 := ti_rg x2
  have l5064 : ((0 : Int32)).toInt = 0 := rfl
  refine Tp_mo (l_SK_readTexts_8 hn  n x1 x2 (0 : Int32) x1 x1 t ci (by omega) (by omega) (by omega) (by omega) (by omega) (by omega) (by omega)) (fun q5065 h5066 => ?_)
  have ci5067 := h5066
  have i5068 := ti_rg q5065.1
  exact ci5067
set_option maxRecDepth 4000 in
set_option maxHeartbeats 8000000 in
theorem l_DI_of_38 {n : Nat} {L : Int32} (hn : 8589934592 ≤ n)  : ∀ (k : Nat) (x1 : Int32) (x3 : Int32) (x4 : Int32) (t : mz_St), CI L t → (0 ≤ x4.toInt) → (2147483648 - x4.toInt).toNat < k → Tp (f_DI_of_38 n k x1 x3 x4 t) (fun r => CI L r.2 ∧ r.2 = t ∧ 0 ≤ (r.1).toInt ∧ (r.1).toInt ≤ 15) := by
  intro k
  induction k with
  | zero => intros; omega
  | succ k ih =>
    intro x1 x3 x4 t ci i0 hm
    unfold f_DI_of_38
    refine Tp_if (fun h5069 => ?_) (fun h5069 => ?_)
    · have g5070 := ti_e h5069
      have l5071 : ((16 : Int32)).toInt = 16 := rfl
      have i5072 := ti_rg x4
      refine Tp_so ?_
      have l5073 : ((1 : Int32)).toInt = 1 := rfl
      refine ⟨ci, rfl, ?_, ?_⟩
      · (try dsimp only) <;> first | omega | assumption
      · (try dsimp only) <;> first | omega | assumption
    · have g5074 := ti_ne h5069
      have l5075 : ((16 : Int32)).toInt = 16 := rfl
      have i5076 := ti_rg x4
      refine Tp_gd (ti_ix (by omega) (by omega)) ?_
      refine Tp_gd (ti_c16 (by decide) (by omega)) ?_
      have i5079 := ti_rg x1
      have l5080 : ((1 : Int32)).toInt = 1 := rfl
      first | (have a5081 : (x1 + (1 : Int32)).toInt = (x1).toInt + ((1 : Int32)).toInt := ti_add (by omega) (by omega)) | (have a5082 := ti_rg (x1 + (1 : Int32)))
      have i5083 := ti_rg x3
      have w5084 := wi_lt x4.toNatClampNeg
      refine Tp_bi (s_SI_spells hn ci (by omega) (t := t) (x1 := x1 + (1 : Int32)) (x2 := x3) (x3 := mz_wi.getD x4.toNatClampNeg 0)) (fun q5077 h5078 => ?_)
      obtain ⟨ci5085, E5086, p5087, p5088⟩ := h5078
      try rw [E5086]
      refine Tp_if (fun h5089 => ?_) (fun h5089 => ?_)
      · have g5090 := ti_q h5089
        have i5091 := ti_rg q5077.1
        have l5092 : (0 : Int32).toInt = 0 := rfl
        first | (have a5093 : (x4 + (1 : Int32)).toInt = (x4).toInt + ((1 : Int32)).toInt := ti_add (by omega) (by omega)) | (have a5094 := ti_rg (x4 + (1 : Int32)))
        exact ih x1 x3 (x4 + (1 : Int32)) t ci (by omega) (by omega)
      · have g5095 := ti_nq h5089
        have i5096 := ti_rg q5077.1
        have l5097 : (0 : Int32).toInt = 0 := rfl
        refine Tp_gd (ti_ix (by omega) (by omega)) ?_
        refine Tp_so ?_
        refine ⟨ci, rfl, ?_, ?_⟩
        · (try dsimp only) <;> first | omega | assumption
        · (try dsimp only) <;> first | omega | assumption
set_option maxRecDepth 4000 in
set_option maxHeartbeats 8000000 in
theorem s_DI_of {n : Nat} {L : Int32} (hn : 8589934592 ≤ n) {x1 : Int32} {x2 : Int32} {t : mz_St}  (ci : CI L t)  : Tp (f_DI_of n x1 x2 t) (fun r => CI L r.2 ∧ r.2 = t ∧ 0 ≤ (r.1).toInt ∧ (r.1).toInt ≤ 15) := by
  unfold f_DI_of
  refine Tp_if (fun h5098 => ?_) (fun h5098 => ?_)
  · have g5099 := ti_e h5098
    have i5100 := ti_rg x2
    have i5101 := ti_rg x1
    refine Tp_so ?_
    have l5102 : ((0 : Int32)).toInt = 0 := rfl
    refine ⟨ci, rfl, ?_, ?_⟩
    · (try dsimp only) <;> first | omega | assumption
    · (try dsimp only) <;> first | omega | assumption
  · have g5103 := ti_ne h5098
    have i5104 := ti_rg x2
    have i5105 := ti_rg x1
    refine Tp_bi (s_SI_at hn ci  (t := t) (x1 := x1)) (fun q5106 h5107 => ?_)
    obtain ⟨ci5108, E5109⟩ := h5107
    try rw [E5109]
    refine Tp_if (fun h5110 => ?_) (fun h5110 => ?_)
    · have g5111 := ti_q h5110
      have i5112 := ti_rg q5106.1
      have l5113 : ((46 : Int32)).toInt = 46 := rfl
      have l5116 : ((1 : Int32)).toInt = 1 := rfl
      first | (have a5117 : (x1 + (1 : Int32)).toInt = (x1).toInt + ((1 : Int32)).toInt := ti_add (by omega) (by omega)) | (have a5118 := ti_rg (x1 + (1 : Int32)))
      refine Tp_bi (s_SI_wordEnd hn ci  (t := t) (x1 := x1 + (1 : Int32)) (x2 := x2)) (fun q5114 h5115 => ?_)
      obtain ⟨ci5119, E5120, p5121, p5122⟩ := h5115
      try rw [E5120]
      refine Tp_if (fun h5123 => ?_) (fun h5123 => ?_)
      · have g5124 := ti_e h5123
        have i5125 := ti_rg q5114.1
        refine Tp_so ?_
        refine ⟨ci, rfl, ?_, ?_⟩
        · (try dsimp only) <;> first | omega | assumption
        · (try dsimp only) <;> first | omega | assumption
      · have g5126 := ti_ne h5123
        have i5127 := ti_rg q5114.1
        have l5128 : ((0 : Int32)).toInt = 0 := rfl
        refine Tp_mo (l_DI_of_38 hn  n x1 q5114.1 (0 : Int32) t ci (by omega) (by omega)) (fun q5129 h5130 => ?_)
        obtain ⟨ci5131, E5132, p5133, p5134⟩ := h5130
        have i5135 := ti_rg q5129.1
        refine ⟨ci5131, (E5132), ?_, ?_⟩
        · (try dsimp only) <;> first | omega | assumption
        · (try dsimp only) <;> first | omega | assumption
    · have g5136 := ti_nq h5110
      have i5137 := ti_rg q5106.1
      have l5138 : ((46 : Int32)).toInt = 46 := rfl
      refine Tp_so ?_
      have l5139 : ((0 : Int32)).toInt = 0 := rfl
      refine ⟨ci, rfl, ?_, ?_⟩
      · (try dsimp only) <;> first | omega | assumption
      · (try dsimp only) <;> first | omega | assumption
set_option maxRecDepth 4000 in
set_option maxHeartbeats 8000000 in
theorem s_DI_behind {n : Nat} {L : Int32} (hn : 8589934592 ≤ n) {x0 : Int32} {x1 : Int32} {t : mz_St}  (ci : CI L t) (i0 : x0.toInt ≤ 15) (i1 : -1 ≤ x1.toInt) (i2 : x1.toInt ≤ 6600) : Tp (f_DI_behind n x0 x1 t) (fun r => CI L r.2 ∧ r.2 = t ∧ -1 ≤ (r.1).toInt ∧ (r.1).toInt ≤ 7000) := by
  unfold f_DI_behind
  have i5140 := ti_rg x0
  refine Tp_gd (ti_c16 (by decide) (by omega)) ?_
  have w5141 := wi_lt x0.toNatClampNeg
  refine Tp_gd (by omega) ?_
  refine Tp_bi (s_JS_length hn ci (by omega) (t := t) (x0 := mz_wi.getD x0.toNatClampNeg 0)) (fun q5142 h5143 => ?_)
  obtain ⟨ci5144, E5145, p5146, p5147⟩ := h5143
  try rw [E5145]
  refine Tp_so ?_
  have i5148 := ti_rg x1
  have l5149 : ((1 : Int32)).toInt = 1 := rfl
  first | (have a5150 : (x1 + (1 : Int32)).toInt = (x1).toInt + ((1 : Int32)).toInt := ti_add (by omega) (by omega)) | (have a5151 := ti_rg (x1 + (1 : Int32)))
  have i5152 := ti_rg q5142.1
  first | (have a5153 : ((x1 + (1 : Int32)) + q5142.1).toInt = (x1 + (1 : Int32)).toInt + (q5142.1).toInt := ti_add (by omega) (by omega)) | (have a5154 := ti_rg ((x1 + (1 : Int32)) + q5142.1))
  refine ⟨ci, rfl, ?_, ?_⟩
  · (try dsimp only) <;> first | omega | assumption
  · (try dsimp only) <;> first | omega | assumption
set_option maxRecDepth 4000 in
set_option maxHeartbeats 8000000 in
theorem s_EX_toldLine {n : Nat} {L : Int32} (hn : 8589934592 ≤ n) {t : mz_St}  (ci : CI L t)  : Tp (f_EX_toldLine n t) (fun r => CI L r.2 ∧ r.2 = t) := by
  unfold f_EX_toldLine
  refine Tp_if (fun h5155 => ?_) (fun h5155 => ?_)
  · have g5156 := ti_q h5155
    have b5157 := CI_g10 ci (c := 30) (p := 4) rfl
    have l5158 : (0 : Int32).toInt = 0 := rfl
    refine Tp_so ?_
    have i5159 := ti_rg (mz_gI t 5 11)
    exact ⟨ci, rfl⟩
  · have g5160 := ti_nq h5155
    have b5161 := CI_g10 ci (c := 30) (p := 4) rfl
    have l5162 : (0 : Int32).toInt = 0 := rfl
    refine Tp_so ?_
    have i5163 := ti_rg (mz_gI t 30 6)
    exact ⟨ci, rfl⟩
set_option maxRecDepth 4000 in
set_option maxHeartbeats 8000000 in
theorem s_EX_startAnew {n : Nat} {L : Int32} (hn : 8589934592 ≤ n) {t : mz_St}  (ci : CI L t)  : Tp (f_EX_startAnew n t) (fun r => CI L r) := by
  unfold f_EX_startAnew
  refine Tp_bi (s_SI_partIntoLines hn ci  (t := t)) (fun q5164 h5165 => ?_)
  have ci5166 := h5165
  refine Tp_bi (s_SK_startAnew hn ci5166  (t := q5164)) (fun q5167 h5168 => ?_)
  have ci5169 := h5168
  refine Tp_bi (s_OU_clear hn ci5169  (t := q5167)) (fun q5170 h5171 => ?_)
  have ci5172 := h5171
  have l5175 : ((0 : Int32)).toInt = 0 := rfl
  refine Tp_le (fun t5173 E5174 => ?_)
  have l5177 : (4 : Int32).toInt = 4 := rfl
  have ci5176 := CI_p5 ci5172 E5174 rfl (by omega) (by omega)
  refine Tp_le (fun t5178 E5179 => ?_)
  have ci5180 := CI_p6 ci5176 E5179 rfl (by omega) (by omega)
  refine Tp_le (fun t5181 E5182 => ?_)
  have ci5183 := CI_p0 ci5180 E5182 rfl
  refine Tp_le (fun t5184 E5185 => ?_)
  have ci5186 := CI_p0 ci5183 E5185 rfl
  have l5189 : ((-1 : Int32)).toInt = -1 := rfl
  refine Tp_le (fun t5187 E5188 => ?_)
  have ci5190 := CI_p0 ci5186 E5188 rfl
  refine Tp_le (fun t5191 E5192 => ?_)
  have ci5193 := CI_p0 ci5190 E5192 rfl
  refine Tp_le (fun t5194 E5195 => ?_)
  have ci5196 := CI_p0 ci5193 E5195 rfl
  refine Tp_so ?_
  exact ci5196
set_option maxRecDepth 4000 in
set_option maxHeartbeats 8000000 in
theorem s_EX_endRange {n : Nat} {L : Int32} (hn : 8589934592 ≤ n) {x1 : Nat} {t : mz_St}  (ci : CI L t) (i0 : mz_fr x1) : Tp (f_EX_endRange n x1 t) (fun r => CI L r.2 ∧ 0 ≤ (r.1).toInt ∧ (r.1).toInt ≤ 1) := by
  unfold f_EX_endRange
  refine Tp_gd (by omega) ?_
  refine Tp_if (fun h5197 => ?_) (fun h5197 => ?_)
  · have g5198 := ti_e h5197
    have i5199 := ti_rg (mz_gI t 7 5)
    have i5200 := ti_rg (mz_gI t x1 6)
    refine Tp_if (fun h5201 => ?_) (fun h5201 => ?_)
    · have g5202 := ti_q h5201
      have b5203 := CI_g10 ci (c := 30) (p := 4) rfl
      have l5204 : (0 : Int32).toInt = 0 := rfl
      refine Tp_so ?_
      have l5205 : ((0 : Int32)).toInt = 0 := rfl
      refine ⟨ci, ?_, ?_⟩
      · (try dsimp only) <;> first | omega | assumption
      · (try dsimp only) <;> first | omega | assumption
    · have g5206 := ti_nq h5201
      have b5207 := CI_g10 ci (c := 30) (p := 4) rfl
      have l5208 : (0 : Int32).toInt = 0 := rfl
      refine Tp_bi (s_SK_turn hn ci  (t := t)) (fun q5209 h5210 => ?_)
      have ci5211 := h5210
      refine Tp_so ?_
      have l5212 : ((1 : Int32)).toInt = 1 := rfl
      refine ⟨ci5211, ?_, ?_⟩
      · (try dsimp only) <;> first | omega | assumption
      · (try dsimp only) <;> first | omega | assumption
  · have g5213 := ti_ne h5197
    have i5214 := ti_rg (mz_gI t 7 5)
    have i5215 := ti_rg (mz_gI t x1 6)
    have l5218 : ((5 : Int32)).toInt = 5 := rfl
    refine Tp_le (fun t5216 E5217 => ?_)
    have ci5219 := CI_p0 ci E5217 rfl
    refine Tp_bi (s_CO_lineOfInnermost hn ci5219  (t := t5216)) (fun q5220 h5221 => ?_)
    obtain ⟨ci5222, E5223⟩ := h5221
    try rw [E5223]
    have i5226 := ti_rg q5220.1
    refine Tp_le (fun t5224 E5225 => ?_)
    have ci5227 := CI_p0 ci5219 E5225 rfl
    refine Tp_so ?_
    have l5228 : ((0 : Int32)).toInt = 0 := rfl
    refine ⟨ci5227, ?_, ?_⟩
    · (try dsimp only) <;> first | omega | assumption
    · (try dsimp only) <;> first | omega | assumption
set_option maxRecDepth 4000 in
set_option maxHeartbeats 8000000 in
theorem s_EX_fail {n : Nat} {L : Int32} (hn : 8589934592 ≤ n) {x1 : Int32} {t : mz_St}  (ci : CI L t)  : Tp (f_EX_fail n x1 t) (fun r => CI L r.2 ∧ (r.1).toInt = 0) := by
  unfold f_EX_fail
  have i5231 := ti_rg x1
  refine Tp_le (fun t5229 E5230 => ?_)
  have ci5232 := CI_p0 ci E5230 rfl
  refine Tp_bi (s_EX_toldLine hn ci5232  (t := t5229)) (fun q5233 h5234 => ?_)
  obtain ⟨ci5235, E5236⟩ := h5234
  try rw [E5236]
  have i5239 := ti_rg q5233.1
  refine Tp_le (fun t5237 E5238 => ?_)
  have ci5240 := CI_p0 ci5232 E5238 rfl
  refine Tp_so ?_
  have l5241 : ((0 : Int32)).toInt = 0 := rfl
  refine ⟨ci5240, ?_⟩
  · (try dsimp only) <;> first | omega | assumption
set_option maxRecDepth 4000 in
set_option maxHeartbeats 8000000 in
theorem s_EX_look {n : Nat} {L : Int32} (hn : 8589934592 ≤ n) {x1 : Nat} {t : mz_St}  (ci : CI L t) (i0 : mz_fr x1) : Tp (f_EX_look n x1 t) (fun r => CI L r.2 ∧ 0 ≤ (r.1).toInt ∧ (r.1).toInt ≤ 1) := by
  unfold f_EX_look
  refine Tp_gd (by omega) ?_
  have i5244 := ti_rg (mz_gI t x1 3)
  refine Tp_le (fun t5242 E5243 => ?_)
  have ci5245 := CI_p0 ci E5243 rfl
  refine Tp_if (fun h5246 => ?_) (fun h5246 => ?_)
  · have g5247 := ti_l h5246
    have i5248 := ti_rg (mz_gI t5242 5 9)
    have e5249 : (mz_gI t5242 5 9).toInt = (mz_gI t 5 9).toInt := by rw [E5243, gI_oth _ _ (by simp)]
    have i5250 := ti_rg (mz_gI t 5 9)
    have l5251 : ((4000 : Int32)).toInt = 4000 := rfl
    have l5254 : ((1 : Int32)).toInt = 1 := rfl
    first | (have a5255 : ((mz_gI t5242 5 9) + (1 : Int32)).toInt = (mz_gI t5242 5 9).toInt + ((1 : Int32)).toInt := ti_add (by omega) (by omega)) | (have a5256 := ti_rg ((mz_gI t5242 5 9) + (1 : Int32)))
    refine Tp_le (fun t5252 E5253 => ?_)
    have ci5257 := CI_p0 ci5245 E5253 rfl
    have i5260 := ti_rg (mz_gI t5252 x1 3)
    have e5261 : (mz_gI t5252 x1 3).toInt = (mz_gI t5242 x1 3).toInt := by rw [E5253, gI_oth _ _ (by simp)]
    have i5262 := ti_rg (mz_gI t5242 x1 3)
    have e5263 : (mz_gI t5242 x1 3).toInt = (mz_gI t x1 3).toInt := by rw [E5243, gI_oth _ _ (by simp)]
    first | (have a5264 : ((mz_gI t5252 x1 3) + (1 : Int32)).toInt = (mz_gI t5252 x1 3).toInt + ((1 : Int32)).toInt := ti_add (by omega) (by omega)) | (have a5265 := ti_rg ((mz_gI t5252 x1 3) + (1 : Int32)))
    refine Tp_le (fun t5258 E5259 => ?_)
    have ci5266 := CI_p0 ci5257 E5259 (bxK_f1 (by omega) (by decide) (by decide))
    refine Tp_so ?_
    refine ⟨ci5266, ?_, ?_⟩
    · (try dsimp only) <;> first | omega | assumption
    · (try dsimp only) <;> first | omega | assumption
  · have g5267 := ti_nl h5246
    have i5268 := ti_rg (mz_gI t5242 5 9)
    have e5269 : (mz_gI t5242 5 9).toInt = (mz_gI t 5 9).toInt := by rw [E5243, gI_oth _ _ (by simp)]
    have i5270 := ti_rg (mz_gI t 5 9)
    have l5271 : ((4000 : Int32)).toInt = 4000 := rfl
    have l5274 : ((6 : Int32)).toInt = 6 := rfl
    refine Tp_bi (s_EX_fail hn ci5245  (t := t5242) (x1 := (6 : Int32))) (fun q5272 h5273 => ?_)
    obtain ⟨ci5275, p5276⟩ := h5273
    have i5277 := ti_rg q5272.1
    refine Tp_gd (ti_b (by omega) (by omega)) ?_
    refine Tp_so ?_
    refine ⟨ci5275, ?_, ?_⟩
    · (try dsimp only) <;> first | omega | assumption
    · (try dsimp only) <;> first | omega | assumption
set_option maxRecDepth 4000 in
set_option maxHeartbeats 8000000 in
theorem s_EX_takeLine {n : Nat} {L : Int32} (hn : 8589934592 ≤ n) {t : mz_St}  (ci : CI L t)  : Tp (f_EX_takeLine n t) (fun r => CI L r.2 ∧ 0 ≤ (r.1).toInt ∧ (r.1).toInt ≤ 1) := by
  unfold f_EX_takeLine
  refine Tp_bi (s_CO_live hn ci  (t := t)) (fun q5278 h5279 => ?_)
  obtain ⟨ci5280, E5281, p5282, p5283⟩ := h5279
  try rw [E5281]
  have i5286 := ti_rg (mz_gI t 5 11)
  refine Tp_bi (s_SI_startOf hn ci  (t := t) (x1 := mz_gI t 5 11)) (fun q5284 h5285 => ?_)
  obtain ⟨ci5287, E5288, p5289, p5290⟩ := h5285
  try rw [E5288]
  have i5293 := ti_rg q5284.1
  refine Tp_le (fun t5291 E5292 => ?_)
  have l5295 : (12 : Int32).toInt = 12 := rfl
  have ci5294 := CI_p14 ci E5292 rfl (by omega) (by omega)
  have i5298 := ti_rg (mz_gI t5291 5 11)
  have e5299 : (mz_gI t5291 5 11).toInt = (mz_gI t 5 11).toInt := by rw [E5292, gI_oth _ _ (by simp)]
  refine Tp_bi (s_SI_stopOf hn ci5294  (t := t5291) (x1 := mz_gI t5291 5 11)) (fun q5296 h5297 => ?_)
  obtain ⟨ci5300, E5301, p5302, p5303⟩ := h5297
  try rw [E5301]
  have i5306 := ti_rg q5296.1
  refine Tp_le (fun t5304 E5305 => ?_)
  have l5308 : (13 : Int32).toInt = 13 := rfl
  have ci5307 := CI_p14 ci5294 E5305 rfl (by omega) (by omega)
  have b5311 := CI_g14 ci5307 (c := 5) (p := 12) rfl
  have e5312 : (mz_gI t5304 5 12).toInt = (mz_gI t5291 5 12).toInt := by rw [E5305, gI_oth _ _ (by simp)]
  have b5313 := CI_g14 ci5294 (c := 5) (p := 12) rfl
  have e5314 : (mz_gI t5291 5 12).toInt = (q5284.1).toInt := by rw [E5292, gI_same]
  have b5315 := CI_g14 ci5307 (c := 5) (p := 13) rfl
  have e5316 : (mz_gI t5304 5 13).toInt = (q5296.1).toInt := by rw [E5305, gI_same]
  refine Tp_bi (s_DI_of hn ci5307  (t := t5304) (x1 := mz_gI t5304 5 12) (x2 := mz_gI t5304 5 13)) (fun q5309 h5310 => ?_)
  obtain ⟨ci5317, E5318, p5319, p5320⟩ := h5310
  try rw [E5318]
  have i5323 := ti_rg q5309.1
  refine Tp_le (fun t5321 E5322 => ?_)
  have l5325 : (14 : Int32).toInt = 14 := rfl
  have ci5324 := CI_p3 ci5307 E5322 rfl (by omega) (by omega)
  refine Tp_if (fun h5326 => ?_) (fun h5326 => ?_)
  · have g5327 := ti_q h5326
    have i5328 := ti_rg q5278.1
    have l5329 : (0 : Int32).toInt = 0 := rfl
    have b5330 := CI_g3 ci5324 (c := 5) (p := 14) rfl
    have e5331 : (mz_gI t5321 5 14).toInt = (q5309.1).toInt := by rw [E5322, gI_same]
    refine Tp_gd ⟨ti_c16 (by decide) (by omega), by decide⟩ ?_
    refine Tp_if (fun h5332 => ?_) (fun h5332 => ?_)
    · skip
      refine Tp_bi (s_CO_waits hn ci5324  (t := t5321)) (fun q5333 h5334 => ?_)
      obtain ⟨ci5335, E5336, p5337, p5338⟩ := h5334
      try rw [E5336]
      refine Tp_if (fun h5339 => ?_) (fun h5339 => ?_)
      · have g5340 := ti_q h5339
        have i5341 := ti_rg q5333.1
        unfold f_EX_takeLine_85
        unfold f_EX_takeLine_86
        refine Tp_if (fun h5342 => ?_) (fun h5342 => ?_)
        · have g5343 := ti_q h5342
          have b5344 := CI_g10 ci5324 (c := 30) (p := 4) rfl
          have e5345 : (mz_gI t5321 30 4).toInt = (mz_gI t5304 30 4).toInt := by rw [E5322, gI_oth _ _ (by simp)]
          have b5346 := CI_g10 ci5307 (c := 30) (p := 4) rfl
          have e5347 : (mz_gI t5304 30 4).toInt = (mz_gI t5291 30 4).toInt := by rw [E5305, gI_oth _ _ (by simp)]
          have b5348 := CI_g10 ci5294 (c := 30) (p := 4) rfl
          have e5349 : (mz_gI t5291 30 4).toInt = (mz_gI t 30 4).toInt := by rw [E5292, gI_oth _ _ (by simp)]
          have b5350 := CI_g10 ci (c := 30) (p := 4) rfl
          refine Tp_so ?_
          have l5351 : ((1 : Int32)).toInt = 1 := rfl
          refine ⟨ci5324, ?_, ?_⟩
          · (try dsimp only) <;> first | omega | assumption
          · (try dsimp only) <;> first | omega | assumption
        · have g5352 := ti_nq h5342
          have b5353 := CI_g10 ci5324 (c := 30) (p := 4) rfl
          have e5354 : (mz_gI t5321 30 4).toInt = (mz_gI t5304 30 4).toInt := by rw [E5322, gI_oth _ _ (by simp)]
          have b5355 := CI_g10 ci5307 (c := 30) (p := 4) rfl
          have e5356 : (mz_gI t5304 30 4).toInt = (mz_gI t5291 30 4).toInt := by rw [E5305, gI_oth _ _ (by simp)]
          have b5357 := CI_g10 ci5294 (c := 30) (p := 4) rfl
          have e5358 : (mz_gI t5291 30 4).toInt = (mz_gI t 30 4).toInt := by rw [E5292, gI_oth _ _ (by simp)]
          have b5359 := CI_g10 ci (c := 30) (p := 4) rfl
          refine Tp_if (fun h5360 => ?_) (fun h5360 => ?_)
          · have g5361 := ti_q h5360
            have l5362 : ((0 : Int32)).toInt = 0 := rfl
            refine Tp_so ?_
            have l5363 : ((1 : Int32)).toInt = 1 := rfl
            refine ⟨ci5324, ?_, ?_⟩
            · (try dsimp only) <;> first | omega | assumption
            · (try dsimp only) <;> first | omega | assumption
          · have g5364 := ti_nq h5360
            have l5365 : ((0 : Int32)).toInt = 0 := rfl
            have b5368 := CI_g14 ci5324 (c := 5) (p := 12) rfl
            have e5369 : (mz_gI t5321 5 12).toInt = (mz_gI t5304 5 12).toInt := by rw [E5322, gI_oth _ _ (by simp)]
            have b5370 := CI_g14 ci5324 (c := 5) (p := 13) rfl
            have e5371 : (mz_gI t5321 5 13).toInt = (mz_gI t5304 5 13).toInt := by rw [E5322, gI_oth _ _ (by simp)]
            refine Tp_bi (s_SK_replace hn ci5324 (by omega) (by omega) (by omega) (by omega) (t := t5321) (x1 := mz_gI t5321 5 12) (x2 := mz_gI t5321 5 13)) (fun q5366 h5367 => ?_)
            obtain ⟨ci5372, p5373⟩ := h5367
            have b5374 := CI_g11 ci5372 (c := 30) (p := 8) rfl
            have b5375 := CI_g11 ci5324 (c := 30) (p := 8) rfl
            have e5376 : (mz_gI t5321 30 8).toInt = (mz_gI t5304 30 8).toInt := by rw [E5322, gI_oth _ _ (by simp)]
            have b5377 := CI_g11 ci5307 (c := 30) (p := 8) rfl
            have e5378 : (mz_gI t5304 30 8).toInt = (mz_gI t5291 30 8).toInt := by rw [E5305, gI_oth _ _ (by simp)]
            have b5379 := CI_g11 ci5294 (c := 30) (p := 8) rfl
            have e5380 : (mz_gI t5291 30 8).toInt = (mz_gI t 30 8).toInt := by rw [E5292, gI_oth _ _ (by simp)]
            have b5381 := CI_g11 ci (c := 30) (p := 8) rfl
            refine Tp_if (fun h5382 => ?_) (fun h5382 => ?_)
            · have g5383 := ti_q h5382
              have i5384 := ti_rg q5366.1
              have b5387 := CI_g12 ci5372 (c := 30) (p := 7) rfl
              refine Tp_bi (s_SI_behindBlanks hn ci5372  (t := q5366.2) (x1 := mz_gI q5366.2 30 7) (x2 := mz_gI q5366.2 30 8)) (fun q5385 h5386 => ?_)
              obtain ⟨ci5388, E5389, p5390, p5391⟩ := h5386
              try rw [E5389]
              have i5394 := ti_rg q5385.1
              refine Tp_le (fun t5392 E5393 => ?_)
              have ci5395 := CI_p14 ci5372 E5393 rfl (by omega) (by omega)
              have b5398 := CI_g14 ci5395 (c := 5) (p := 12) rfl
              have e5399 : (mz_gI t5392 5 12).toInt = (q5385.1).toInt := by rw [E5393, gI_same]
              have b5400 := CI_g11 ci5395 (c := 30) (p := 8) rfl
              have e5401 : (mz_gI t5392 30 8).toInt = (mz_gI q5366.2 30 8).toInt := by rw [E5393, gI_oth _ _ (by simp)]
              refine Tp_bi (s_SI_aheadOfBlanks hn ci5395  (t := t5392) (x1 := mz_gI t5392 5 12) (x2 := mz_gI t5392 30 8)) (fun q5396 h5397 => ?_)
              obtain ⟨ci5402, E5403, p5404, p5405⟩ := h5397
              try rw [E5403]
              have i5408 := ti_rg q5396.1
              refine Tp_le (fun t5406 E5407 => ?_)
              have ci5409 := CI_p14 ci5395 E5407 rfl (by omega) (by omega)
              refine Tp_if (fun h5410 => ?_) (fun h5410 => ?_)
              · have g5411 := ti_q h5410
                refine Tp_so ?_
                have l5412 : ((1 : Int32)).toInt = 1 := rfl
                refine ⟨ci5409, ?_, ?_⟩
                · (try dsimp only) <;> first | omega | assumption
                · (try dsimp only) <;> first | omega | assumption
              · have g5413 := ti_nq h5410
                have b5416 := CI_g14 ci5409 (c := 5) (p := 12) rfl
                have e5417 : (mz_gI t5406 5 12).toInt = (mz_gI t5392 5 12).toInt := by rw [E5407, gI_oth _ _ (by simp)]
                have b5418 := CI_g14 ci5409 (c := 5) (p := 13) rfl
                have e5419 : (mz_gI t5406 5 13).toInt = (q5396.1).toInt := by rw [E5407, gI_same]
                refine Tp_bi (s_DI_of hn ci5409  (t := t5406) (x1 := mz_gI t5406 5 12) (x2 := mz_gI t5406 5 13)) (fun q5414 h5415 => ?_)
                obtain ⟨ci5420, E5421, p5422, p5423⟩ := h5415
                try rw [E5421]
                have i5426 := ti_rg q5414.1
                refine Tp_le (fun t5424 E5425 => ?_)
                have ci5427 := CI_p3 ci5409 E5425 rfl (by omega) (by omega)
                refine Tp_so ?_
                have l5428 : ((1 : Int32)).toInt = 1 := rfl
                refine ⟨ci5427, ?_, ?_⟩
                · (try dsimp only) <;> first | omega | assumption
                · (try dsimp only) <;> first | omega | assumption
            · have g5429 := ti_nq h5382
              have i5430 := ti_rg q5366.1
              refine Tp_bi (s_EX_fail hn ci5372  (t := q5366.2) (x1 := q5366.1)) (fun q5431 h5432 => ?_)
              obtain ⟨ci5433, p5434⟩ := h5432
              have i5435 := ti_rg q5431.1
              refine Tp_gd (ti_b (by omega) (by omega)) ?_
              refine Tp_so ?_
              refine ⟨ci5433, ?_, ?_⟩
              · (try dsimp only) <;> first | omega | assumption
              · (try dsimp only) <;> first | omega | assumption
      · have g5436 := ti_nq h5339
        have i5437 := ti_rg q5333.1
        unfold f_EX_takeLine_81
        unfold f_EX_takeLine_86
        refine Tp_if (fun h5438 => ?_) (fun h5438 => ?_)
        · have g5439 := ti_q h5438
          have b5440 := CI_g10 ci5324 (c := 30) (p := 4) rfl
          have e5441 : (mz_gI t5321 30 4).toInt = (mz_gI t5304 30 4).toInt := by rw [E5322, gI_oth _ _ (by simp)]
          have b5442 := CI_g10 ci5307 (c := 30) (p := 4) rfl
          have e5443 : (mz_gI t5304 30 4).toInt = (mz_gI t5291 30 4).toInt := by rw [E5305, gI_oth _ _ (by simp)]
          have b5444 := CI_g10 ci5294 (c := 30) (p := 4) rfl
          have e5445 : (mz_gI t5291 30 4).toInt = (mz_gI t 30 4).toInt := by rw [E5292, gI_oth _ _ (by simp)]
          have b5446 := CI_g10 ci (c := 30) (p := 4) rfl
          refine Tp_so ?_
          have l5447 : ((1 : Int32)).toInt = 1 := rfl
          refine ⟨ci5324, ?_, ?_⟩
          · (try dsimp only) <;> first | omega | assumption
          · (try dsimp only) <;> first | omega | assumption
        · have g5448 := ti_nq h5438
          have b5449 := CI_g10 ci5324 (c := 30) (p := 4) rfl
          have e5450 : (mz_gI t5321 30 4).toInt = (mz_gI t5304 30 4).toInt := by rw [E5322, gI_oth _ _ (by simp)]
          have b5451 := CI_g10 ci5307 (c := 30) (p := 4) rfl
          have e5452 : (mz_gI t5304 30 4).toInt = (mz_gI t5291 30 4).toInt := by rw [E5305, gI_oth _ _ (by simp)]
          have b5453 := CI_g10 ci5294 (c := 30) (p := 4) rfl
          have e5454 : (mz_gI t5291 30 4).toInt = (mz_gI t 30 4).toInt := by rw [E5292, gI_oth _ _ (by simp)]
          have b5455 := CI_g10 ci (c := 30) (p := 4) rfl
          refine Tp_if (fun h5456 => ?_) (fun h5456 => ?_)
          · have g5457 := ti_q h5456
            have l5458 : ((1 : Int32)).toInt = 1 := rfl
            refine Tp_so ?_
            refine ⟨ci5324, ?_, ?_⟩
            · (try dsimp only) <;> first | omega | assumption
            · (try dsimp only) <;> first | omega | assumption
          · have g5459 := ti_nq h5456
            have l5460 : ((1 : Int32)).toInt = 1 := rfl
            have b5463 := CI_g14 ci5324 (c := 5) (p := 12) rfl
            have e5464 : (mz_gI t5321 5 12).toInt = (mz_gI t5304 5 12).toInt := by rw [E5322, gI_oth _ _ (by simp)]
            have b5465 := CI_g14 ci5324 (c := 5) (p := 13) rfl
            have e5466 : (mz_gI t5321 5 13).toInt = (mz_gI t5304 5 13).toInt := by rw [E5322, gI_oth _ _ (by simp)]
            refine Tp_bi (s_SK_replace hn ci5324 (by omega) (by omega) (by omega) (by omega) (t := t5321) (x1 := mz_gI t5321 5 12) (x2 := mz_gI t5321 5 13)) (fun q5461 h5462 => ?_)
            obtain ⟨ci5467, p5468⟩ := h5462
            have b5469 := CI_g11 ci5467 (c := 30) (p := 8) rfl
            have b5470 := CI_g11 ci5324 (c := 30) (p := 8) rfl
            have e5471 : (mz_gI t5321 30 8).toInt = (mz_gI t5304 30 8).toInt := by rw [E5322, gI_oth _ _ (by simp)]
            have b5472 := CI_g11 ci5307 (c := 30) (p := 8) rfl
            have e5473 : (mz_gI t5304 30 8).toInt = (mz_gI t5291 30 8).toInt := by rw [E5305, gI_oth _ _ (by simp)]
            have b5474 := CI_g11 ci5294 (c := 30) (p := 8) rfl
            have e5475 : (mz_gI t5291 30 8).toInt = (mz_gI t 30 8).toInt := by rw [E5292, gI_oth _ _ (by simp)]
            have b5476 := CI_g11 ci (c := 30) (p := 8) rfl
            refine Tp_if (fun h5477 => ?_) (fun h5477 => ?_)
            · have g5478 := ti_q h5477
              have i5479 := ti_rg q5461.1
              have b5482 := CI_g12 ci5467 (c := 30) (p := 7) rfl
              refine Tp_bi (s_SI_behindBlanks hn ci5467  (t := q5461.2) (x1 := mz_gI q5461.2 30 7) (x2 := mz_gI q5461.2 30 8)) (fun q5480 h5481 => ?_)
              obtain ⟨ci5483, E5484, p5485, p5486⟩ := h5481
              try rw [E5484]
              have i5489 := ti_rg q5480.1
              refine Tp_le (fun t5487 E5488 => ?_)
              have ci5490 := CI_p14 ci5467 E5488 rfl (by omega) (by omega)
              have b5493 := CI_g14 ci5490 (c := 5) (p := 12) rfl
              have e5494 : (mz_gI t5487 5 12).toInt = (q5480.1).toInt := by rw [E5488, gI_same]
              have b5495 := CI_g11 ci5490 (c := 30) (p := 8) rfl
              have e5496 : (mz_gI t5487 30 8).toInt = (mz_gI q5461.2 30 8).toInt := by rw [E5488, gI_oth _ _ (by simp)]
              refine Tp_bi (s_SI_aheadOfBlanks hn ci5490  (t := t5487) (x1 := mz_gI t5487 5 12) (x2 := mz_gI t5487 30 8)) (fun q5491 h5492 => ?_)
              obtain ⟨ci5497, E5498, p5499, p5500⟩ := h5492
              try rw [E5498]
              have i5503 := ti_rg q5491.1
              refine Tp_le (fun t5501 E5502 => ?_)
              have ci5504 := CI_p14 ci5490 E5502 rfl (by omega) (by omega)
              refine Tp_if (fun h5505 => ?_) (fun h5505 => ?_)
              · have g5506 := ti_q h5505
                refine Tp_so ?_
                refine ⟨ci5504, ?_, ?_⟩
                · (try dsimp only) <;> first | omega | assumption
                · (try dsimp only) <;> first | omega | assumption
              · have g5507 := ti_nq h5505
                have b5510 := CI_g14 ci5504 (c := 5) (p := 12) rfl
                have e5511 : (mz_gI t5501 5 12).toInt = (mz_gI t5487 5 12).toInt := by rw [E5502, gI_oth _ _ (by simp)]
                have b5512 := CI_g14 ci5504 (c := 5) (p := 13) rfl
                have e5513 : (mz_gI t5501 5 13).toInt = (q5491.1).toInt := by rw [E5502, gI_same]
                refine Tp_bi (s_DI_of hn ci5504  (t := t5501) (x1 := mz_gI t5501 5 12) (x2 := mz_gI t5501 5 13)) (fun q5508 h5509 => ?_)
                obtain ⟨ci5514, E5515, p5516, p5517⟩ := h5509
                try rw [E5515]
                have i5520 := ti_rg q5508.1
                refine Tp_le (fun t5518 E5519 => ?_)
                have ci5521 := CI_p3 ci5504 E5519 rfl (by omega) (by omega)
                refine Tp_so ?_
                refine ⟨ci5521, ?_, ?_⟩
                · (try dsimp only) <;> first | omega | assumption
                · (try dsimp only) <;> first | omega | assumption
            · have g5522 := ti_nq h5477
              have i5523 := ti_rg q5461.1
              refine Tp_bi (s_EX_fail hn ci5467  (t := q5461.2) (x1 := q5461.1)) (fun q5524 h5525 => ?_)
              obtain ⟨ci5526, p5527⟩ := h5525
              have i5528 := ti_rg q5524.1
              refine Tp_gd (ti_b (by omega) (by omega)) ?_
              refine Tp_so ?_
              refine ⟨ci5526, ?_, ?_⟩
              · (try dsimp only) <;> first | omega | assumption
              · (try dsimp only) <;> first | omega | assumption
    · skip
      unfold f_EX_takeLine_85
      unfold f_EX_takeLine_86
      refine Tp_if (fun h5529 => ?_) (fun h5529 => ?_)
      · have g5530 := ti_q h5529
        have b5531 := CI_g10 ci5324 (c := 30) (p := 4) rfl
        have e5532 : (mz_gI t5321 30 4).toInt = (mz_gI t5304 30 4).toInt := by rw [E5322, gI_oth _ _ (by simp)]
        have b5533 := CI_g10 ci5307 (c := 30) (p := 4) rfl
        have e5534 : (mz_gI t5304 30 4).toInt = (mz_gI t5291 30 4).toInt := by rw [E5305, gI_oth _ _ (by simp)]
        have b5535 := CI_g10 ci5294 (c := 30) (p := 4) rfl
        have e5536 : (mz_gI t5291 30 4).toInt = (mz_gI t 30 4).toInt := by rw [E5292, gI_oth _ _ (by simp)]
        have b5537 := CI_g10 ci (c := 30) (p := 4) rfl
        refine Tp_so ?_
        have l5538 : ((1 : Int32)).toInt = 1 := rfl
        refine ⟨ci5324, ?_, ?_⟩
        · (try dsimp only) <;> first | omega | assumption
        · (try dsimp only) <;> first | omega | assumption
      · have g5539 := ti_nq h5529
        have b5540 := CI_g10 ci5324 (c := 30) (p := 4) rfl
        have e5541 : (mz_gI t5321 30 4).toInt = (mz_gI t5304 30 4).toInt := by rw [E5322, gI_oth _ _ (by simp)]
        have b5542 := CI_g10 ci5307 (c := 30) (p := 4) rfl
        have e5543 : (mz_gI t5304 30 4).toInt = (mz_gI t5291 30 4).toInt := by rw [E5305, gI_oth _ _ (by simp)]
        have b5544 := CI_g10 ci5294 (c := 30) (p := 4) rfl
        have e5545 : (mz_gI t5291 30 4).toInt = (mz_gI t 30 4).toInt := by rw [E5292, gI_oth _ _ (by simp)]
        have b5546 := CI_g10 ci (c := 30) (p := 4) rfl
        refine Tp_if (fun h5547 => ?_) (fun h5547 => ?_)
        · have g5548 := ti_q h5547
          have l5549 : ((0 : Int32)).toInt = 0 := rfl
          refine Tp_so ?_
          have l5550 : ((1 : Int32)).toInt = 1 := rfl
          refine ⟨ci5324, ?_, ?_⟩
          · (try dsimp only) <;> first | omega | assumption
          · (try dsimp only) <;> first | omega | assumption
        · have g5551 := ti_nq h5547
          have l5552 : ((0 : Int32)).toInt = 0 := rfl
          have b5555 := CI_g14 ci5324 (c := 5) (p := 12) rfl
          have e5556 : (mz_gI t5321 5 12).toInt = (mz_gI t5304 5 12).toInt := by rw [E5322, gI_oth _ _ (by simp)]
          have b5557 := CI_g14 ci5324 (c := 5) (p := 13) rfl
          have e5558 : (mz_gI t5321 5 13).toInt = (mz_gI t5304 5 13).toInt := by rw [E5322, gI_oth _ _ (by simp)]
          refine Tp_bi (s_SK_replace hn ci5324 (by omega) (by omega) (by omega) (by omega) (t := t5321) (x1 := mz_gI t5321 5 12) (x2 := mz_gI t5321 5 13)) (fun q5553 h5554 => ?_)
          obtain ⟨ci5559, p5560⟩ := h5554
          have b5561 := CI_g11 ci5559 (c := 30) (p := 8) rfl
          have b5562 := CI_g11 ci5324 (c := 30) (p := 8) rfl
          have e5563 : (mz_gI t5321 30 8).toInt = (mz_gI t5304 30 8).toInt := by rw [E5322, gI_oth _ _ (by simp)]
          have b5564 := CI_g11 ci5307 (c := 30) (p := 8) rfl
          have e5565 : (mz_gI t5304 30 8).toInt = (mz_gI t5291 30 8).toInt := by rw [E5305, gI_oth _ _ (by simp)]
          have b5566 := CI_g11 ci5294 (c := 30) (p := 8) rfl
          have e5567 : (mz_gI t5291 30 8).toInt = (mz_gI t 30 8).toInt := by rw [E5292, gI_oth _ _ (by simp)]
          have b5568 := CI_g11 ci (c := 30) (p := 8) rfl
          refine Tp_if (fun h5569 => ?_) (fun h5569 => ?_)
          · have g5570 := ti_q h5569
            have i5571 := ti_rg q5553.1
            have b5574 := CI_g12 ci5559 (c := 30) (p := 7) rfl
            refine Tp_bi (s_SI_behindBlanks hn ci5559  (t := q5553.2) (x1 := mz_gI q5553.2 30 7) (x2 := mz_gI q5553.2 30 8)) (fun q5572 h5573 => ?_)
            obtain ⟨ci5575, E5576, p5577, p5578⟩ := h5573
            try rw [E5576]
            have i5581 := ti_rg q5572.1
            refine Tp_le (fun t5579 E5580 => ?_)
            have ci5582 := CI_p14 ci5559 E5580 rfl (by omega) (by omega)
            have b5585 := CI_g14 ci5582 (c := 5) (p := 12) rfl
            have e5586 : (mz_gI t5579 5 12).toInt = (q5572.1).toInt := by rw [E5580, gI_same]
            have b5587 := CI_g11 ci5582 (c := 30) (p := 8) rfl
            have e5588 : (mz_gI t5579 30 8).toInt = (mz_gI q5553.2 30 8).toInt := by rw [E5580, gI_oth _ _ (by simp)]
            refine Tp_bi (s_SI_aheadOfBlanks hn ci5582  (t := t5579) (x1 := mz_gI t5579 5 12) (x2 := mz_gI t5579 30 8)) (fun q5583 h5584 => ?_)
            obtain ⟨ci5589, E5590, p5591, p5592⟩ := h5584
            try rw [E5590]
            have i5595 := ti_rg q5583.1
            refine Tp_le (fun t5593 E5594 => ?_)
            have ci5596 := CI_p14 ci5582 E5594 rfl (by omega) (by omega)
            refine Tp_if (fun h5597 => ?_) (fun h5597 => ?_)
            · have g5598 := ti_q h5597
              refine Tp_so ?_
              have l5599 : ((1 : Int32)).toInt = 1 := rfl
              refine ⟨ci5596, ?_, ?_⟩
              · (try dsimp only) <;> first | omega | assumption
              · (try dsimp only) <;> first | omega | assumption
            · have g5600 := ti_nq h5597
              have b5603 := CI_g14 ci5596 (c := 5) (p := 12) rfl
              have e5604 : (mz_gI t5593 5 12).toInt = (mz_gI t5579 5 12).toInt := by rw [E5594, gI_oth _ _ (by simp)]
              have b5605 := CI_g14 ci5596 (c := 5) (p := 13) rfl
              have e5606 : (mz_gI t5593 5 13).toInt = (q5583.1).toInt := by rw [E5594, gI_same]
              refine Tp_bi (s_DI_of hn ci5596  (t := t5593) (x1 := mz_gI t5593 5 12) (x2 := mz_gI t5593 5 13)) (fun q5601 h5602 => ?_)
              obtain ⟨ci5607, E5608, p5609, p5610⟩ := h5602
              try rw [E5608]
              have i5613 := ti_rg q5601.1
              refine Tp_le (fun t5611 E5612 => ?_)
              have ci5614 := CI_p3 ci5596 E5612 rfl (by omega) (by omega)
              refine Tp_so ?_
              have l5615 : ((1 : Int32)).toInt = 1 := rfl
              refine ⟨ci5614, ?_, ?_⟩
              · (try dsimp only) <;> first | omega | assumption
              · (try dsimp only) <;> first | omega | assumption
          · have g5616 := ti_nq h5569
            have i5617 := ti_rg q5553.1
            refine Tp_bi (s_EX_fail hn ci5559  (t := q5553.2) (x1 := q5553.1)) (fun q5618 h5619 => ?_)
            obtain ⟨ci5620, p5621⟩ := h5619
            have i5622 := ti_rg q5618.1
            refine Tp_gd (ti_b (by omega) (by omega)) ?_
            refine Tp_so ?_
            refine ⟨ci5620, ?_, ?_⟩
            · (try dsimp only) <;> first | omega | assumption
            · (try dsimp only) <;> first | omega | assumption
  · have g5623 := ti_nq h5326
    have i5624 := ti_rg q5278.1
    have l5625 : (0 : Int32).toInt = 0 := rfl
    unfold f_EX_takeLine_81
    unfold f_EX_takeLine_86
    refine Tp_if (fun h5626 => ?_) (fun h5626 => ?_)
    · have g5627 := ti_q h5626
      have b5628 := CI_g10 ci5324 (c := 30) (p := 4) rfl
      have e5629 : (mz_gI t5321 30 4).toInt = (mz_gI t5304 30 4).toInt := by rw [E5322, gI_oth _ _ (by simp)]
      have b5630 := CI_g10 ci5307 (c := 30) (p := 4) rfl
      have e5631 : (mz_gI t5304 30 4).toInt = (mz_gI t5291 30 4).toInt := by rw [E5305, gI_oth _ _ (by simp)]
      have b5632 := CI_g10 ci5294 (c := 30) (p := 4) rfl
      have e5633 : (mz_gI t5291 30 4).toInt = (mz_gI t 30 4).toInt := by rw [E5292, gI_oth _ _ (by simp)]
      have b5634 := CI_g10 ci (c := 30) (p := 4) rfl
      refine Tp_so ?_
      have l5635 : ((1 : Int32)).toInt = 1 := rfl
      refine ⟨ci5324, ?_, ?_⟩
      · (try dsimp only) <;> first | omega | assumption
      · (try dsimp only) <;> first | omega | assumption
    · have g5636 := ti_nq h5626
      have b5637 := CI_g10 ci5324 (c := 30) (p := 4) rfl
      have e5638 : (mz_gI t5321 30 4).toInt = (mz_gI t5304 30 4).toInt := by rw [E5322, gI_oth _ _ (by simp)]
      have b5639 := CI_g10 ci5307 (c := 30) (p := 4) rfl
      have e5640 : (mz_gI t5304 30 4).toInt = (mz_gI t5291 30 4).toInt := by rw [E5305, gI_oth _ _ (by simp)]
      have b5641 := CI_g10 ci5294 (c := 30) (p := 4) rfl
      have e5642 : (mz_gI t5291 30 4).toInt = (mz_gI t 30 4).toInt := by rw [E5292, gI_oth _ _ (by simp)]
      have b5643 := CI_g10 ci (c := 30) (p := 4) rfl
      refine Tp_if (fun h5644 => ?_) (fun h5644 => ?_)
      · have g5645 := ti_q h5644
        have l5646 : ((1 : Int32)).toInt = 1 := rfl
        refine Tp_so ?_
        refine ⟨ci5324, ?_, ?_⟩
        · (try dsimp only) <;> first | omega | assumption
        · (try dsimp only) <;> first | omega | assumption
      · have g5647 := ti_nq h5644
        have l5648 : ((1 : Int32)).toInt = 1 := rfl
        have b5651 := CI_g14 ci5324 (c := 5) (p := 12) rfl
        have e5652 : (mz_gI t5321 5 12).toInt = (mz_gI t5304 5 12).toInt := by rw [E5322, gI_oth _ _ (by simp)]
        have b5653 := CI_g14 ci5324 (c := 5) (p := 13) rfl
        have e5654 : (mz_gI t5321 5 13).toInt = (mz_gI t5304 5 13).toInt := by rw [E5322, gI_oth _ _ (by simp)]
        refine Tp_bi (s_SK_replace hn ci5324 (by omega) (by omega) (by omega) (by omega) (t := t5321) (x1 := mz_gI t5321 5 12) (x2 := mz_gI t5321 5 13)) (fun q5649 h5650 => ?_)
        obtain ⟨ci5655, p5656⟩ := h5650
        have b5657 := CI_g11 ci5655 (c := 30) (p := 8) rfl
        have b5658 := CI_g11 ci5324 (c := 30) (p := 8) rfl
        have e5659 : (mz_gI t5321 30 8).toInt = (mz_gI t5304 30 8).toInt := by rw [E5322, gI_oth _ _ (by simp)]
        have b5660 := CI_g11 ci5307 (c := 30) (p := 8) rfl
        have e5661 : (mz_gI t5304 30 8).toInt = (mz_gI t5291 30 8).toInt := by rw [E5305, gI_oth _ _ (by simp)]
        have b5662 := CI_g11 ci5294 (c := 30) (p := 8) rfl
        have e5663 : (mz_gI t5291 30 8).toInt = (mz_gI t 30 8).toInt := by rw [E5292, gI_oth _ _ (by simp)]
        have b5664 := CI_g11 ci (c := 30) (p := 8) rfl
        refine Tp_if (fun h5665 => ?_) (fun h5665 => ?_)
        · have g5666 := ti_q h5665
          have i5667 := ti_rg q5649.1
          have b5670 := CI_g12 ci5655 (c := 30) (p := 7) rfl
          refine Tp_bi (s_SI_behindBlanks hn ci5655  (t := q5649.2) (x1 := mz_gI q5649.2 30 7) (x2 := mz_gI q5649.2 30 8)) (fun q5668 h5669 => ?_)
          obtain ⟨ci5671, E5672, p5673, p5674⟩ := h5669
          try rw [E5672]
          have i5677 := ti_rg q5668.1
          refine Tp_le (fun t5675 E5676 => ?_)
          have ci5678 := CI_p14 ci5655 E5676 rfl (by omega) (by omega)
          have b5681 := CI_g14 ci5678 (c := 5) (p := 12) rfl
          have e5682 : (mz_gI t5675 5 12).toInt = (q5668.1).toInt := by rw [E5676, gI_same]
          have b5683 := CI_g11 ci5678 (c := 30) (p := 8) rfl
          have e5684 : (mz_gI t5675 30 8).toInt = (mz_gI q5649.2 30 8).toInt := by rw [E5676, gI_oth _ _ (by simp)]
          refine Tp_bi (s_SI_aheadOfBlanks hn ci5678  (t := t5675) (x1 := mz_gI t5675 5 12) (x2 := mz_gI t5675 30 8)) (fun q5679 h5680 => ?_)
          obtain ⟨ci5685, E5686, p5687, p5688⟩ := h5680
          try rw [E5686]
          have i5691 := ti_rg q5679.1
          refine Tp_le (fun t5689 E5690 => ?_)
          have ci5692 := CI_p14 ci5678 E5690 rfl (by omega) (by omega)
          refine Tp_if (fun h5693 => ?_) (fun h5693 => ?_)
          · have g5694 := ti_q h5693
            refine Tp_so ?_
            refine ⟨ci5692, ?_, ?_⟩
            · (try dsimp only) <;> first | omega | assumption
            · (try dsimp only) <;> first | omega | assumption
          · have g5695 := ti_nq h5693
            have b5698 := CI_g14 ci5692 (c := 5) (p := 12) rfl
            have e5699 : (mz_gI t5689 5 12).toInt = (mz_gI t5675 5 12).toInt := by rw [E5690, gI_oth _ _ (by simp)]
            have b5700 := CI_g14 ci5692 (c := 5) (p := 13) rfl
            have e5701 : (mz_gI t5689 5 13).toInt = (q5679.1).toInt := by rw [E5690, gI_same]
            refine Tp_bi (s_DI_of hn ci5692  (t := t5689) (x1 := mz_gI t5689 5 12) (x2 := mz_gI t5689 5 13)) (fun q5696 h5697 => ?_)
            obtain ⟨ci5702, E5703, p5704, p5705⟩ := h5697
            try rw [E5703]
            have i5708 := ti_rg q5696.1
            refine Tp_le (fun t5706 E5707 => ?_)
            have ci5709 := CI_p3 ci5692 E5707 rfl (by omega) (by omega)
            refine Tp_so ?_
            refine ⟨ci5709, ?_, ?_⟩
            · (try dsimp only) <;> first | omega | assumption
            · (try dsimp only) <;> first | omega | assumption
        · have g5710 := ti_nq h5665
          have i5711 := ti_rg q5649.1
          refine Tp_bi (s_EX_fail hn ci5655  (t := q5649.2) (x1 := q5649.1)) (fun q5712 h5713 => ?_)
          obtain ⟨ci5714, p5715⟩ := h5713
          have i5716 := ti_rg q5712.1
          refine Tp_gd (ti_b (by omega) (by omega)) ?_
          refine Tp_so ?_
          refine ⟨ci5714, ?_, ?_⟩
          · (try dsimp only) <;> first | omega | assumption
          · (try dsimp only) <;> first | omega | assumption
