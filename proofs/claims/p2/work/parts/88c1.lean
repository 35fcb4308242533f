/-! TOTAL: written by vcg.py -/
set_option maxRecDepth 4000 in
set_option maxHeartbeats 8000000 in
theorem s_NA_is_c {n : Nat} {L : Int32} (hn : 8589934592 ≤ n) {x1 : Int32} {x2 : Int32} {x3 : Int32} {t : mz_St}  (ci : CI L t) (i0 : 0 ≤ x1.toInt) (i1 : x1.toInt ≤ 100) : Tp (f_NA_is_c n x1 x2 x3 t) (fun r => CI L r.2 ∧ r.2 = t ∧ 0 ≤ (r.1).toInt ∧ (r.1).toInt ≤ 1) := by
  unfold f_NA_is_c
  have i791 := ti_rg x1
  refine Tp_bi (s_NA_lengthOf_c hn ci  (t := t) (x1 := x1)) (fun q789 h790 => ?_)
  obtain ⟨ci792, E793, p794, p795⟩ := h790
  try rw [E793]
  refine Tp_if (fun h796 => ?_) (fun h796 => ?_)
  · have g797 := ti_q h796
    have i798 := ti_rg q789.1
    have i799 := ti_rg x3
    have i800 := ti_rg x2
    first | (have a801 : (x3 - x2).toInt = (x3).toInt - (x2).toInt := ti_sub (by omega) (by omega)) | (have a802 := ti_rg (x3 - x2))
    refine Tp_if (fun h803 => ?_) (fun h803 => ?_)
    · have g804 := ti_l h803
      have l805 : ((12 : Int32)).toInt = 12 := rfl
      first | (have a806 : (x1 * (12 : Int32)).toInt = (x1).toInt * 12 := ti_mulr rfl (by omega) (by omega)) | (have a807 := ti_rg (x1 * (12 : Int32)))
      have l808 : (0 : Int32).toInt = 0 := rfl
      refine Tp_so ?_
      have l809 : ((0 : Int32)).toInt = 0 := rfl
      refine ⟨ci, rfl, ?_, ?_⟩
      · (try dsimp only) <;> first | omega | assumption
      · (try dsimp only) <;> first | omega | assumption
    · have g810 := ti_nl h803
      have l811 : ((12 : Int32)).toInt = 12 := rfl
      first | (have a812 : (x1 * (12 : Int32)).toInt = (x1).toInt * 12 := ti_mulr rfl (by omega) (by omega)) | (have a813 := ti_rg (x1 * (12 : Int32)))
      have l814 : (0 : Int32).toInt = 0 := rfl
      refine Tp_if (fun h815 => ?_) (fun h815 => ?_)
      · have g816 := ti_e h815
        first | (have a817 : ((x1 * (12 : Int32)) + (x3 - x2)).toInt = (x1 * (12 : Int32)).toInt + (x3 - x2).toInt := ti_add (by omega) (by omega)) | (have a818 := ti_rg ((x1 * (12 : Int32)) + (x3 - x2)))
        have l819 : ((768 : Int32)).toInt = 768 := rfl
        have l820 : ((0 : Int32)).toInt = 0 := rfl
        refine Tp_mo (l_NA_is_c_44 hn  n x2 (x1 * (12 : Int32)) (x3 - x2) (0 : Int32) t ci (by omega) (by omega) (by omega) (by omega) (by omega)) (fun q821 h822 => ?_)
        obtain ⟨ci823, E824, p825, p826⟩ := h822
        have i827 := ti_rg q821.1
        refine ⟨ci823, (E824), ?_, ?_⟩
        · (try dsimp only) <;> first | omega | assumption
        · (try dsimp only) <;> first | omega | assumption
      · have g828 := ti_ne h815
        first | (have a829 : ((x1 * (12 : Int32)) + (x3 - x2)).toInt = (x1 * (12 : Int32)).toInt + (x3 - x2).toInt := ti_add (by omega) (by omega)) | (have a830 := ti_rg ((x1 * (12 : Int32)) + (x3 - x2)))
        have l831 : ((768 : Int32)).toInt = 768 := rfl
        refine Tp_so ?_
        have l832 : ((0 : Int32)).toInt = 0 := rfl
        refine ⟨ci, rfl, ?_, ?_⟩
        · (try dsimp only) <;> first | omega | assumption
        · (try dsimp only) <;> first | omega | assumption
  · have g833 := ti_nq h796
    have i834 := ti_rg q789.1
    have i835 := ti_rg x3
    have i836 := ti_rg x2
    first | (have a837 : (x3 - x2).toInt = (x3).toInt - (x2).toInt := ti_sub (by omega) (by omega)) | (have a838 := ti_rg (x3 - x2))
    refine Tp_so ?_
    have l839 : ((0 : Int32)).toInt = 0 := rfl
    refine ⟨ci, rfl, ?_, ?_⟩
    · (try dsimp only) <;> first | omega | assumption
    · (try dsimp only) <;> first | omega | assumption
set_option maxRecDepth 4000 in
set_option maxHeartbeats 8000000 in
theorem l_NA_find_c_2 {n : Nat} {L : Int32} (hn : 8589934592 ≤ n)  : ∀ (k : Nat) (x1 : Int32) (x2 : Int32) (x3 : Int32) (t : mz_St), CI L t → (0 ≤ x3.toInt) → (2147483648 - x3.toInt).toNat < k → Tp (f_NA_find_c_2 n k x1 x2 x3 t) (fun r => CI L r.2 ∧ r.2 = t ∧ -1 ≤ (r.1).toInt ∧ (r.1).toInt < 64) := by
  intro k
  induction k with
  | zero => intros; omega
  | succ k ih =>
    intro x1 x2 x3 t ci i0 hm
    unfold f_NA_find_c_2
    refine Tp_if (fun h840 => ?_) (fun h840 => ?_)
    · have g841 := ti_e h840
      have b842 := CI_g5 ci (c := 15) (p := 4) rfl
      have i843 := ti_rg x3
      refine Tp_so ?_
      have l844 : ((-1 : Int32)).toInt = -1 := rfl
      refine ⟨ci, rfl, ?_, ?_⟩
      · (try dsimp only) <;> first | omega | assumption
      · (try dsimp only) <;> first | omega | assumption
    · have g845 := ti_ne h840
      have b846 := CI_g5 ci (c := 15) (p := 4) rfl
      have i847 := ti_rg x3
      have i850 := ti_rg x1
      have i851 := ti_rg x2
      refine Tp_bi (s_NA_is_c hn ci (by omega) (by omega) (t := t) (x1 := x3) (x2 := x1) (x3 := x2)) (fun q848 h849 => ?_)
      obtain ⟨ci852, E853, p854, p855⟩ := h849
      try rw [E853]
      refine Tp_if (fun h856 => ?_) (fun h856 => ?_)
      · have g857 := ti_q h856
        have i858 := ti_rg q848.1
        have l859 : (0 : Int32).toInt = 0 := rfl
        have l860 : ((1 : Int32)).toInt = 1 := rfl
        first | (have a861 : (x3 + (1 : Int32)).toInt = (x3).toInt + ((1 : Int32)).toInt := ti_add (by omega) (by omega)) | (have a862 := ti_rg (x3 + (1 : Int32)))
        exact ih x1 x2 (x3 + (1 : Int32)) t ci (by omega) (by omega)
      · have g863 := ti_nq h856
        have i864 := ti_rg q848.1
        have l865 : (0 : Int32).toInt = 0 := rfl
        refine Tp_so ?_
        refine ⟨ci, rfl, ?_, ?_⟩
        · (try dsimp only) <;> first | omega | assumption
        · (try dsimp only) <;> first | omega | assumption
set_option maxRecDepth 4000 in
set_option maxHeartbeats 8000000 in
theorem s_NA_find_c {n : Nat} {L : Int32} (hn : 8589934592 ≤ n) {x1 : Int32} {x2 : Int32} {t : mz_St}  (ci : CI L t)  : Tp (f_NA_find_c n x1 x2 t) (fun r => CI L r.2 ∧ r.2 = t ∧ -1 ≤ (r.1).toInt ∧ (r.1).toInt < 64) := by
  unfold f_NA_find_c
  have i866 := ti_rg x1
  have i867 := ti_rg x2
  have l868 : ((0 : Int32)).toInt = 0 := rfl
  refine Tp_mo (l_NA_find_c_2 hn  n x1 x2 (0 : Int32) t ci (by omega) (by omega)) (fun q869 h870 => ?_)
  obtain ⟨ci871, E872, p873, p874⟩ := h870
  have i875 := ti_rg q869.1
  refine ⟨ci871, (E872), ?_, ?_⟩
  · (try dsimp only) <;> first | omega | assumption
  · (try dsimp only) <;> first | omega | assumption
set_option maxRecDepth 4000 in
set_option maxHeartbeats 8000000 in
theorem s_NA_isFull_c {n : Nat} {L : Int32} (hn : 8589934592 ≤ n) {t : mz_St}  (ci : CI L t)  : Tp (f_NA_isFull_c n t) (fun r => CI L r.2 ∧ r.2 = t ∧ 0 ≤ (r.1).toInt ∧ (r.1).toInt ≤ 1) := by
  unfold f_NA_isFull_c
  refine Tp_if (fun h876 => ?_) (fun h876 => ?_)
  · have g877 := ti_l h876
    have b878 := CI_g5 ci (c := 15) (p := 4) rfl
    have i879 := ti_rg (mz_gI t 15 1)
    refine Tp_so ?_
    have l880 : ((0 : Int32)).toInt = 0 := rfl
    refine ⟨ci, rfl, ?_, ?_⟩
    · (try dsimp only) <;> first | omega | assumption
    · (try dsimp only) <;> first | omega | assumption
  · have g881 := ti_nl h876
    have b882 := CI_g5 ci (c := 15) (p := 4) rfl
    have i883 := ti_rg (mz_gI t 15 1)
    refine Tp_so ?_
    have l884 : ((1 : Int32)).toInt = 1 := rfl
    refine ⟨ci, rfl, ?_, ?_⟩
    · (try dsimp only) <;> first | omega | assumption
    · (try dsimp only) <;> first | omega | assumption
set_option maxRecDepth 4000 in
set_option maxHeartbeats 8000000 in
theorem s_NA_write_c {n : Nat} {L : Int32} (hn : 8589934592 ≤ n) {x1 : Int32} {x2 : Int32} {x3 : Int32} {t : mz_St}  (ci : CI L t)  : Tp (f_NA_write_c n x1 x2 x3 t) (fun r => CI L r ∧ (mz_gI r 15 4).toInt = (mz_gI t 15 4).toInt) := by
  unfold f_NA_write_c
  have b885 := CI_g5 ci (c := 15) (p := 4) rfl
  refine Tp_if (fun h886 => ?_) (fun h886 => ?_)
  · have g887 := ti_l h886
    have i888 := ti_rg x1
    have l889 : ((12 : Int32)).toInt = 12 := rfl
    first | (have a890 : (x1 * (12 : Int32)).toInt = (x1).toInt * 12 := ti_mulr rfl (by omega) (by omega)) | (have a891 := ti_rg (x1 * (12 : Int32)))
    have i892 := ti_rg x2
    first | (have a893 : ((x1 * (12 : Int32)) + x2).toInt = (x1 * (12 : Int32)).toInt + (x2).toInt := ti_add (by omega) (by omega)) | (have a894 := ti_rg ((x1 * (12 : Int32)) + x2))
    have l895 : (0 : Int32).toInt = 0 := rfl
    refine Tp_so ?_
    refine ⟨ci, ?_⟩
    · (try dsimp only) <;> first | omega | assumption
  · have g896 := ti_nl h886
    have i897 := ti_rg x1
    have l898 : ((12 : Int32)).toInt = 12 := rfl
    first | (have a899 : (x1 * (12 : Int32)).toInt = (x1).toInt * 12 := ti_mulr rfl (by omega) (by omega)) | (have a900 := ti_rg (x1 * (12 : Int32)))
    have i901 := ti_rg x2
    first | (have a902 : ((x1 * (12 : Int32)) + x2).toInt = (x1 * (12 : Int32)).toInt + (x2).toInt := ti_add (by omega) (by omega)) | (have a903 := ti_rg ((x1 * (12 : Int32)) + x2))
    have l904 : (0 : Int32).toInt = 0 := rfl
    refine Tp_if (fun h905 => ?_) (fun h905 => ?_)
    · have g906 := ti_e h905
      have l907 : ((768 : Int32)).toInt = 768 := rfl
      refine Tp_so ?_
      refine ⟨ci, ?_⟩
      · (try dsimp only) <;> first | omega | assumption
    · have g908 := ti_ne h905
      have l909 : ((768 : Int32)).toInt = 768 := rfl
      refine Tp_gd (ti_ix (by omega) (by omega)) ?_
      refine Tp_le (fun t910 E911 => ?_)
      have ci912 := CI_p0 ci E911 rfl
      refine Tp_so ?_
      have b913 := CI_g5 ci912 (c := 15) (p := 4) rfl
      have e914 : (mz_gI t910 15 4).toInt = (mz_gI t 15 4).toInt := by rw [E911, gI_oth _ _ (by simp)]
      refine ⟨ci912, ?_⟩
      · (try dsimp only) <;> first | omega | assumption
set_option maxRecDepth 4000 in
set_option maxHeartbeats 8000000 in
theorem l_NA_add_c_42 {n : Nat} {L : Int32} (hn : 8589934592 ≤ n)  : ∀ (k : Nat) (x1 : Int32) (x3 : Int32) (x4 : Int32) (t : mz_St), CI L t → (0 ≤ x4.toInt) → ((mz_gI t 15 4).toInt < 64) → (2147483648 - x4.toInt).toNat < k → Tp (f_NA_add_c_42 n k x1 x3 x4 t) (fun r => CI L r) := by
  intro k
  induction k with
  | zero => intros; omega
  | succ k ih =>
    intro x1 x3 x4 t ci i0 i1 hm
    unfold f_NA_add_c_42
    have b915 := CI_g5 ci (c := 15) (p := 4) rfl
    refine Tp_if (fun h916 => ?_) (fun h916 => ?_)
    · have g917 := ti_e h916
      have i918 := ti_rg x3
      have i919 := ti_rg x4
      have l922 : ((1 : Int32)).toInt = 1 := rfl
      first | (have a923 : ((mz_gI t 15 4) + (1 : Int32)).toInt = (mz_gI t 15 4).toInt + ((1 : Int32)).toInt := ti_add (by omega) (by omega)) | (have a924 := ti_rg ((mz_gI t 15 4) + (1 : Int32)))
      refine Tp_le (fun t920 E921 => ?_)
      have l926 : (4 : Int32).toInt = 4 := rfl
      have ci925 := CI_p5 ci E921 rfl (by omega) (by omega)
      refine Tp_so ?_
      exact ci925
    · have g927 := ti_ne h916
      have i928 := ti_rg x3
      have i929 := ti_rg x4
      have i932 := ti_rg x1
      first | (have a933 : (x1 + x4).toInt = (x1).toInt + (x4).toInt := ti_add (by omega) (by omega)) | (have a934 := ti_rg (x1 + x4))
      refine Tp_bi (s_SI_at hn ci  (t := t) (x1 := x1 + x4)) (fun q930 h931 => ?_)
      obtain ⟨ci935, E936⟩ := h931
      try rw [E936]
      have i939 := ti_rg q930.1
      refine Tp_bi (s_NA_write_c hn ci  (t := t) (x1 := mz_gI t 15 4) (x2 := x4) (x3 := q930.1)) (fun q937 h938 => ?_)
      obtain ⟨ci940, p941⟩ := h938
      have b942 := CI_g5 ci940 (c := 15) (p := 4) rfl
      have l943 : ((1 : Int32)).toInt = 1 := rfl
      first | (have a944 : (x4 + (1 : Int32)).toInt = (x4).toInt + ((1 : Int32)).toInt := ti_add (by omega) (by omega)) | (have a945 := ti_rg (x4 + (1 : Int32)))
      exact ih x1 x3 (x4 + (1 : Int32)) q937 ci940 (by omega) (by omega) (by omega)
set_option maxRecDepth 4000 in
set_option maxHeartbeats 8000000 in
theorem s_NA_add_c {n : Nat} {L : Int32} (hn : 8589934592 ≤ n) {x1 : Int32} {x2 : Int32} {t : mz_St}  (ci : CI L t)  : Tp (f_NA_add_c n x1 x2 t) (fun r => CI L r) := by
  unfold f_NA_add_c
  refine Tp_bi (s_NA_isFull_c hn ci  (t := t)) (fun q946 h947 => ?_)
  obtain ⟨ci948, E949, p950, p951⟩ := h947
  try rw [E949]
  refine Tp_if (fun h952 => ?_) (fun h952 => ?_)
  · have g953 := ti_q h952
    have i954 := ti_rg q946.1
    have l955 : (0 : Int32).toInt = 0 := rfl
    refine Tp_if (fun h956 => ?_) (fun h956 => ?_)
    · have g957 := ti_l h956
      have b958 := CI_g5 ci (c := 15) (p := 4) rfl
      have l959 : ((64 : Int32)).toInt = 64 := rfl
      refine Tp_gd (ti_ix (by omega) (by omega)) ?_
      have l962 : ((12 : Int32)).toInt = 12 := rfl
      have i963 := ti_rg x2
      have i964 := ti_rg x1
      first | (have a965 : (x2 - x1).toInt = (x2).toInt - (x1).toInt := ti_sub (by omega) (by omega)) | (have a966 := ti_rg (x2 - x1))
      have m967 := ti_mx (a := (12 : Int32)) (b := x2 - x1) (x := (12 : Int32)) (y := x2 - x1)
      refine Tp_le (fun t960 E961 => ?_)
      have k969 := ti_cl (mz_gI t 15 4)
      have ci968 := CI_p9 ci E961 rfl (by omega) (by omega)
      have l970 : ((0 : Int32)).toInt = 0 := rfl
      have b971 := CI_g5 ci968 (c := 15) (p := 4) rfl
      have e972 : (mz_gI t960 15 4).toInt = (mz_gI t 15 4).toInt := by rw [E961, gI_oth _ _ (by simp)]
      refine Tp_mo (l_NA_add_c_42 hn  n x1 (if (12 : Int32) < (x2 - x1) then (12 : Int32) else (x2 - x1)) (0 : Int32) t960 ci968 (by omega) (by omega) (by omega)) (fun q973 h974 => ?_)
      have ci975 := h974
      exact ci975
    · have g976 := ti_nl h956
      have b977 := CI_g5 ci (c := 15) (p := 4) rfl
      have l978 : ((64 : Int32)).toInt = 64 := rfl
      refine Tp_so ?_
      exact ci
  · have g979 := ti_nq h952
    have i980 := ti_rg q946.1
    have l981 : (0 : Int32).toInt = 0 := rfl
    refine Tp_so ?_
    exact ci
set_option maxRecDepth 4000 in
set_option maxHeartbeats 8000000 in
theorem s_NA_sign_c {n : Nat} {L : Int32} (hn : 8589934592 ≤ n) {x1 : Int32} {x2 : Int32} {t : mz_St}  (ci : CI L t) (i0 : 0 ≤ x1.toInt) (i1 : x1.toInt ≤ 100) : Tp (f_NA_sign_c n x1 x2 t) (fun r => CI L r.2 ∧ r.2 = t) := by
  unfold f_NA_sign_c
  refine Tp_if (fun h982 => ?_) (fun h982 => ?_)
  · have g983 := ti_l h982
    have i984 := ti_rg x2
    have l985 : (0 : Int32).toInt = 0 := rfl
    refine Tp_so ?_
    have l986 : ((-1 : Int32)).toInt = -1 := rfl
    exact ⟨ci, rfl⟩
  · have g987 := ti_nl h982
    have i988 := ti_rg x2
    have l989 : (0 : Int32).toInt = 0 := rfl
    have i992 := ti_rg x1
    refine Tp_bi (s_NA_lengthOf_c hn ci  (t := t) (x1 := x1)) (fun q990 h991 => ?_)
    obtain ⟨ci993, E994, p995, p996⟩ := h991
    try rw [E994]
    refine Tp_if (fun h997 => ?_) (fun h997 => ?_)
    · have g998 := ti_l h997
      have i999 := ti_rg q990.1
      refine Tp_if (fun h1000 => ?_) (fun h1000 => ?_)
      · have g1001 := ti_l h1000
        have l1002 : ((12 : Int32)).toInt = 12 := rfl
        first | (have a1003 : (x1 * (12 : Int32)).toInt = (x1).toInt * 12 := ti_mulr rfl (by omega) (by omega)) | (have a1004 := ti_rg (x1 * (12 : Int32)))
        first | (have a1005 : ((x1 * (12 : Int32)) + x2).toInt = (x1 * (12 : Int32)).toInt + (x2).toInt := ti_add (by omega) (by omega)) | (have a1006 := ti_rg ((x1 * (12 : Int32)) + x2))
        refine Tp_so ?_
        have l1007 : ((-1 : Int32)).toInt = -1 := rfl
        exact ⟨ci, rfl⟩
      · have g1008 := ti_nl h1000
        have l1009 : ((12 : Int32)).toInt = 12 := rfl
        first | (have a1010 : (x1 * (12 : Int32)).toInt = (x1).toInt * 12 := ti_mulr rfl (by omega) (by omega)) | (have a1011 := ti_rg (x1 * (12 : Int32)))
        first | (have a1012 : ((x1 * (12 : Int32)) + x2).toInt = (x1 * (12 : Int32)).toInt + (x2).toInt := ti_add (by omega) (by omega)) | (have a1013 := ti_rg ((x1 * (12 : Int32)) + x2))
        refine Tp_if (fun h1014 => ?_) (fun h1014 => ?_)
        · have g1015 := ti_e h1014
          have l1016 : ((768 : Int32)).toInt = 768 := rfl
          refine Tp_so ?_
          have l1017 : ((-1 : Int32)).toInt = -1 := rfl
          exact ⟨ci, rfl⟩
        · have g1018 := ti_ne h1014
          have l1019 : ((768 : Int32)).toInt = 768 := rfl
          refine Tp_gd (ti_ix (by omega) (by omega)) ?_
          refine Tp_so ?_
          have i1020 := ti_rg (mz_gI t 16 ((x1 * (12 : Int32)) + x2).toNatClampNeg)
          exact ⟨ci, rfl⟩
    · have g1021 := ti_nl h997
      have i1022 := ti_rg q990.1
      refine Tp_so ?_
      have l1023 : ((-1 : Int32)).toInt = -1 := rfl
      exact ⟨ci, rfl⟩
set_option maxRecDepth 4000 in
set_option maxHeartbeats 8000000 in
theorem s_NA_lengthOf_m {n : Nat} {L : Int32} (hn : 8589934592 ≤ n) {x1 : Int32} {t : mz_St}  (ci : CI L t)  : Tp (f_NA_lengthOf_m n x1 t) (fun r => CI L r.2 ∧ r.2 = t ∧ (r.1).toInt ≤ 12 ∧ ((r.1).toInt = 0 ∨ 0 ≤ x1.toInt ∧ x1.toInt < 16)) := by
  unfold f_NA_lengthOf_m
  refine Tp_if (fun h1024 => ?_) (fun h1024 => ?_)
  · have g1025 := ti_l h1024
    have i1026 := ti_rg x1
    have l1027 : (0 : Int32).toInt = 0 := rfl
    refine Tp_so ?_
    have l1028 : ((0 : Int32)).toInt = 0 := rfl
    refine ⟨ci, rfl, ?_, ?_⟩
    · (try dsimp only) <;> first | omega | assumption
    · (try dsimp only) <;> first | omega | assumption
  · have g1029 := ti_nl h1024
    have i1030 := ti_rg x1
    have l1031 : (0 : Int32).toInt = 0 := rfl
    refine Tp_if (fun h1032 => ?_) (fun h1032 => ?_)
    · have g1033 := ti_e h1032
      have b1034 := CI_g6 ci (c := 27) (p := 4) rfl
      refine Tp_so ?_
      have l1035 : ((0 : Int32)).toInt = 0 := rfl
      refine ⟨ci, rfl, ?_, ?_⟩
      · (try dsimp only) <;> first | omega | assumption
      · (try dsimp only) <;> first | omega | assumption
    · have g1036 := ti_ne h1032
      have b1037 := CI_g6 ci (c := 27) (p := 4) rfl
      refine Tp_if (fun h1038 => ?_) (fun h1038 => ?_)
      · have g1039 := ti_e h1038
        have l1040 : ((16 : Int32)).toInt = 16 := rfl
        refine Tp_so ?_
        have l1041 : ((0 : Int32)).toInt = 0 := rfl
        refine ⟨ci, rfl, ?_, ?_⟩
        · (try dsimp only) <;> first | omega | assumption
        · (try dsimp only) <;> first | omega | assumption
      · have g1042 := ti_ne h1038
        have l1043 : ((16 : Int32)).toInt = 16 := rfl
        refine Tp_gd (ti_ix (by omega) (by omega)) ?_
        refine Tp_so ?_
        have b1044 := CI_g9 ci (c := 29) (p := x1.toNatClampNeg) rfl
        refine ⟨ci, rfl, ?_, ?_⟩
        · (try dsimp only) <;> first | omega | assumption
        · (try dsimp only) <;> first | omega | assumption
set_option maxRecDepth 4000 in
set_option maxHeartbeats 8000000 in
theorem l_NA_is_m_44 {n : Nat} {L : Int32} (hn : 8589934592 ≤ n)  : ∀ (k : Nat) (x2 : Int32) (x4 : Int32) (x5 : Int32) (x6 : Int32) (t : mz_St), CI L t → (0 ≤ x4.toInt) → (x4.toInt + x5.toInt ≤ 192) → (0 ≤ x6.toInt) → (x4.toInt ≤ 10000) → (2147483648 - x6.toInt).toNat < k → Tp (f_NA_is_m_44 n k x2 x4 x5 x6 t) (fun r => CI L r.2 ∧ r.2 = t ∧ 0 ≤ (r.1).toInt ∧ (r.1).toInt ≤ 1) := by
  intro k
  induction k with
  | zero => intros; omega
  | succ k ih =>
    intro x2 x4 x5 x6 t ci i0 i1 i2 i3 hm
    unfold f_NA_is_m_44
    refine Tp_if (fun h1045 => ?_) (fun h1045 => ?_)
    · have g1046 := ti_e h1045
      have i1047 := ti_rg x5
      have i1048 := ti_rg x6
      refine Tp_so ?_
      have l1049 : ((1 : Int32)).toInt = 1 := rfl
      refine ⟨ci, rfl, ?_, ?_⟩
      · (try dsimp only) <;> first | omega | assumption
      · (try dsimp only) <;> first | omega | assumption
    · have g1050 := ti_ne h1045
      have i1051 := ti_rg x5
      have i1052 := ti_rg x6
      have i1053 := ti_rg x4
      first | (have a1054 : (x4 + x6).toInt = (x4).toInt + (x6).toInt := ti_add (by omega) (by omega)) | (have a1055 := ti_rg (x4 + x6))
      refine Tp_gd (ti_ix (by omega) (by omega)) ?_
      have i1058 := ti_rg x2
      first | (have a1059 : (x2 + x6).toInt = (x2).toInt + (x6).toInt := ti_add (by omega) (by omega)) | (have a1060 := ti_rg (x2 + x6))
      refine Tp_bi (s_SI_at hn ci  (t := t) (x1 := x2 + x6)) (fun q1056 h1057 => ?_)
      obtain ⟨ci1061, E1062⟩ := h1057
      try rw [E1062]
      refine Tp_if (fun h1063 => ?_) (fun h1063 => ?_)
      · have g1064 := ti_q h1063
        have i1065 := ti_rg (mz_gI t 28 (x4 + x6).toNatClampNeg)
        have i1066 := ti_rg q1056.1
        have l1067 : ((1 : Int32)).toInt = 1 := rfl
        first | (have a1068 : (x6 + (1 : Int32)).toInt = (x6).toInt + ((1 : Int32)).toInt := ti_add (by omega) (by omega)) | (have a1069 := ti_rg (x6 + (1 : Int32)))
        exact ih x2 x4 x5 (x6 + (1 : Int32)) t ci (by omega) (by omega) (by omega) (by omega) (by omega)
      · have g1070 := ti_nq h1063
        have i1071 := ti_rg (mz_gI t 28 (x4 + x6).toNatClampNeg)
        have i1072 := ti_rg q1056.1
        refine Tp_so ?_
        have l1073 : ((0 : Int32)).toInt = 0 := rfl
        refine ⟨ci, rfl, ?_, ?_⟩
        · (try dsimp only) <;> first | omega | assumption
        · (try dsimp only) <;> first | omega | assumption
set_option maxRecDepth 4000 in
set_option maxHeartbeats 8000000 in
theorem s_NA_is_m {n : Nat} {L : Int32} (hn : 8589934592 ≤ n) {x1 : Int32} {x2 : Int32} {x3 : Int32} {t : mz_St}  (ci : CI L t) (i0 : 0 ≤ x1.toInt) (i1 : x1.toInt ≤ 100) : Tp (f_NA_is_m n x1 x2 x3 t) (fun r => CI L r.2 ∧ r.2 = t ∧ 0 ≤ (r.1).toInt ∧ (r.1).toInt ≤ 1) := by
  unfold f_NA_is_m
  have i1076 := ti_rg x1
  refine Tp_bi (s_NA_lengthOf_m hn ci  (t := t) (x1 := x1)) (fun q1074 h1075 => ?_)
  obtain ⟨ci1077, E1078, p1079, p1080⟩ := h1075
  try rw [E1078]
  refine Tp_if (fun h1081 => ?_) (fun h1081 => ?_)
  · have g1082 := ti_q h1081
    have i1083 := ti_rg q1074.1
    have i1084 := ti_rg x3
    have i1085 := ti_rg x2
    first | (have a1086 : (x3 - x2).toInt = (x3).toInt - (x2).toInt := ti_sub (by omega) (by omega)) | (have a1087 := ti_rg (x3 - x2))
    refine Tp_if (fun h1088 => ?_) (fun h1088 => ?_)
    · have g1089 := ti_l h1088
      have l1090 : ((12 : Int32)).toInt = 12 := rfl
      first | (have a1091 : (x1 * (12 : Int32)).toInt = (x1).toInt * 12 := ti_mulr rfl (by omega) (by omega)) | (have a1092 := ti_rg (x1 * (12 : Int32)))
      have l1093 : (0 : Int32).toInt = 0 := rfl
      refine Tp_so ?_
      have l1094 : ((0 : Int32)).toInt = 0 := rfl
      refine ⟨ci, rfl, ?_, ?_⟩
      · (try dsimp only) <;> first | omega | assumption
      · (try dsimp only) <;> first | omega | assumption
    · have g1095 := ti_nl h1088
      have l1096 : ((12 : Int32)).toInt = 12 := rfl
      first | (have a1097 : (x1 * (12 : Int32)).toInt = (x1).toInt * 12 := ti_mulr rfl (by omega) (by omega)) | (have a1098 := ti_rg (x1 * (12 : Int32)))
      have l1099 : (0 : Int32).toInt = 0 := rfl
      refine Tp_if (fun h1100 => ?_) (fun h1100 => ?_)
      · have g1101 := ti_e h1100
        first | (have a1102 : ((x1 * (12 : Int32)) + (x3 - x2)).toInt = (x1 * (12 : Int32)).toInt + (x3 - x2).toInt := ti_add (by omega) (by omega)) | (have a1103 := ti_rg ((x1 * (12 : Int32)) + (x3 - x2)))
        have l1104 : ((192 : Int32)).toInt = 192 := rfl
        have l1105 : ((0 : Int32)).toInt = 0 := rfl
        refine Tp_mo (l_NA_is_m_44 hn  n x2 (x1 * (12 : Int32)) (x3 - x2) (0 : Int32) t ci (by omega) (by omega) (by omega) (by omega) (by omega)) (fun q1106 h1107 => ?_)
        obtain ⟨ci1108, E1109, p1110, p1111⟩ := h1107
        have i1112 := ti_rg q1106.1
        refine ⟨ci1108, (E1109), ?_, ?_⟩
        · (try dsimp only) <;> first | omega | assumption
        · (try dsimp only) <;> first | omega | assumption
      · have g1113 := ti_ne h1100
        first | (have a1114 : ((x1 * (12 : Int32)) + (x3 - x2)).toInt = (x1 * (12 : Int32)).toInt + (x3 - x2).toInt := ti_add (by omega) (by omega)) | (have a1115 := ti_rg ((x1 * (12 : Int32)) + (x3 - x2)))
        have l1116 : ((192 : Int32)).toInt = 192 := rfl
        refine Tp_so ?_
        have l1117 : ((0 : Int32)).toInt = 0 := rfl
        refine ⟨ci, rfl, ?_, ?_⟩
        · (try dsimp only) <;> first | omega | assumption
        · (try dsimp only) <;> first | omega | assumption
  · have g1118 := ti_nq h1081
    have i1119 := ti_rg q1074.1
    have i1120 := ti_rg x3
    have i1121 := ti_rg x2
    first | (have a1122 : (x3 - x2).toInt = (x3).toInt - (x2).toInt := ti_sub (by omega) (by omega)) | (have a1123 := ti_rg (x3 - x2))
    refine Tp_so ?_
    have l1124 : ((0 : Int32)).toInt = 0 := rfl
    refine ⟨ci, rfl, ?_, ?_⟩
    · (try dsimp only) <;> first | omega | assumption
    · (try dsimp only) <;> first | omega | assumption
set_option maxRecDepth 4000 in
set_option maxHeartbeats 8000000 in
theorem l_NA_find_m_2 {n : Nat} {L : Int32} (hn : 8589934592 ≤ n)  : ∀ (k : Nat) (x1 : Int32) (x2 : Int32) (x3 : Int32) (t : mz_St), CI L t → (0 ≤ x3.toInt) → (2147483648 - x3.toInt).toNat < k → Tp (f_NA_find_m_2 n k x1 x2 x3 t) (fun r => CI L r.2 ∧ r.2 = t ∧ -1 ≤ (r.1).toInt ∧ (r.1).toInt < 16) := by
  intro k
  induction k with
  | zero => intros; omega
  | succ k ih =>
    intro x1 x2 x3 t ci i0 hm
    unfold f_NA_find_m_2
    refine Tp_if (fun h1125 => ?_) (fun h1125 => ?_)
    · have g1126 := ti_e h1125
      have b1127 := CI_g6 ci (c := 27) (p := 4) rfl
      have i1128 := ti_rg x3
      refine Tp_so ?_
      have l1129 : ((-1 : Int32)).toInt = -1 := rfl
      refine ⟨ci, rfl, ?_, ?_⟩
      · (try dsimp only) <;> first | omega | assumption
      · (try dsimp only) <;> first | omega | assumption
    · have g1130 := ti_ne h1125
      have b1131 := CI_g6 ci (c := 27) (p := 4) rfl
      have i1132 := ti_rg x3
      have i1135 := ti_rg x1
      have i1136 := ti_rg x2
      refine Tp_bi (s_NA_is_m hn ci (by omega) (by omega) (t := t) (x1 := x3) (x2 := x1) (x3 := x2)) (fun q1133 h1134 => ?_)
      obtain ⟨ci1137, E1138, p1139, p1140⟩ := h1134
      try rw [E1138]
      refine Tp_if (fun h1141 => ?_) (fun h1141 => ?_)
      · have g1142 := ti_q h1141
        have i1143 := ti_rg q1133.1
        have l1144 : (0 : Int32).toInt = 0 := rfl
        have l1145 : ((1 : Int32)).toInt = 1 := rfl
        first | (have a1146 : (x3 + (1 : Int32)).toInt = (x3).toInt + ((1 : Int32)).toInt := ti_add (by omega) (by omega)) | (have a1147 := ti_rg (x3 + (1 : Int32)))
        exact ih x1 x2 (x3 + (1 : Int32)) t ci (by omega) (by omega)
      · have g1148 := ti_nq h1141
        have i1149 := ti_rg q1133.1
        have l1150 : (0 : Int32).toInt = 0 := rfl
        refine Tp_so ?_
        refine ⟨ci, rfl, ?_, ?_⟩
        · (try dsimp only) <;> first | omega | assumption
        · (try dsimp only) <;> first | omega | assumption
set_option maxRecDepth 4000 in
set_option maxHeartbeats 8000000 in
theorem s_NA_find_m {n : Nat} {L : Int32} (hn : 8589934592 ≤ n) {x1 : Int32} {x2 : Int32} {t : mz_St}  (ci : CI L t)  : Tp (f_NA_find_m n x1 x2 t) (fun r => CI L r.2 ∧ r.2 = t ∧ -1 ≤ (r.1).toInt ∧ (r.1).toInt < 16) := by
  unfold f_NA_find_m
  have i1151 := ti_rg x1
  have i1152 := ti_rg x2
  have l1153 : ((0 : Int32)).toInt = 0 := rfl
  refine Tp_mo (l_NA_find_m_2 hn  n x1 x2 (0 : Int32) t ci (by omega) (by omega)) (fun q1154 h1155 => ?_)
  obtain ⟨ci1156, E1157, p1158, p1159⟩ := h1155
  have i1160 := ti_rg q1154.1
  refine ⟨ci1156, (E1157), ?_, ?_⟩
  · (try dsimp only) <;> first | omega | assumption
  · (try dsimp only) <;> first | omega | assumption
set_option maxRecDepth 4000 in
set_option maxHeartbeats 8000000 in
theorem s_NA_isFull_m {n : Nat} {L : Int32} (hn : 8589934592 ≤ n) {t : mz_St}  (ci : CI L t)  : Tp (f_NA_isFull_m n t) (fun r => CI L r.2 ∧ r.2 = t ∧ 0 ≤ (r.1).toInt ∧ (r.1).toInt ≤ 1) := by
  unfold f_NA_isFull_m
  refine Tp_if (fun h1161 => ?_) (fun h1161 => ?_)
  · have g1162 := ti_l h1161
    have b1163 := CI_g6 ci (c := 27) (p := 4) rfl
    have i1164 := ti_rg (mz_gI t 27 1)
    refine Tp_so ?_
    have l1165 : ((0 : Int32)).toInt = 0 := rfl
    refine ⟨ci, rfl, ?_, ?_⟩
    · (try dsimp only) <;> first | omega | assumption
    · (try dsimp only) <;> first | omega | assumption
  · have g1166 := ti_nl h1161
    have b1167 := CI_g6 ci (c := 27) (p := 4) rfl
    have i1168 := ti_rg (mz_gI t 27 1)
    refine Tp_so ?_
    have l1169 : ((1 : Int32)).toInt = 1 := rfl
    refine ⟨ci, rfl, ?_, ?_⟩
    · (try dsimp only) <;> first | omega | assumption
    · (try dsimp only) <;> first | omega | assumption
set_option maxRecDepth 4000 in
set_option maxHeartbeats 8000000 in
theorem s_NA_write_m {n : Nat} {L : Int32} (hn : 8589934592 ≤ n) {x1 : Int32} {x2 : Int32} {x3 : Int32} {t : mz_St}  (ci : CI L t)  : Tp (f_NA_write_m n x1 x2 x3 t) (fun r => CI L r ∧ (mz_gI r 27 4).toInt = (mz_gI t 27 4).toInt) := by
  unfold f_NA_write_m
  have b1170 := CI_g6 ci (c := 27) (p := 4) rfl
  refine Tp_if (fun h1171 => ?_) (fun h1171 => ?_)
  · have g1172 := ti_l h1171
    have i1173 := ti_rg x1
    have l1174 : ((12 : Int32)).toInt = 12 := rfl
    first | (have a1175 : (x1 * (12 : Int32)).toInt = (x1).toInt * 12 := ti_mulr rfl (by omega) (by omega)) | (have a1176 := ti_rg (x1 * (12 : Int32)))
    have i1177 := ti_rg x2
    first | (have a1178 : ((x1 * (12 : Int32)) + x2).toInt = (x1 * (12 : Int32)).toInt + (x2).toInt := ti_add (by omega) (by omega)) | (have a1179 := ti_rg ((x1 * (12 : Int32)) + x2))
    have l1180 : (0 : Int32).toInt = 0 := rfl
    refine Tp_so ?_
    refine ⟨ci, ?_⟩
    · (try dsimp only) <;> first | omega | assumption
  · have g1181 := ti_nl h1171
    have i1182 := ti_rg x1
    have l1183 : ((12 : Int32)).toInt = 12 := rfl
    first | (have a1184 : (x1 * (12 : Int32)).toInt = (x1).toInt * 12 := ti_mulr rfl (by omega) (by omega)) | (have a1185 := ti_rg (x1 * (12 : Int32)))
    have i1186 := ti_rg x2
    first | (have a1187 : ((x1 * (12 : Int32)) + x2).toInt = (x1 * (12 : Int32)).toInt + (x2).toInt := ti_add (by omega) (by omega)) | (have a1188 := ti_rg ((x1 * (12 : Int32)) + x2))
    have l1189 : (0 : Int32).toInt = 0 := rfl
    refine Tp_if (fun h1190 => ?_) (fun h1190 => ?_)
    · have g1191 := ti_e h1190
      have l1192 : ((192 : Int32)).toInt = 192 := rfl
      refine Tp_so ?_
      refine ⟨ci, ?_⟩
      · (try dsimp only) <;> first | omega | assumption
    · have g1193 := ti_ne h1190
      have l1194 : ((192 : Int32)).toInt = 192 := rfl
      refine Tp_gd (ti_ix (by omega) (by omega)) ?_
      refine Tp_le (fun t1195 E1196 => ?_)
      have ci1197 := CI_p0 ci E1196 rfl
      refine Tp_so ?_
      have b1198 := CI_g6 ci1197 (c := 27) (p := 4) rfl
      have e1199 : (mz_gI t1195 27 4).toInt = (mz_gI t 27 4).toInt := by rw [E1196, gI_oth _ _ (by simp)]
      refine ⟨ci1197, ?_⟩
      · (try dsimp only) <;> first | omega | assumption
set_option maxRecDepth 4000 in
set_option maxHeartbeats 8000000 in
theorem l_NA_add_m_42 {n : Nat} {L : Int32} (hn : 8589934592 ≤ n)  : ∀ (k : Nat) (x1 : Int32) (x3 : Int32) (x4 : Int32) (t : mz_St), CI L t → (0 ≤ x4.toInt) → ((mz_gI t 27 4).toInt < 16) → (2147483648 - x4.toInt).toNat < k → Tp (f_NA_add_m_42 n k x1 x3 x4 t) (fun r => CI L r) := by
  intro k
  induction k with
  | zero => intros; omega
  | succ k ih =>
    intro x1 x3 x4 t ci i0 i1 hm
    unfold f_NA_add_m_42
    have b1200 := CI_g6 ci (c := 27) (p := 4) rfl
    refine Tp_if (fun h1201 => ?_) (fun h1201 => ?_)
    · have g1202 := ti_e h1201
      have i1203 := ti_rg x3
      have i1204 := ti_rg x4
      have l1207 : ((1 : Int32)).toInt = 1 := rfl
      first | (have a1208 : ((mz_gI t 27 4) + (1 : Int32)).toInt = (mz_gI t 27 4).toInt + ((1 : Int32)).toInt := ti_add (by omega) (by omega)) | (have a1209 := ti_rg ((mz_gI t 27 4) + (1 : Int32)))
      refine Tp_le (fun t1205 E1206 => ?_)
      have l1211 : (4 : Int32).toInt = 4 := rfl
      have ci1210 := CI_p6 ci E1206 rfl (by omega) (by omega)
      refine Tp_so ?_
      exact ci1210
    · have g1212 := ti_ne h1201
      have i1213 := ti_rg x3
      have i1214 := ti_rg x4
      have i1217 := ti_rg x1
      first | (have a1218 : (x1 + x4).toInt = (x1).toInt + (x4).toInt := ti_add (by omega) (by omega)) | (have a1219 := ti_rg (x1 + x4))
      refine Tp_bi (s_SI_at hn ci  (t := t) (x1 := x1 + x4)) (fun q1215 h1216 => ?_)
      obtain ⟨ci1220, E1221⟩ := h1216
      try rw [E1221]
      have i1224 := ti_rg q1215.1
      refine Tp_bi (s_NA_write_m hn ci  (t := t) (x1 := mz_gI t 27 4) (x2 := x4) (x3 := q1215.1)) (fun q1222 h1223 => ?_)
      obtain ⟨ci1225, p1226⟩ := h1223
      have b1227 := CI_g6 ci1225 (c := 27) (p := 4) rfl
      have l1228 : ((1 : Int32)).toInt = 1 := rfl
      first | (have a1229 : (x4 + (1 : Int32)).toInt = (x4).toInt + ((1 : Int32)).toInt := ti_add (by omega) (by omega)) | (have a1230 := ti_rg (x4 + (1 : Int32)))
      exact ih x1 x3 (x4 + (1 : Int32)) q1222 ci1225 (by omega) (by omega) (by omega)
set_option maxRecDepth 4000 in
set_option maxHeartbeats 8000000 in
theorem s_NA_add_m {n : Nat} {L : Int32} (hn : 8589934592 ≤ n) {x1 : Int32} {x2 : Int32} {t : mz_St}  (ci : CI L t)  : Tp (f_NA_add_m n x1 x2 t) (fun r => CI L r) := by
  unfold f_NA_add_m
  refine Tp_bi (s_NA_isFull_m hn ci  (t := t)) (fun q1231 h1232 => ?_)
  obtain ⟨ci1233, E1234, p1235, p1236⟩ := h1232
  try rw [E1234]
  refine Tp_if (fun h1237 => ?_) (fun h1237 => ?_)
  · have g1238 := ti_q h1237
    have i1239 := ti_rg q1231.1
    have l1240 : (0 : Int32).toInt = 0 := rfl
    refine Tp_if (fun h1241 => ?_) (fun h1241 => ?_)
    · have g1242 := ti_l h1241
      have b1243 := CI_g6 ci (c := 27) (p := 4) rfl
      have l1244 : ((16 : Int32)).toInt = 16 := rfl
      refine Tp_gd (ti_ix (by omega) (by omega)) ?_
      have l1247 : ((12 : Int32)).toInt = 12 := rfl
      have i1248 := ti_rg x2
      have i1249 := ti_rg x1
      first | (have a1250 : (x2 - x1).toInt = (x2).toInt - (x1).toInt := ti_sub (by omega) (by omega)) | (have a1251 := ti_rg (x2 - x1))
      have m1252 := ti_mx (a := (12 : Int32)) (b := x2 - x1) (x := (12 : Int32)) (y := x2 - x1)
      refine Tp_le (fun t1245 E1246 => ?_)
      have k1254 := ti_cl (mz_gI t 27 4)
      have ci1253 := CI_p9 ci E1246 rfl (by omega) (by omega)
      have l1255 : ((0 : Int32)).toInt = 0 := rfl
      have b1256 := CI_g6 ci1253 (c := 27) (p := 4) rfl
      have e1257 : (mz_gI t1245 27 4).toInt = (mz_gI t 27 4).toInt := by rw [E1246, gI_oth _ _ (by simp)]
      refine Tp_mo (l_NA_add_m_42 hn  n x1 (if (12 : Int32) < (x2 - x1) then (12 : Int32) else (x2 - x1)) (0 : Int32) t1245 ci1253 (by omega) (by omega) (by omega)) (fun q1258 h1259 => ?_)
      have ci1260 := h1259
      exact ci1260
    · have g1261 := ti_nl h1241
      have b1262 := CI_g6 ci (c := 27) (p := 4) rfl
      have l1263 : ((16 : Int32)).toInt = 16 := rfl
      refine Tp_so ?_
      exact ci
  · have g1264 := ti_nq h1237
    have i1265 := ti_rg q1231.1
    have l1266 : (0 : Int32).toInt = 0 := rfl
    refine Tp_so ?_
    exact ci
set_option maxRecDepth 4000 in
set_option maxHeartbeats 8000000 in
theorem s_NA_sign_m {n : Nat} {L : Int32} (hn : 8589934592 ≤ n) {x1 : Int32} {x2 : Int32} {t : mz_St}  (ci : CI L t) (i0 : 0 ≤ x1.toInt) (i1 : x1.toInt ≤ 100) : Tp (f_NA_sign_m n x1 x2 t) (fun r => CI L r.2 ∧ r.2 = t) := by
  unfold f_NA_sign_m
  refine Tp_if (fun h1267 => ?_) (fun h1267 => ?_)
  · have g1268 := ti_l h1267
    have i1269 := ti_rg x2
    have l1270 : (0 : Int32).toInt = 0 := rfl
    refine Tp_so ?_
    have l1271 : ((-1 : Int32)).toInt = -1 := rfl
    exact ⟨ci, rfl⟩
  · have g1272 := ti_nl h1267
    have i1273 := ti_rg x2
    have l1274 : (0 : Int32).toInt = 0 := rfl
    have i1277 := ti_rg x1
    refine Tp_bi (s_NA_lengthOf_m hn ci  (t := t) (x1 := x1)) (fun q1275 h1276 => ?_)
    obtain ⟨ci1278, E1279, p1280, p1281⟩ := h1276
    try rw [E1279]
    refine Tp_if (fun h1282 => ?_) (fun h1282 => ?_)
    · have g1283 := ti_l h1282
      have i1284 := ti_rg q1275.1
      refine Tp_if (fun h1285 => ?_) (fun h1285 => ?_)
      · have g1286 := ti_l h1285
        have l1287 : ((12 : Int32)).toInt = 12 := rfl
        first | (have a1288 : (x1 * (12 : Int32)).toInt = (x1).toInt * 12 := ti_mulr rfl (by omega) (by omega)) | (have a1289 := ti_rg (x1 * (12 : Int32)))
        first | (have a1290 : ((x1 * (12 : Int32)) + x2).toInt = (x1 * (12 : Int32)).toInt + (x2).toInt := ti_add (by omega) (by omega)) | (have a1291 := ti_rg ((x1 * (12 : Int32)) + x2))
        refine Tp_so ?_
        have l1292 : ((-1 : Int32)).toInt = -1 := rfl
        exact ⟨ci, rfl⟩
      · have g1293 := ti_nl h1285
        have l1294 : ((12 : Int32)).toInt = 12 := rfl
        first | (have a1295 : (x1 * (12 : Int32)).toInt = (x1).toInt * 12 := ti_mulr rfl (by omega) (by omega)) | (have a1296 := ti_rg (x1 * (12 : Int32)))
        first | (have a1297 : ((x1 * (12 : Int32)) + x2).toInt = (x1 * (12 : Int32)).toInt + (x2).toInt := ti_add (by omega) (by omega)) | (have a1298 := ti_rg ((x1 * (12 : Int32)) + x2))
        refine Tp_if (fun h1299 => ?_) (fun h1299 => ?_)
        · have g1300 := ti_e h1299
          have l1301 : ((192 : Int32)).toInt = 192 := rfl
          refine Tp_so ?_
          have l1302 : ((-1 : Int32)).toInt = -1 := rfl
          exact ⟨ci, rfl⟩
        · have g1303 := ti_ne h1299
          have l1304 : ((192 : Int32)).toInt = 192 := rfl
          refine Tp_gd (ti_ix (by omega) (by omega)) ?_
          refine Tp_so ?_
          have i1305 := ti_rg (mz_gI t 28 ((x1 * (12 : Int32)) + x2).toNatClampNeg)
          exact ⟨ci, rfl⟩
    · have g1306 := ti_nl h1282
      have i1307 := ti_rg q1275.1
      refine Tp_so ?_
      have l1308 : ((-1 : Int32)).toInt = -1 := rfl
      exact ⟨ci, rfl⟩
set_option maxRecDepth 4000 in
set_option maxHeartbeats 8000000 in
theorem l_NA_remove_c_43 {n : Nat} {L : Int32} (hn : 8589934592 ≤ n) {K2 : Int32 → mz_St → Option mz_St}  : ∀ (k : Nat) (x2 : Int32) (x3 : Int32) (t : mz_St), CI L t → (0 ≤ x2.toInt) → (x2.toInt < 63) → (0 ≤ x3.toInt) → (∀ t, CI L t → Tp (K2 (x2 + (1 : Int32)) t) (fun r => CI L r)) → (2147483648 - x3.toInt).toNat < k → Tp (f_NA_remove_c_43 n K2 k x2 x3 t) (fun r => CI L r) := by
  intro k
  induction k with
  | zero => intros; omega
  | succ k ih =>
    intro x2 x3 t ci i0 i1 i2 i3 hm
    unfold f_NA_remove_c_43
    have i1309 := ti_rg x2
    refine Tp_gd (ti_ix (by omega) (by omega)) ?_
    refine Tp_if (fun h1310 => ?_) (fun h1310 => ?_)
    · have g1311 := ti_e h1310
      have b1312 := CI_g9 ci (c := 17) (p := x2.toNatClampNeg) rfl
      have i1313 := ti_rg x3
      have l1314 : ((1 : Int32)).toInt = 1 := rfl
      first | (have a1315 : (x2 + (1 : Int32)).toInt = (x2).toInt + ((1 : Int32)).toInt := ti_add (by omega) (by omega)) | (have a1316 := ti_rg (x2 + (1 : Int32)))
      exact i3 t ci
    · have g1317 := ti_ne h1310
      have b1318 := CI_g9 ci (c := 17) (p := x2.toNatClampNeg) rfl
      have i1319 := ti_rg x3
      have l1322 : ((1 : Int32)).toInt = 1 := rfl
      first | (have a1323 : (x2 + (1 : Int32)).toInt = (x2).toInt + ((1 : Int32)).toInt := ti_add (by omega) (by omega)) | (have a1324 := ti_rg (x2 + (1 : Int32)))
      refine Tp_bi (s_NA_sign_c hn ci (by omega) (by omega) (t := t) (x1 := x2 + (1 : Int32)) (x2 := x3)) (fun q1320 h1321 => ?_)
      obtain ⟨ci1325, E1326⟩ := h1321
      try rw [E1326]
      have i1329 := ti_rg q1320.1
      refine Tp_bi (s_NA_write_c hn ci  (t := t) (x1 := x2) (x2 := x3) (x3 := q1320.1)) (fun q1327 h1328 => ?_)
      obtain ⟨ci1330, p1331⟩ := h1328
      have b1332 := CI_g5 ci (c := 15) (p := 4) rfl
      have b1333 := CI_g5 ci1330 (c := 15) (p := 4) rfl
      first | (have a1334 : (x3 + (1 : Int32)).toInt = (x3).toInt + ((1 : Int32)).toInt := ti_add (by omega) (by omega)) | (have a1335 := ti_rg (x3 + (1 : Int32)))
      exact ih x2 (x3 + (1 : Int32)) q1327 ci1330 (by omega) (by omega) (by omega) i3 (by omega)
set_option maxRecDepth 4000 in
set_option maxHeartbeats 8000000 in
theorem l_NA_remove_c_2 {n : Nat} {L : Int32} (hn : 8589934592 ≤ n)  : ∀ (k : Nat) (x2 : Int32) (t : mz_St), CI L t → (0 ≤ x2.toInt) → (x2.toInt ≤ 64) → (2147483648 - x2.toInt).toNat < k → Tp (f_NA_remove_c_2 n k x2 t) (fun r => CI L r) := by
  intro k
  induction k with
  | zero => intros; omega
  | succ k ih =>
    intro x2 t ci i0 i1 hm
    unfold f_NA_remove_c_2
    refine Tp_if (fun h1336 => ?_) (fun h1336 => ?_)
    · have g1337 := ti_e h1336
      have b1338 := CI_g5 ci (c := 15) (p := 4) rfl
      have i1339 := ti_rg x2
      have l1340 : ((1 : Int32)).toInt = 1 := rfl
      first | (have a1341 : (x2 + (1 : Int32)).toInt = (x2).toInt + ((1 : Int32)).toInt := ti_add (by omega) (by omega)) | (have a1342 := ti_rg (x2 + (1 : Int32)))
      unfold f_NA_remove_c_79
      have l1345 : ((0 : Int32)).toInt = 0 := rfl
      first | (have a1346 : ((mz_gI t 15 4) - (1 : Int32)).toInt = (mz_gI t 15 4).toInt - ((1 : Int32)).toInt := ti_sub (by omega) (by omega)) | (have a1347 := ti_rg ((mz_gI t 15 4) - (1 : Int32)))
      have m1348 := ti_mx (a := (0 : Int32)) (b := (mz_gI t 15 4) - (1 : Int32)) (x := (mz_gI t 15 4) - (1 : Int32)) (y := (0 : Int32))
      refine Tp_le (fun t1343 E1344 => ?_)
      have l1350 : (4 : Int32).toInt = 4 := rfl
      have ci1349 := CI_p5 ci E1344 rfl (by omega) (by omega)
      refine Tp_so ?_
      exact ci1349
    · have g1351 := ti_ne h1336
      have b1352 := CI_g5 ci (c := 15) (p := 4) rfl
      have i1353 := ti_rg x2
      have l1354 : ((1 : Int32)).toInt = 1 := rfl
      first | (have a1355 : (x2 + (1 : Int32)).toInt = (x2).toInt + ((1 : Int32)).toInt := ti_add (by omega) (by omega)) | (have a1356 := ti_rg (x2 + (1 : Int32)))
      refine Tp_if (fun h1357 => ?_) (fun h1357 => ?_)
      · have g1358 := ti_l h1357
        have l1359 : (0 : Int32).toInt = 0 := rfl
        unfold f_NA_remove_c_79
        have l1362 : ((0 : Int32)).toInt = 0 := rfl
        first | (have a1363 : ((mz_gI t 15 4) - (1 : Int32)).toInt = (mz_gI t 15 4).toInt - ((1 : Int32)).toInt := ti_sub (by omega) (by omega)) | (have a1364 := ti_rg ((mz_gI t 15 4) - (1 : Int32)))
        have m1365 := ti_mx (a := (0 : Int32)) (b := (mz_gI t 15 4) - (1 : Int32)) (x := (mz_gI t 15 4) - (1 : Int32)) (y := (0 : Int32))
        refine Tp_le (fun t1360 E1361 => ?_)
        have l1367 : (4 : Int32).toInt = 4 := rfl
        have ci1366 := CI_p5 ci E1361 rfl (by omega) (by omega)
        refine Tp_so ?_
        exact ci1366
      · have g1368 := ti_nl h1357
        have l1369 : (0 : Int32).toInt = 0 := rfl
        refine Tp_if (fun h1370 => ?_) (fun h1370 => ?_)
        · have g1371 := ti_e h1370
          have l1372 : ((64 : Int32)).toInt = 64 := rfl
          unfold f_NA_remove_c_79
          have l1375 : ((0 : Int32)).toInt = 0 := rfl
          first | (have a1376 : ((mz_gI t 15 4) - (1 : Int32)).toInt = (mz_gI t 15 4).toInt - ((1 : Int32)).toInt := ti_sub (by omega) (by omega)) | (have a1377 := ti_rg ((mz_gI t 15 4) - (1 : Int32)))
          have m1378 := ti_mx (a := (0 : Int32)) (b := (mz_gI t 15 4) - (1 : Int32)) (x := (mz_gI t 15 4) - (1 : Int32)) (y := (0 : Int32))
          refine Tp_le (fun t1373 E1374 => ?_)
          have l1380 : (4 : Int32).toInt = 4 := rfl
          have ci1379 := CI_p5 ci E1374 rfl (by omega) (by omega)
          refine Tp_so ?_
          exact ci1379
        · have g1381 := ti_ne h1370
          have l1382 : ((64 : Int32)).toInt = 64 := rfl
          refine Tp_gd (ti_ix (by omega) (by omega)) ?_
          refine Tp_gd (ti_ix (by omega) (by omega)) ?_
          have b1385 := CI_g9 ci (c := 17) (p := (x2 + (1 : Int32)).toNatClampNeg) rfl
          refine Tp_le (fun t1383 E1384 => ?_)
          have k1387 := ti_cl x2
          have ci1386 := CI_p9 ci E1384 rfl (by omega) (by omega)
          have l1388 : ((0 : Int32)).toInt = 0 := rfl
          refine Tp_mo (l_NA_remove_c_43 hn  n x2 (0 : Int32) t1383 ci1386 (by omega) (by omega) (by omega) (fun t9 c9 => ih (x2 + (1 : Int32)) t9 c9 (by omega) (by omega) (by omega)) (by omega)) (fun q1389 h1390 => ?_)
          have ci1391 := h1390
          exact ci1391
set_option maxRecDepth 4000 in
set_option maxHeartbeats 8000000 in
theorem s_NA_remove_c {n : Nat} {L : Int32} (hn : 8589934592 ≤ n) {x1 : Int32} {t : mz_St}  (ci : CI L t) (i0 : 0 ≤ x1.toInt) (i1 : x1.toInt < 64) : Tp (f_NA_remove_c n x1 t) (fun r => CI L r) := by
  unfold f_NA_remove_c
  have i1392 := ti_rg x1
  refine Tp_mo (l_NA_remove_c_2 hn  n x1 t ci (by omega) (by omega) (by omega)) (fun q1393 h1394 => ?_)
  have ci1395 := h1394
  exact ci1395
set_option maxRecDepth 4000 in
set_option maxHeartbeats 8000000 in
theorem s_CN_numberOf {n : Nat} {L : Int32} (hn : 8589934592 ≤ n) {x1 : Int32} {t : mz_St}  (ci : CI L t)  : Tp (f_CN_numberOf n x1 t) (fun r => CI L r.2 ∧ r.2 = t) := by
  unfold f_CN_numberOf
  refine Tp_if (fun h1396 => ?_) (fun h1396 => ?_)
  · have g1397 := ti_l h1396
    have i1398 := ti_rg x1
    have l1399 : (0 : Int32).toInt = 0 := rfl
    refine Tp_so ?_
    have l1400 : ((0 : Int32)).toInt = 0 := rfl
    exact ⟨ci, rfl⟩
  · have g1401 := ti_nl h1396
    have i1402 := ti_rg x1
    have l1403 : (0 : Int32).toInt = 0 := rfl
    refine Tp_if (fun h1404 => ?_) (fun h1404 => ?_)
    · have g1405 := ti_e h1404
      have b1406 := CI_g5 ci (c := 15) (p := 4) rfl
      refine Tp_so ?_
      have l1407 : ((0 : Int32)).toInt = 0 := rfl
      exact ⟨ci, rfl⟩
    · have g1408 := ti_ne h1404
      have b1409 := CI_g5 ci (c := 15) (p := 4) rfl
      refine Tp_if (fun h1410 => ?_) (fun h1410 => ?_)
      · have g1411 := ti_e h1410
        have l1412 : ((64 : Int32)).toInt = 64 := rfl
        refine Tp_so ?_
        have l1413 : ((0 : Int32)).toInt = 0 := rfl
        exact ⟨ci, rfl⟩
      · have g1414 := ti_ne h1410
        have l1415 : ((64 : Int32)).toInt = 64 := rfl
        refine Tp_gd (ti_ix (by omega) (by omega)) ?_
        refine Tp_so ?_
        have i1416 := ti_rg (mz_gI t 14 x1.toNatClampNeg)
        exact ⟨ci, rfl⟩
set_option maxRecDepth 4000 in
set_option maxHeartbeats 8000000 in
theorem s_CN_set {n : Nat} {L : Int32} (hn : 8589934592 ≤ n) {x1 : Int32} {x2 : Int32} {x3 : Int32} {t : mz_St}  (ci : CI L t)  : Tp (f_CN_set n x1 x2 x3 t) (fun r => CI L r.2 ∧ 0 ≤ (r.1).toInt ∧ (r.1).toInt ≤ 1) := by
  unfold f_CN_set
  have i1419 := ti_rg x1
  have i1420 := ti_rg x2
  refine Tp_bi (s_NA_find_c hn ci  (t := t) (x1 := x1) (x2 := x2)) (fun q1417 h1418 => ?_)
  obtain ⟨ci1421, E1422, p1423, p1424⟩ := h1418
  try rw [E1422]
  refine Tp_if (fun h1425 => ?_) (fun h1425 => ?_)
  · have g1426 := ti_q h1425
    have i1427 := ti_rg q1417.1
    have l1428 : ((-1 : Int32)).toInt = -1 := rfl
    refine Tp_bi (s_NA_isFull_c hn ci  (t := t)) (fun q1429 h1430 => ?_)
    obtain ⟨ci1431, E1432, p1433, p1434⟩ := h1430
    try rw [E1432]
    refine Tp_if (fun h1435 => ?_) (fun h1435 => ?_)
    · have g1436 := ti_q h1435
      have i1437 := ti_rg q1429.1
      have l1438 : (0 : Int32).toInt = 0 := rfl
      refine Tp_bi (s_NA_add_c hn ci  (t := t) (x1 := x1) (x2 := x2)) (fun q1439 h1440 => ?_)
      have ci1441 := h1440
      unfold f_CN_set_47
      refine Tp_if (fun h1442 => ?_) (fun h1442 => ?_)
      · have g1443 := ti_l h1442
        have b1444 := CI_g5 ci (c := 15) (p := 4) rfl
        refine Tp_so ?_
        have l1445 : ((1 : Int32)).toInt = 1 := rfl
        refine ⟨ci1441, ?_, ?_⟩
        · (try dsimp only) <;> first | omega | assumption
        · (try dsimp only) <;> first | omega | assumption
      · have g1446 := ti_nl h1442
        have b1447 := CI_g5 ci (c := 15) (p := 4) rfl
        refine Tp_if (fun h1448 => ?_) (fun h1448 => ?_)
        · have g1449 := ti_e h1448
          have l1450 : ((64 : Int32)).toInt = 64 := rfl
          refine Tp_so ?_
          have l1451 : ((1 : Int32)).toInt = 1 := rfl
          refine ⟨ci1441, ?_, ?_⟩
          · (try dsimp only) <;> first | omega | assumption
          · (try dsimp only) <;> first | omega | assumption
        · have g1452 := ti_ne h1448
          have l1453 : ((64 : Int32)).toInt = 64 := rfl
          refine Tp_gd (ti_ix (by omega) (by omega)) ?_
          have i1456 := ti_rg x3
          refine Tp_le (fun t1454 E1455 => ?_)
          have ci1457 := CI_p0 ci1441 E1455 rfl
          refine Tp_so ?_
          have l1458 : ((1 : Int32)).toInt = 1 := rfl
          refine ⟨ci1457, ?_, ?_⟩
          · (try dsimp only) <;> first | omega | assumption
          · (try dsimp only) <;> first | omega | assumption
    · have g1459 := ti_nq h1435
      have i1460 := ti_rg q1429.1
      have l1461 : (0 : Int32).toInt = 0 := rfl
      refine Tp_so ?_
      have l1462 : ((0 : Int32)).toInt = 0 := rfl
      refine ⟨ci, ?_, ?_⟩
      · (try dsimp only) <;> first | omega | assumption
      · (try dsimp only) <;> first | omega | assumption
  · have g1463 := ti_nq h1425
    have i1464 := ti_rg q1417.1
    have l1465 : ((-1 : Int32)).toInt = -1 := rfl
    unfold f_CN_set_47
    refine Tp_if (fun h1466 => ?_) (fun h1466 => ?_)
    · have g1467 := ti_l h1466
      have l1468 : (0 : Int32).toInt = 0 := rfl
      refine Tp_so ?_
      have l1469 : ((1 : Int32)).toInt = 1 := rfl
      refine ⟨ci, ?_, ?_⟩
      · (try dsimp only) <;> first | omega | assumption
      · (try dsimp only) <;> first | omega | assumption
    · have g1470 := ti_nl h1466
      have l1471 : (0 : Int32).toInt = 0 := rfl
      refine Tp_if (fun h1472 => ?_) (fun h1472 => ?_)
      · have g1473 := ti_e h1472
        have l1474 : ((64 : Int32)).toInt = 64 := rfl
        refine Tp_so ?_
        have l1475 : ((1 : Int32)).toInt = 1 := rfl
        refine ⟨ci, ?_, ?_⟩
        · (try dsimp only) <;> first | omega | assumption
        · (try dsimp only) <;> first | omega | assumption
      · have g1476 := ti_ne h1472
        have l1477 : ((64 : Int32)).toInt = 64 := rfl
        refine Tp_gd (ti_ix (by omega) (by omega)) ?_
        have i1480 := ti_rg x3
        refine Tp_le (fun t1478 E1479 => ?_)
        have ci1481 := CI_p0 ci E1479 rfl
        refine Tp_so ?_
        have l1482 : ((1 : Int32)).toInt = 1 := rfl
        refine ⟨ci1481, ?_, ?_⟩
        · (try dsimp only) <;> first | omega | assumption
        · (try dsimp only) <;> first | omega | assumption
set_option maxRecDepth 4000 in
set_option maxHeartbeats 8000000 in
theorem l_CN_forget_28 {n : Nat} {L : Int32} (hn : 8589934592 ≤ n)  : ∀ (k : Nat) (x4 : Int32) (t : mz_St), CI L t → (0 ≤ x4.toInt) → (x4.toInt ≤ 64) → (2147483648 - x4.toInt).toNat < k → Tp (f_CN_forget_28 n k x4 t) (fun r => CI L r.2 ∧ 0 ≤ (r.1).toInt ∧ (r.1).toInt ≤ 1) := by
  intro k
  induction k with
  | zero => intros; omega
  | succ k ih =>
    intro x4 t ci i0 i1 hm
    unfold f_CN_forget_28
    refine Tp_if (fun h1483 => ?_) (fun h1483 => ?_)
    · have g1484 := ti_e h1483
      have b1485 := CI_g5 ci (c := 15) (p := 4) rfl
      have i1486 := ti_rg x4
      refine Tp_so ?_
      have l1487 : ((1 : Int32)).toInt = 1 := rfl
      refine ⟨ci, ?_, ?_⟩
      · (try dsimp only) <;> first | omega | assumption
      · (try dsimp only) <;> first | omega | assumption
    · have g1488 := ti_ne h1483
      have b1489 := CI_g5 ci (c := 15) (p := 4) rfl
      have i1490 := ti_rg x4
      refine Tp_if (fun h1491 => ?_) (fun h1491 => ?_)
      · have g1492 := ti_l h1491
        have l1493 : (0 : Int32).toInt = 0 := rfl
        refine Tp_so ?_
        have l1494 : ((1 : Int32)).toInt = 1 := rfl
        refine ⟨ci, ?_, ?_⟩
        · (try dsimp only) <;> first | omega | assumption
        · (try dsimp only) <;> first | omega | assumption
      · have g1495 := ti_nl h1491
        have l1496 : (0 : Int32).toInt = 0 := rfl
        refine Tp_if (fun h1497 => ?_) (fun h1497 => ?_)
        · have g1498 := ti_e h1497
          have l1499 : ((64 : Int32)).toInt = 64 := rfl
          have l1500 : ((1 : Int32)).toInt = 1 := rfl
          first | (have a1501 : (x4 + (1 : Int32)).toInt = (x4).toInt + ((1 : Int32)).toInt := ti_add (by omega) (by omega)) | (have a1502 := ti_rg (x4 + (1 : Int32)))
          refine Tp_so ?_
          refine ⟨ci, ?_, ?_⟩
          · (try dsimp only) <;> first | omega | assumption
          · (try dsimp only) <;> first | omega | assumption
        · have g1503 := ti_ne h1497
          have l1504 : ((64 : Int32)).toInt = 64 := rfl
          have l1505 : ((1 : Int32)).toInt = 1 := rfl
          first | (have a1506 : (x4 + (1 : Int32)).toInt = (x4).toInt + ((1 : Int32)).toInt := ti_add (by omega) (by omega)) | (have a1507 := ti_rg (x4 + (1 : Int32)))
          refine Tp_gd (ti_ix (by omega) (by omega)) ?_
          refine Tp_gd (ti_ix (by omega) (by omega)) ?_
          have i1510 := ti_rg (mz_gI t 14 (x4 + (1 : Int32)).toNatClampNeg)
          refine Tp_le (fun t1508 E1509 => ?_)
          have ci1511 := CI_p0 ci E1509 rfl
          exact ih (x4 + (1 : Int32)) t1508 ci1511 (by omega) (by omega) (by omega)
set_option maxRecDepth 4000 in
set_option maxHeartbeats 8000000 in
theorem s_CN_forget {n : Nat} {L : Int32} (hn : 8589934592 ≤ n) {x1 : Int32} {x2 : Int32} {t : mz_St}  (ci : CI L t)  : Tp (f_CN_forget n x1 x2 t) (fun r => CI L r.2 ∧ 0 ≤ (r.1).toInt ∧ (r.1).toInt ≤ 1) := by
  unfold f_CN_forget
  have i1514 := ti_rg x1
  have i1515 := ti_rg x2
  refine Tp_bi (s_NA_find_c hn ci  (t := t) (x1 := x1) (x2 := x2)) (fun q1512 h1513 => ?_)
  obtain ⟨ci1516, E1517, p1518, p1519⟩ := h1513
  try rw [E1517]
  refine Tp_if (fun h1520 => ?_) (fun h1520 => ?_)
  · have g1521 := ti_q h1520
    have i1522 := ti_rg q1512.1
    have l1523 : ((-1 : Int32)).toInt = -1 := rfl
    refine Tp_so ?_
    have l1524 : ((0 : Int32)).toInt = 0 := rfl
    refine ⟨ci, ?_, ?_⟩
    · (try dsimp only) <;> first | omega | assumption
    · (try dsimp only) <;> first | omega | assumption
  · have g1525 := ti_nq h1520
    have i1526 := ti_rg q1512.1
    have l1527 : ((-1 : Int32)).toInt = -1 := rfl
    refine Tp_bi (s_NA_remove_c hn ci (by omega) (by omega) (t := t) (x1 := q1512.1)) (fun q1528 h1529 => ?_)
    have ci1530 := h1529
    refine Tp_mo (l_CN_forget_28 hn  n q1512.1 q1528 ci1530 (by omega) (by omega) (by omega)) (fun q1531 h1532 => ?_)
    obtain ⟨ci1533, p1534, p1535⟩ := h1532
    have i1536 := ti_rg q1531.1
    refine ⟨ci1533, ?_, ?_⟩
    · (try dsimp only) <;> first | omega | assumption
    · (try dsimp only) <;> first | omega | assumption
set_option maxRecDepth 4000 in
set_option maxHeartbeats 8000000 in
theorem s_CO_isAny {n : Nat} {L : Int32} (hn : 8589934592 ≤ n) {t : mz_St}  (ci : CI L t)  : Tp (f_CO_isAny n t) (fun r => CI L r.2 ∧ r.2 = t ∧ 0 ≤ (r.1).toInt ∧ (r.1).toInt ≤ 1 ∧ ((r.1).toInt = 0 ∨ 0 < (mz_gI t 7 5).toInt ∧ (mz_gI t 7 5).toInt ≤ 8)) := by
  unfold f_CO_isAny
  have i1537 := ti_rg (mz_gI t 7 5)
  refine Tp_if (fun h1538 => ?_) (fun h1538 => ?_)
  · have g1539 := ti_e h1538
    have l1540 : (0 : Int32).toInt = 0 := rfl
    refine Tp_so ?_
    have l1541 : ((0 : Int32)).toInt = 0 := rfl
    refine ⟨ci, rfl, ?_, ?_, ?_⟩
    · (try dsimp only) <;> first | omega | assumption
    · (try dsimp only) <;> first | omega | assumption
    · (try dsimp only) <;> first | omega | assumption
  · have g1542 := ti_ne h1538
    have l1543 : (0 : Int32).toInt = 0 := rfl
    refine Tp_if (fun h1544 => ?_) (fun h1544 => ?_)
    · have g1545 := ti_l h1544
      have l1546 : ((8 : Int32)).toInt = 8 := rfl
      refine Tp_so ?_
      have l1547 : ((0 : Int32)).toInt = 0 := rfl
      refine ⟨ci, rfl, ?_, ?_, ?_⟩
      · (try dsimp only) <;> first | omega | assumption
      · (try dsimp only) <;> first | omega | assumption
      · (try dsimp only) <;> first | omega | assumption
    · have g1548 := ti_nl h1544
      have l1549 : ((8 : Int32)).toInt = 8 := rfl
      refine Tp_so ?_
      have l1550 : ((1 : Int32)).toInt = 1 := rfl
      refine ⟨ci, rfl, ?_, ?_, ?_⟩
      · (try dsimp only) <;> first | omega | assumption
      · (try dsimp only) <;> first | omega | assumption
      · (try dsimp only) <;> first | omega | assumption
set_option maxRecDepth 4000 in
set_option maxHeartbeats 8000000 in
theorem s_CO_lineOfInnermost {n : Nat} {L : Int32} (hn : 8589934592 ≤ n) {t : mz_St}  (ci : CI L t)  : Tp (f_CO_lineOfInnermost n t) (fun r => CI L r.2 ∧ r.2 = t) := by
  unfold f_CO_lineOfInnermost
  refine Tp_bi (s_CO_isAny hn ci  (t := t)) (fun q1551 h1552 => ?_)
  obtain ⟨ci1553, E1554, p1555, p1556, p1557⟩ := h1552
  have i1558 := ti_rg (mz_gI t 7 5)
  try rw [E1554]
  refine Tp_if (fun h1559 => ?_) (fun h1559 => ?_)
  · have g1560 := ti_q h1559
    have i1561 := ti_rg q1551.1
    have l1562 : (0 : Int32).toInt = 0 := rfl
    refine Tp_so ?_
    have l1563 : ((-1 : Int32)).toInt = -1 := rfl
    exact ⟨ci, rfl⟩
  · have g1564 := ti_nq h1559
    have i1565 := ti_rg q1551.1
    have l1566 : (0 : Int32).toInt = 0 := rfl
    have l1567 : ((1 : Int32)).toInt = 1 := rfl
    first | (have a1568 : ((mz_gI t 7 5) - (1 : Int32)).toInt = (mz_gI t 7 5).toInt - ((1 : Int32)).toInt := ti_sub (by omega) (by omega)) | (have a1569 := ti_rg ((mz_gI t 7 5) - (1 : Int32)))
    refine Tp_gd (ti_ix (by omega) (by omega)) ?_
    refine Tp_so ?_
    have i1570 := ti_rg (mz_gI t 12 ((mz_gI t 7 5) - (1 : Int32)).toNatClampNeg)
    exact ⟨ci, rfl⟩
set_option maxRecDepth 4000 in
set_option maxHeartbeats 8000000 in
theorem s_CO_live {n : Nat} {L : Int32} (hn : 8589934592 ≤ n) {t : mz_St}  (ci : CI L t)  : Tp (f_CO_live n t) (fun r => CI L r.2 ∧ r.2 = t ∧ 0 ≤ (r.1).toInt ∧ (r.1).toInt ≤ 1) := by
  unfold f_CO_live
  refine Tp_bi (s_CO_isAny hn ci  (t := t)) (fun q1571 h1572 => ?_)
  obtain ⟨ci1573, E1574, p1575, p1576, p1577⟩ := h1572
  have i1578 := ti_rg (mz_gI t 7 5)
  try rw [E1574]
  refine Tp_if (fun h1579 => ?_) (fun h1579 => ?_)
  · have g1580 := ti_q h1579
    have i1581 := ti_rg q1571.1
    have l1582 : (0 : Int32).toInt = 0 := rfl
    unfold f_CO_live_21
    refine Tp_so ?_
    have l1583 : ((1 : Int32)).toInt = 1 := rfl
    refine ⟨ci, rfl, ?_, ?_⟩
    · (try dsimp only) <;> first | omega | assumption
    · (try dsimp only) <;> first | omega | assumption
  · have g1584 := ti_nq h1579
    have i1585 := ti_rg q1571.1
    have l1586 : (0 : Int32).toInt = 0 := rfl
    have l1587 : ((1 : Int32)).toInt = 1 := rfl
    first | (have a1588 : ((mz_gI t 7 5) - (1 : Int32)).toInt = (mz_gI t 7 5).toInt - ((1 : Int32)).toInt := ti_sub (by omega) (by omega)) | (have a1589 := ti_rg ((mz_gI t 7 5) - (1 : Int32)))
    refine Tp_gd (ti_ix (by omega) (by omega)) ?_
    refine Tp_if (fun h1590 => ?_) (fun h1590 => ?_)
    · have g1591 := ti_q h1590
      have b1592 := CI_g2 ci (c := 9) (p := ((mz_gI t 7 5) - (1 : Int32)).toNatClampNeg) rfl
      refine Tp_so ?_
      have l1593 : ((0 : Int32)).toInt = 0 := rfl
      refine ⟨ci, rfl, ?_, ?_⟩
      · (try dsimp only) <;> first | omega | assumption
      · (try dsimp only) <;> first | omega | assumption
    · have g1594 := ti_nq h1590
      have b1595 := CI_g2 ci (c := 9) (p := ((mz_gI t 7 5) - (1 : Int32)).toNatClampNeg) rfl
      unfold f_CO_live_21
      refine Tp_so ?_
      refine ⟨ci, rfl, ?_, ?_⟩
      · (try dsimp only) <;> first | omega | assumption
      · (try dsimp only) <;> first | omega | assumption
set_option maxRecDepth 4000 in
set_option maxHeartbeats 8000000 in
theorem s_CO_waits {n : Nat} {L : Int32} (hn : 8589934592 ≤ n) {t : mz_St}  (ci : CI L t)  : Tp (f_CO_waits n t) (fun r => CI L r.2 ∧ r.2 = t ∧ 0 ≤ (r.1).toInt ∧ (r.1).toInt ≤ 1) := by
  unfold f_CO_waits
  refine Tp_bi (s_CO_isAny hn ci  (t := t)) (fun q1596 h1597 => ?_)
  obtain ⟨ci1598, E1599, p1600, p1601, p1602⟩ := h1597
  have i1603 := ti_rg (mz_gI t 7 5)
  try rw [E1599]
  refine Tp_if (fun h1604 => ?_) (fun h1604 => ?_)
  · have g1605 := ti_q h1604
    have i1606 := ti_rg q1596.1
    have l1607 : (0 : Int32).toInt = 0 := rfl
    refine Tp_so ?_
    have l1608 : ((0 : Int32)).toInt = 0 := rfl
    refine ⟨ci, rfl, ?_, ?_⟩
    · (try dsimp only) <;> first | omega | assumption
    · (try dsimp only) <;> first | omega | assumption
  · have g1609 := ti_nq h1604
    have i1610 := ti_rg q1596.1
    have l1611 : (0 : Int32).toInt = 0 := rfl
    have l1612 : ((1 : Int32)).toInt = 1 := rfl
    first | (have a1613 : ((mz_gI t 7 5) - (1 : Int32)).toInt = (mz_gI t 7 5).toInt - ((1 : Int32)).toInt := ti_sub (by omega) (by omega)) | (have a1614 := ti_rg ((mz_gI t 7 5) - (1 : Int32)))
    refine Tp_gd (ti_ix (by omega) (by omega)) ?_
    refine Tp_if (fun h1615 => ?_) (fun h1615 => ?_)
    · have g1616 := ti_q h1615
      have b1617 := CI_g2 ci (c := 8) (p := ((mz_gI t 7 5) - (1 : Int32)).toNatClampNeg) rfl
      refine Tp_so ?_
      have l1618 : ((0 : Int32)).toInt = 0 := rfl
      refine ⟨ci, rfl, ?_, ?_⟩
      · (try dsimp only) <;> first | omega | assumption
      · (try dsimp only) <;> first | omega | assumption
    · have g1619 := ti_nq h1615
      have b1620 := CI_g2 ci (c := 8) (p := ((mz_gI t 7 5) - (1 : Int32)).toNatClampNeg) rfl
      refine Tp_gd (ti_ix (by omega) (by omega)) ?_
      refine Tp_if (fun h1621 => ?_) (fun h1621 => ?_)
      · have g1622 := ti_q h1621
        have b1623 := CI_g2 ci (c := 10) (p := ((mz_gI t 7 5) - (1 : Int32)).toNatClampNeg) rfl
        refine Tp_so ?_
        refine ⟨ci, rfl, ?_, ?_⟩
        · (try dsimp only) <;> first | omega | assumption
        · (try dsimp only) <;> first | omega | assumption
      · have g1624 := ti_nq h1621
        have b1625 := CI_g2 ci (c := 10) (p := ((mz_gI t 7 5) - (1 : Int32)).toNatClampNeg) rfl
        refine Tp_so ?_
        have l1626 : ((0 : Int32)).toInt = 0 := rfl
        refine ⟨ci, rfl, ?_, ?_⟩
        · (try dsimp only) <;> first | omega | assumption
        · (try dsimp only) <;> first | omega | assumption
set_option maxRecDepth 4000 in
set_option maxHeartbeats 8000000 in
theorem s_CO_open {n : Nat} {L : Int32} (hn : 8589934592 ≤ n) {x1 : Int32} {x2 : Int32} {x3 : Int32} {t : mz_St}  (ci : CI L t) (i0 : 0 ≤ x1.toInt) (i1 : x1.toInt ≤ 1) (i2 : 0 ≤ x2.toInt) (i3 : x2.toInt ≤ 1) : Tp (f_CO_open n x1 x2 x3 t) (fun r => CI L r.2 ∧ 0 ≤ (r.1).toInt ∧ (r.1).toInt ≤ 1) := by
  unfold f_CO_open
  refine Tp_if (fun h1627 => ?_) (fun h1627 => ?_)
  · have g1628 := ti_l h1627
    have i1629 := ti_rg (mz_gI t 7 5)
    have l1630 : (0 : Int32).toInt = 0 := rfl
    refine Tp_so ?_
    have l1631 : ((0 : Int32)).toInt = 0 := rfl
    refine ⟨ci, ?_, ?_⟩
    · (try dsimp only) <;> first | omega | assumption
    · (try dsimp only) <;> first | omega | assumption
  · have g1632 := ti_nl h1627
    have i1633 := ti_rg (mz_gI t 7 5)
    have l1634 : (0 : Int32).toInt = 0 := rfl
    refine Tp_if (fun h1635 => ?_) (fun h1635 => ?_)
    · have g1636 := ti_l h1635
      have l1637 : ((8 : Int32)).toInt = 8 := rfl
      refine Tp_gd (ti_ix (by omega) (by omega)) ?_
      have b1640 := ti_nb x1
      refine Tp_le (fun t1638 E1639 => ?_)
      have k1642 := ti_cl (mz_gI t 7 5)
      have ci1641 := CI_p2 ci E1639 rfl (by omega) (by omega)
      refine Tp_if (fun h1643 => ?_) (fun h1643 => ?_)
      · have g1644 := ti_q h1643
        have i1645 := ti_rg x1
        unfold f_CO_open_48
        unfold f_CO_open_49
        have i1646 := ti_rg (mz_gI t1638 7 5)
        have e1647 : (mz_gI t1638 7 5).toInt = (mz_gI t 7 5).toInt := by rw [E1639, gI_oth _ _ (by simp)]
        refine Tp_gd (ti_ix (by omega) (by omega)) ?_
        have b1650 := ti_nb (0 : Int32)
        refine Tp_le (fun t1648 E1649 => ?_)
        have k1652 := ti_cl (mz_gI t1638 7 5)
        have ci1651 := CI_p2 ci1641 E1649 rfl (by omega) (by omega)
        refine Tp_if (fun h1653 => ?_) (fun h1653 => ?_)
        · have g1654 := ti_q h1653
          unfold f_CO_open_70
          unfold f_CO_open_71
          have i1655 := ti_rg (mz_gI t1648 7 5)
          have e1656 : (mz_gI t1648 7 5).toInt = (mz_gI t1638 7 5).toInt := by rw [E1649, gI_oth _ _ (by simp)]
          refine Tp_gd (ti_ix (by omega) (by omega)) ?_
          refine Tp_le (fun t1657 E1658 => ?_)
          have k1660 := ti_cl (mz_gI t1648 7 5)
          have ci1659 := CI_p2 ci1651 E1658 rfl (by omega) (by omega)
          have i1661 := ti_rg (mz_gI t1657 7 5)
          have e1662 : (mz_gI t1657 7 5).toInt = (mz_gI t1648 7 5).toInt := by rw [E1658, gI_oth _ _ (by simp)]
          refine Tp_gd (ti_ix (by omega) (by omega)) ?_
          refine Tp_le (fun t1663 E1664 => ?_)
          have k1666 := ti_cl (mz_gI t1657 7 5)
          have ci1665 := CI_p2 ci1659 E1664 rfl (by omega) (by omega)
          have i1667 := ti_rg (mz_gI t1663 7 5)
          have e1668 : (mz_gI t1663 7 5).toInt = (mz_gI t1657 7 5).toInt := by rw [E1664, gI_oth _ _ (by simp)]
          refine Tp_gd (ti_ix (by omega) (by omega)) ?_
          have i1671 := ti_rg x3
          refine Tp_le (fun t1669 E1670 => ?_)
          have ci1672 := CI_p0 ci1665 E1670 rfl
          have i1675 := ti_rg (mz_gI t1669 7 5)
          have e1676 : (mz_gI t1669 7 5).toInt = (mz_gI t1663 7 5).toInt := by rw [E1670, gI_oth _ _ (by simp)]
          have l1677 : ((1 : Int32)).toInt = 1 := rfl
          first | (have a1678 : ((mz_gI t1669 7 5) + (1 : Int32)).toInt = (mz_gI t1669 7 5).toInt + ((1 : Int32)).toInt := ti_add (by omega) (by omega)) | (have a1679 := ti_rg ((mz_gI t1669 7 5) + (1 : Int32)))
          refine Tp_le (fun t1673 E1674 => ?_)
          have ci1680 := CI_p0 ci1672 E1674 rfl
          refine Tp_so ?_
          refine ⟨ci1680, ?_, ?_⟩
          · (try dsimp only) <;> first | omega | assumption
          · (try dsimp only) <;> first | omega | assumption
        · have g1681 := ti_nq h1653
          refine Tp_if (fun h1682 => ?_) (fun h1682 => ?_)
          · have g1683 := ti_q h1682
            have i1684 := ti_rg x2
            unfold f_CO_open_70
            unfold f_CO_open_71
            have i1685 := ti_rg (mz_gI t1648 7 5)
            have e1686 : (mz_gI t1648 7 5).toInt = (mz_gI t1638 7 5).toInt := by rw [E1649, gI_oth _ _ (by simp)]
            refine Tp_gd (ti_ix (by omega) (by omega)) ?_
            refine Tp_le (fun t1687 E1688 => ?_)
            have k1690 := ti_cl (mz_gI t1648 7 5)
            have ci1689 := CI_p2 ci1651 E1688 rfl (by omega) (by omega)
            have i1691 := ti_rg (mz_gI t1687 7 5)
            have e1692 : (mz_gI t1687 7 5).toInt = (mz_gI t1648 7 5).toInt := by rw [E1688, gI_oth _ _ (by simp)]
            refine Tp_gd (ti_ix (by omega) (by omega)) ?_
            refine Tp_le (fun t1693 E1694 => ?_)
            have k1696 := ti_cl (mz_gI t1687 7 5)
            have ci1695 := CI_p2 ci1689 E1694 rfl (by omega) (by omega)
            have i1697 := ti_rg (mz_gI t1693 7 5)
            have e1698 : (mz_gI t1693 7 5).toInt = (mz_gI t1687 7 5).toInt := by rw [E1694, gI_oth _ _ (by simp)]
            refine Tp_gd (ti_ix (by omega) (by omega)) ?_
            have i1701 := ti_rg x3
            refine Tp_le (fun t1699 E1700 => ?_)
            have ci1702 := CI_p0 ci1695 E1700 rfl
            have i1705 := ti_rg (mz_gI t1699 7 5)
            have e1706 : (mz_gI t1699 7 5).toInt = (mz_gI t1693 7 5).toInt := by rw [E1700, gI_oth _ _ (by simp)]
            have l1707 : ((1 : Int32)).toInt = 1 := rfl
            first | (have a1708 : ((mz_gI t1699 7 5) + (1 : Int32)).toInt = (mz_gI t1699 7 5).toInt + ((1 : Int32)).toInt := ti_add (by omega) (by omega)) | (have a1709 := ti_rg ((mz_gI t1699 7 5) + (1 : Int32)))
            refine Tp_le (fun t1703 E1704 => ?_)
            have ci1710 := CI_p0 ci1702 E1704 rfl
            refine Tp_so ?_
            refine ⟨ci1710, ?_, ?_⟩
            · (try dsimp only) <;> first | omega | assumption
            · (try dsimp only) <;> first | omega | assumption
          · have g1711 := ti_nq h1682
            have i1712 := ti_rg x2
            unfold f_CO_open_71
            have i1713 := ti_rg (mz_gI t1648 7 5)
            have e1714 : (mz_gI t1648 7 5).toInt = (mz_gI t1638 7 5).toInt := by rw [E1649, gI_oth _ _ (by simp)]
            refine Tp_gd (ti_ix (by omega) (by omega)) ?_
            have b1717 := ti_nb (1 : Int32)
            refine Tp_le (fun t1715 E1716 => ?_)
            have k1719 := ti_cl (mz_gI t1648 7 5)
            have ci1718 := CI_p2 ci1651 E1716 rfl (by omega) (by omega)
            have i1720 := ti_rg (mz_gI t1715 7 5)
            have e1721 : (mz_gI t1715 7 5).toInt = (mz_gI t1648 7 5).toInt := by rw [E1716, gI_oth _ _ (by simp)]
            refine Tp_gd (ti_ix (by omega) (by omega)) ?_
            refine Tp_le (fun t1722 E1723 => ?_)
            have k1725 := ti_cl (mz_gI t1715 7 5)
            have ci1724 := CI_p2 ci1718 E1723 rfl (by omega) (by omega)
            have i1726 := ti_rg (mz_gI t1722 7 5)
            have e1727 : (mz_gI t1722 7 5).toInt = (mz_gI t1715 7 5).toInt := by rw [E1723, gI_oth _ _ (by simp)]
            refine Tp_gd (ti_ix (by omega) (by omega)) ?_
            have i1730 := ti_rg x3
            refine Tp_le (fun t1728 E1729 => ?_)
            have ci1731 := CI_p0 ci1724 E1729 rfl
            have i1734 := ti_rg (mz_gI t1728 7 5)
            have e1735 : (mz_gI t1728 7 5).toInt = (mz_gI t1722 7 5).toInt := by rw [E1729, gI_oth _ _ (by simp)]
            have l1736 : ((1 : Int32)).toInt = 1 := rfl
            first | (have a1737 : ((mz_gI t1728 7 5) + (1 : Int32)).toInt = (mz_gI t1728 7 5).toInt + ((1 : Int32)).toInt := ti_add (by omega) (by omega)) | (have a1738 := ti_rg ((mz_gI t1728 7 5) + (1 : Int32)))
            refine Tp_le (fun t1732 E1733 => ?_)
            have ci1739 := CI_p0 ci1731 E1733 rfl
            refine Tp_so ?_
            refine ⟨ci1739, ?_, ?_⟩
            · (try dsimp only) <;> first | omega | assumption
            · (try dsimp only) <;> first | omega | assumption
      · have g1740 := ti_nq h1643
        have i1741 := ti_rg x1
        refine Tp_if (fun h1742 => ?_) (fun h1742 => ?_)
        · have g1743 := ti_q h1742
          have i1744 := ti_rg x2
          unfold f_CO_open_48
          unfold f_CO_open_49
          have i1745 := ti_rg (mz_gI t1638 7 5)
          have e1746 : (mz_gI t1638 7 5).toInt = (mz_gI t 7 5).toInt := by rw [E1639, gI_oth _ _ (by simp)]
          refine Tp_gd (ti_ix (by omega) (by omega)) ?_
          have b1749 := ti_nb (0 : Int32)
          refine Tp_le (fun t1747 E1748 => ?_)
          have k1751 := ti_cl (mz_gI t1638 7 5)
          have ci1750 := CI_p2 ci1641 E1748 rfl (by omega) (by omega)
          refine Tp_if (fun h1752 => ?_) (fun h1752 => ?_)
          · have g1753 := ti_q h1752
            unfold f_CO_open_70
            unfold f_CO_open_71
            have i1754 := ti_rg (mz_gI t1747 7 5)
            have e1755 : (mz_gI t1747 7 5).toInt = (mz_gI t1638 7 5).toInt := by rw [E1748, gI_oth _ _ (by simp)]
            refine Tp_gd (ti_ix (by omega) (by omega)) ?_
            refine Tp_le (fun t1756 E1757 => ?_)
            have k1759 := ti_cl (mz_gI t1747 7 5)
            have ci1758 := CI_p2 ci1750 E1757 rfl (by omega) (by omega)
            have i1760 := ti_rg (mz_gI t1756 7 5)
            have e1761 : (mz_gI t1756 7 5).toInt = (mz_gI t1747 7 5).toInt := by rw [E1757, gI_oth _ _ (by simp)]
            refine Tp_gd (ti_ix (by omega) (by omega)) ?_
            refine Tp_le (fun t1762 E1763 => ?_)
            have k1765 := ti_cl (mz_gI t1756 7 5)
            have ci1764 := CI_p2 ci1758 E1763 rfl (by omega) (by omega)
            have i1766 := ti_rg (mz_gI t1762 7 5)
            have e1767 : (mz_gI t1762 7 5).toInt = (mz_gI t1756 7 5).toInt := by rw [E1763, gI_oth _ _ (by simp)]
            refine Tp_gd (ti_ix (by omega) (by omega)) ?_
            have i1770 := ti_rg x3
            refine Tp_le (fun t1768 E1769 => ?_)
            have ci1771 := CI_p0 ci1764 E1769 rfl
            have i1774 := ti_rg (mz_gI t1768 7 5)
            have e1775 : (mz_gI t1768 7 5).toInt = (mz_gI t1762 7 5).toInt := by rw [E1769, gI_oth _ _ (by simp)]
            have l1776 : ((1 : Int32)).toInt = 1 := rfl
            first | (have a1777 : ((mz_gI t1768 7 5) + (1 : Int32)).toInt = (mz_gI t1768 7 5).toInt + ((1 : Int32)).toInt := ti_add (by omega) (by omega)) | (have a1778 := ti_rg ((mz_gI t1768 7 5) + (1 : Int32)))
            refine Tp_le (fun t1772 E1773 => ?_)
            have ci1779 := CI_p0 ci1771 E1773 rfl
            refine Tp_so ?_
            refine ⟨ci1779, ?_, ?_⟩
            · (try dsimp only) <;> first | omega | assumption
            · (try dsimp only) <;> first | omega | assumption
          · have g1780 := ti_nq h1752
            refine Tp_if (fun h1781 => ?_) (fun h1781 => ?_)
            · have g1782 := ti_q h1781
              unfold f_CO_open_70
              unfold f_CO_open_71
              have i1783 := ti_rg (mz_gI t1747 7 5)
              have e1784 : (mz_gI t1747 7 5).toInt = (mz_gI t1638 7 5).toInt := by rw [E1748, gI_oth _ _ (by simp)]
              refine Tp_gd (ti_ix (by omega) (by omega)) ?_
              refine Tp_le (fun t1785 E1786 => ?_)
              have k1788 := ti_cl (mz_gI t1747 7 5)
              have ci1787 := CI_p2 ci1750 E1786 rfl (by omega) (by omega)
              have i1789 := ti_rg (mz_gI t1785 7 5)
              have e1790 : (mz_gI t1785 7 5).toInt = (mz_gI t1747 7 5).toInt := by rw [E1786, gI_oth _ _ (by simp)]
              refine Tp_gd (ti_ix (by omega) (by omega)) ?_
              refine Tp_le (fun t1791 E1792 => ?_)
              have k1794 := ti_cl (mz_gI t1785 7 5)
              have ci1793 := CI_p2 ci1787 E1792 rfl (by omega) (by omega)
              have i1795 := ti_rg (mz_gI t1791 7 5)
              have e1796 : (mz_gI t1791 7 5).toInt = (mz_gI t1785 7 5).toInt := by rw [E1792, gI_oth _ _ (by simp)]
              refine Tp_gd (ti_ix (by omega) (by omega)) ?_
              have i1799 := ti_rg x3
              refine Tp_le (fun t1797 E1798 => ?_)
              have ci1800 := CI_p0 ci1793 E1798 rfl
              have i1803 := ti_rg (mz_gI t1797 7 5)
              have e1804 : (mz_gI t1797 7 5).toInt = (mz_gI t1791 7 5).toInt := by rw [E1798, gI_oth _ _ (by simp)]
              have l1805 : ((1 : Int32)).toInt = 1 := rfl
              first | (have a1806 : ((mz_gI t1797 7 5) + (1 : Int32)).toInt = (mz_gI t1797 7 5).toInt + ((1 : Int32)).toInt := ti_add (by omega) (by omega)) | (have a1807 := ti_rg ((mz_gI t1797 7 5) + (1 : Int32)))
              refine Tp_le (fun t1801 E1802 => ?_)
              have ci1808 := CI_p0 ci1800 E1802 rfl
              refine Tp_so ?_
              refine ⟨ci1808, ?_, ?_⟩
              · (try dsimp only) <;> first | omega | assumption
              · (try dsimp only) <;> first | omega | assumption
            · have g1809 := ti_nq h1781
              unfold f_CO_open_71
              have i1810 := ti_rg (mz_gI t1747 7 5)
              have e1811 : (mz_gI t1747 7 5).toInt = (mz_gI t1638 7 5).toInt := by rw [E1748, gI_oth _ _ (by simp)]
              refine Tp_gd (ti_ix (by omega) (by omega)) ?_
              have b1814 := ti_nb (1 : Int32)
              refine Tp_le (fun t1812 E1813 => ?_)
              have k1816 := ti_cl (mz_gI t1747 7 5)
              have ci1815 := CI_p2 ci1750 E1813 rfl (by omega) (by omega)
              have i1817 := ti_rg (mz_gI t1812 7 5)
              have e1818 : (mz_gI t1812 7 5).toInt = (mz_gI t1747 7 5).toInt := by rw [E1813, gI_oth _ _ (by simp)]
              refine Tp_gd (ti_ix (by omega) (by omega)) ?_
              refine Tp_le (fun t1819 E1820 => ?_)
              have k1822 := ti_cl (mz_gI t1812 7 5)
              have ci1821 := CI_p2 ci1815 E1820 rfl (by omega) (by omega)
              have i1823 := ti_rg (mz_gI t1819 7 5)
              have e1824 : (mz_gI t1819 7 5).toInt = (mz_gI t1812 7 5).toInt := by rw [E1820, gI_oth _ _ (by simp)]
              refine Tp_gd (ti_ix (by omega) (by omega)) ?_
              have i1827 := ti_rg x3
              refine Tp_le (fun t1825 E1826 => ?_)
              have ci1828 := CI_p0 ci1821 E1826 rfl
              have i1831 := ti_rg (mz_gI t1825 7 5)
              have e1832 : (mz_gI t1825 7 5).toInt = (mz_gI t1819 7 5).toInt := by rw [E1826, gI_oth _ _ (by simp)]
              have l1833 : ((1 : Int32)).toInt = 1 := rfl
              first | (have a1834 : ((mz_gI t1825 7 5) + (1 : Int32)).toInt = (mz_gI t1825 7 5).toInt + ((1 : Int32)).toInt := ti_add (by omega) (by omega)) | (have a1835 := ti_rg ((mz_gI t1825 7 5) + (1 : Int32)))
              refine Tp_le (fun t1829 E1830 => ?_)
              have ci1836 := CI_p0 ci1828 E1830 rfl
              refine Tp_so ?_
              refine ⟨ci1836, ?_, ?_⟩
              · (try dsimp only) <;> first | omega | assumption
              · (try dsimp only) <;> first | omega | assumption
        · have g1837 := ti_nq h1742
          have i1838 := ti_rg x2
          unfold f_CO_open_49
          have i1839 := ti_rg (mz_gI t1638 7 5)
          have e1840 : (mz_gI t1638 7 5).toInt = (mz_gI t 7 5).toInt := by rw [E1639, gI_oth _ _ (by simp)]
          refine Tp_gd (ti_ix (by omega) (by omega)) ?_
          have b1843 := ti_nb (1 : Int32)
          refine Tp_le (fun t1841 E1842 => ?_)
          have k1845 := ti_cl (mz_gI t1638 7 5)
          have ci1844 := CI_p2 ci1641 E1842 rfl (by omega) (by omega)
          refine Tp_if (fun h1846 => ?_) (fun h1846 => ?_)
          · have g1847 := ti_q h1846
            unfold f_CO_open_70
            unfold f_CO_open_71
            have i1848 := ti_rg (mz_gI t1841 7 5)
            have e1849 : (mz_gI t1841 7 5).toInt = (mz_gI t1638 7 5).toInt := by rw [E1842, gI_oth _ _ (by simp)]
            refine Tp_gd (ti_ix (by omega) (by omega)) ?_
            have b1852 := ti_nb (0 : Int32)
            refine Tp_le (fun t1850 E1851 => ?_)
            have k1854 := ti_cl (mz_gI t1841 7 5)
            have ci1853 := CI_p2 ci1844 E1851 rfl (by omega) (by omega)
            have i1855 := ti_rg (mz_gI t1850 7 5)
            have e1856 : (mz_gI t1850 7 5).toInt = (mz_gI t1841 7 5).toInt := by rw [E1851, gI_oth _ _ (by simp)]
            refine Tp_gd (ti_ix (by omega) (by omega)) ?_
            refine Tp_le (fun t1857 E1858 => ?_)
            have k1860 := ti_cl (mz_gI t1850 7 5)
            have ci1859 := CI_p2 ci1853 E1858 rfl (by omega) (by omega)
            have i1861 := ti_rg (mz_gI t1857 7 5)
            have e1862 : (mz_gI t1857 7 5).toInt = (mz_gI t1850 7 5).toInt := by rw [E1858, gI_oth _ _ (by simp)]
            refine Tp_gd (ti_ix (by omega) (by omega)) ?_
            have i1865 := ti_rg x3
            refine Tp_le (fun t1863 E1864 => ?_)
            have ci1866 := CI_p0 ci1859 E1864 rfl
            have i1869 := ti_rg (mz_gI t1863 7 5)
            have e1870 : (mz_gI t1863 7 5).toInt = (mz_gI t1857 7 5).toInt := by rw [E1864, gI_oth _ _ (by simp)]
            have l1871 : ((1 : Int32)).toInt = 1 := rfl
            first | (have a1872 : ((mz_gI t1863 7 5) + (1 : Int32)).toInt = (mz_gI t1863 7 5).toInt + ((1 : Int32)).toInt := ti_add (by omega) (by omega)) | (have a1873 := ti_rg ((mz_gI t1863 7 5) + (1 : Int32)))
            refine Tp_le (fun t1867 E1868 => ?_)
            have ci1874 := CI_p0 ci1866 E1868 rfl
            refine Tp_so ?_
            refine ⟨ci1874, ?_, ?_⟩
            · (try dsimp only) <;> first | omega | assumption
            · (try dsimp only) <;> first | omega | assumption
          · have g1875 := ti_nq h1846
            refine Tp_if (fun h1876 => ?_) (fun h1876 => ?_)
            · have g1877 := ti_q h1876
              unfold f_CO_open_70
              unfold f_CO_open_71
              have i1878 := ti_rg (mz_gI t1841 7 5)
              have e1879 : (mz_gI t1841 7 5).toInt = (mz_gI t1638 7 5).toInt := by rw [E1842, gI_oth _ _ (by simp)]
              refine Tp_gd (ti_ix (by omega) (by omega)) ?_
              have b1882 := ti_nb (0 : Int32)
              refine Tp_le (fun t1880 E1881 => ?_)
              have k1884 := ti_cl (mz_gI t1841 7 5)
              have ci1883 := CI_p2 ci1844 E1881 rfl (by omega) (by omega)
              have i1885 := ti_rg (mz_gI t1880 7 5)
              have e1886 : (mz_gI t1880 7 5).toInt = (mz_gI t1841 7 5).toInt := by rw [E1881, gI_oth _ _ (by simp)]
              refine Tp_gd (ti_ix (by omega) (by omega)) ?_
              refine Tp_le (fun t1887 E1888 => ?_)
              have k1890 := ti_cl (mz_gI t1880 7 5)
              have ci1889 := CI_p2 ci1883 E1888 rfl (by omega) (by omega)
              have i1891 := ti_rg (mz_gI t1887 7 5)
              have e1892 : (mz_gI t1887 7 5).toInt = (mz_gI t1880 7 5).toInt := by rw [E1888, gI_oth _ _ (by simp)]
              refine Tp_gd (ti_ix (by omega) (by omega)) ?_
              have i1895 := ti_rg x3
              refine Tp_le (fun t1893 E1894 => ?_)
              have ci1896 := CI_p0 ci1889 E1894 rfl
              have i1899 := ti_rg (mz_gI t1893 7 5)
              have e1900 : (mz_gI t1893 7 5).toInt = (mz_gI t1887 7 5).toInt := by rw [E1894, gI_oth _ _ (by simp)]
              have l1901 : ((1 : Int32)).toInt = 1 := rfl
              first | (have a1902 : ((mz_gI t1893 7 5) + (1 : Int32)).toInt = (mz_gI t1893 7 5).toInt + ((1 : Int32)).toInt := ti_add (by omega) (by omega)) | (have a1903 := ti_rg ((mz_gI t1893 7 5) + (1 : Int32)))
              refine Tp_le (fun t1897 E1898 => ?_)
              have ci1904 := CI_p0 ci1896 E1898 rfl
              refine Tp_so ?_
              refine ⟨ci1904, ?_, ?_⟩
              · (try dsimp only) <;> first | omega | assumption
              · (try dsimp only) <;> first | omega | assumption
            · have g1905 := ti_nq h1876
              unfold f_CO_open_71
              have i1906 := ti_rg (mz_gI t1841 7 5)
              have e1907 : (mz_gI t1841 7 5).toInt = (mz_gI t1638 7 5).toInt := by rw [E1842, gI_oth _ _ (by simp)]
              refine Tp_gd (ti_ix (by omega) (by omega)) ?_
              refine Tp_le (fun t1908 E1909 => ?_)
              have k1911 := ti_cl (mz_gI t1841 7 5)
              have ci1910 := CI_p2 ci1844 E1909 rfl (by omega) (by omega)
              have i1912 := ti_rg (mz_gI t1908 7 5)
              have e1913 : (mz_gI t1908 7 5).toInt = (mz_gI t1841 7 5).toInt := by rw [E1909, gI_oth _ _ (by simp)]
              refine Tp_gd (ti_ix (by omega) (by omega)) ?_
              have b1916 := ti_nb (0 : Int32)
              refine Tp_le (fun t1914 E1915 => ?_)
              have k1918 := ti_cl (mz_gI t1908 7 5)
              have ci1917 := CI_p2 ci1910 E1915 rfl (by omega) (by omega)
              have i1919 := ti_rg (mz_gI t1914 7 5)
              have e1920 : (mz_gI t1914 7 5).toInt = (mz_gI t1908 7 5).toInt := by rw [E1915, gI_oth _ _ (by simp)]
              refine Tp_gd (ti_ix (by omega) (by omega)) ?_
              have i1923 := ti_rg x3
              refine Tp_le (fun t1921 E1922 => ?_)
              have ci1924 := CI_p0 ci1917 E1922 rfl
              have i1927 := ti_rg (mz_gI t1921 7 5)
              have e1928 : (mz_gI t1921 7 5).toInt = (mz_gI t1914 7 5).toInt := by rw [E1922, gI_oth _ _ (by simp)]
              have l1929 : ((1 : Int32)).toInt = 1 := rfl
              first | (have a1930 : ((mz_gI t1921 7 5) + (1 : Int32)).toInt = (mz_gI t1921 7 5).toInt + ((1 : Int32)).toInt := ti_add (by omega) (by omega)) | (have a1931 := ti_rg ((mz_gI t1921 7 5) + (1 : Int32)))
              refine Tp_le (fun t1925 E1926 => ?_)
              have ci1932 := CI_p0 ci1924 E1926 rfl
              refine Tp_so ?_
              refine ⟨ci1932, ?_, ?_⟩
              · (try dsimp only) <;> first | omega | assumption
              · (try dsimp only) <;> first | omega | assumption
    · have g1933 := ti_nl h1635
      have l1934 : ((8 : Int32)).toInt = 8 := rfl
      refine Tp_so ?_
      have l1935 : ((0 : Int32)).toInt = 0 := rfl
      refine ⟨ci, ?_, ?_⟩
      · (try dsimp only) <;> first | omega | assumption
      · (try dsimp only) <;> first | omega | assumption
