/-! TOTAL: written by vcg.py -/
set_option maxRecDepth 4000 in
set_option maxHeartbeats 8000000 in
theorem s_RE_next {n : Nat} {L : Int32} (hn : 8589934592 ≤ n) {t : mz_St}  (ci : CI L t)  : Tp (f_RE_next n t) (fun r => CI L r.2 ∧ ((r.1).toInt = -1 ∨ (mz_gI r.2 6 2).toInt < (mz_gI r.2 6 3).toInt)) := by
  unfold f_RE_next
  have b2829 := CI_g1 ci (c := 6) (p := 2) rfl
  have b2830 := CI_g1 ci (c := 6) (p := 3) rfl
  refine Tp_bi (s_SI_behindBlanks hn ci  (t := t) (x1 := mz_gI t 6 2) (x2 := mz_gI t 6 3)) (fun q2827 h2828 => ?_)
  obtain ⟨ci2831, E2832, p2833, p2834⟩ := h2828
  try rw [E2832]
  have i2837 := ti_rg q2827.1
  refine Tp_le (fun t2835 E2836 => ?_)
  have l2839 : (2 : Int32).toInt = 2 := rfl
  have ci2838 := CI_p1 ci E2836 rfl (by omega) (by omega)
  refine Tp_if (fun h2840 => ?_) (fun h2840 => ?_)
  · have g2841 := ti_e h2840
    have b2842 := CI_g1 ci2838 (c := 6) (p := 3) rfl
    have e2843 : (mz_gI t2835 6 3).toInt = (mz_gI t 6 3).toInt := by rw [E2836, gI_oth _ _ (by simp)]
    have b2844 := CI_g1 ci2838 (c := 6) (p := 2) rfl
    have e2845 : (mz_gI t2835 6 2).toInt = (q2827.1).toInt := by rw [E2836, gI_same]
    refine Tp_so ?_
    have l2846 : ((-1 : Int32)).toInt = -1 := rfl
    refine ⟨ci2838, ?_⟩
    · (try dsimp only) <;> first | omega | assumption
  · have g2847 := ti_ne h2840
    have b2848 := CI_g1 ci2838 (c := 6) (p := 3) rfl
    have e2849 : (mz_gI t2835 6 3).toInt = (mz_gI t 6 3).toInt := by rw [E2836, gI_oth _ _ (by simp)]
    have b2850 := CI_g1 ci2838 (c := 6) (p := 2) rfl
    have e2851 : (mz_gI t2835 6 2).toInt = (q2827.1).toInt := by rw [E2836, gI_same]
    refine Tp_bi (s_SI_at hn ci2838  (t := t2835) (x1 := mz_gI t2835 6 2)) (fun q2852 h2853 => ?_)
    obtain ⟨ci2854, E2855⟩ := h2853
    try rw [E2855]
    refine Tp_so ?_
    have i2856 := ti_rg q2852.1
    refine ⟨ci2838, ?_⟩
    · (try dsimp only) <;> first | omega | assumption
set_option maxRecDepth 4000 in
set_option maxHeartbeats 8000000 in
theorem s_RE_takePair {n : Nat} {L : Int32} (hn : 8589934592 ≤ n) {x1 : Int32} {x2 : Int32} {t : mz_St}  (ci : CI L t)  : Tp (f_RE_takePair n x1 x2 t) (fun r => CI L r.2 ∧ 0 ≤ (r.1).toInt ∧ (r.1).toInt ≤ 1) := by
  unfold f_RE_takePair
  refine Tp_bi (s_RE_next hn ci  (t := t)) (fun q2857 h2858 => ?_)
  obtain ⟨ci2859, p2860⟩ := h2858
  have b2861 := CI_g1 ci2859 (c := 6) (p := 2) rfl
  have b2862 := CI_g1 ci (c := 6) (p := 2) rfl
  have b2863 := CI_g1 ci2859 (c := 6) (p := 3) rfl
  have b2864 := CI_g1 ci (c := 6) (p := 3) rfl
  refine Tp_if (fun h2865 => ?_) (fun h2865 => ?_)
  · have g2866 := ti_q h2865
    have i2867 := ti_rg q2857.1
    have i2868 := ti_rg x1
    refine Tp_if (fun h2869 => ?_) (fun h2869 => ?_)
    · have g2870 := ti_e h2869
      have l2871 : ((1 : Int32)).toInt = 1 := rfl
      first | (have a2872 : ((mz_gI q2857.2 6 2) + (1 : Int32)).toInt = (mz_gI q2857.2 6 2).toInt + ((1 : Int32)).toInt := ti_add (by omega) (by omega)) | (have a2873 := ti_rg ((mz_gI q2857.2 6 2) + (1 : Int32)))
      refine Tp_so ?_
      have l2874 : ((0 : Int32)).toInt = 0 := rfl
      refine ⟨ci2859, ?_, ?_⟩
      · (try dsimp only) <;> first | omega | assumption
      · (try dsimp only) <;> first | omega | assumption
    · have g2875 := ti_ne h2869
      have l2876 : ((1 : Int32)).toInt = 1 := rfl
      first | (have a2877 : ((mz_gI q2857.2 6 2) + (1 : Int32)).toInt = (mz_gI q2857.2 6 2).toInt + ((1 : Int32)).toInt := ti_add (by omega) (by omega)) | (have a2878 := ti_rg ((mz_gI q2857.2 6 2) + (1 : Int32)))
      refine Tp_bi (s_SI_at hn ci2859  (t := q2857.2) (x1 := (mz_gI q2857.2 6 2) + (1 : Int32))) (fun q2879 h2880 => ?_)
      obtain ⟨ci2881, E2882⟩ := h2880
      try rw [E2882]
      refine Tp_if (fun h2883 => ?_) (fun h2883 => ?_)
      · have g2884 := ti_q h2883
        have i2885 := ti_rg q2879.1
        have i2886 := ti_rg x2
        have l2889 : ((2 : Int32)).toInt = 2 := rfl
        first | (have a2890 : ((mz_gI q2857.2 6 2) + (2 : Int32)).toInt = (mz_gI q2857.2 6 2).toInt + ((2 : Int32)).toInt := ti_add (by omega) (by omega)) | (have a2891 := ti_rg ((mz_gI q2857.2 6 2) + (2 : Int32)))
        refine Tp_le (fun t2887 E2888 => ?_)
        have l2893 : (2 : Int32).toInt = 2 := rfl
        have ci2892 := CI_p1 ci2859 E2888 rfl (by omega) (by omega)
        refine Tp_so ?_
        refine ⟨ci2892, ?_, ?_⟩
        · (try dsimp only) <;> first | omega | assumption
        · (try dsimp only) <;> first | omega | assumption
      · have g2894 := ti_nq h2883
        have i2895 := ti_rg q2879.1
        have i2896 := ti_rg x2
        refine Tp_so ?_
        have l2897 : ((0 : Int32)).toInt = 0 := rfl
        refine ⟨ci2859, ?_, ?_⟩
        · (try dsimp only) <;> first | omega | assumption
        · (try dsimp only) <;> first | omega | assumption
  · have g2898 := ti_nq h2865
    have i2899 := ti_rg q2857.1
    have i2900 := ti_rg x1
    refine Tp_so ?_
    have l2901 : ((0 : Int32)).toInt = 0 := rfl
    refine ⟨ci2859, ?_, ?_⟩
    · (try dsimp only) <;> first | omega | assumption
    · (try dsimp only) <;> first | omega | assumption
set_option maxRecDepth 4000 in
set_option maxHeartbeats 8000000 in
theorem s_RE_readValue {n : Nat} {L : Int32} (hn : 8589934592 ≤ n) {fa : Int32 → mz_St → Option (Int32 × mz_St)} {x1 : Int32} {t : mz_St} (hfa : ∀ t : mz_St, CI L t → Tp (fa x1 t) (fun r => CI L r.2))  (ci : CI L t)  : Tp (f_RE_readValue n fa x1 t) (fun r => CI L r.2) := by
  unfold f_RE_readValue
  have i2904 := ti_rg x1
  refine Tp_bi (s_RE_sum hn ci  (t := t) (fa := fa) (x1 := x1) (hfa := hfa)) (fun q2902 h2903 => ?_)
  have ci2905 := h2903
  have l2908 : ((61 : Int32)).toInt = 61 := rfl
  refine Tp_bi (s_RE_takePair hn ci2905  (t := q2902.2) (x1 := (61 : Int32)) (x2 := (61 : Int32))) (fun q2906 h2907 => ?_)
  obtain ⟨ci2909, p2910, p2911⟩ := h2907
  refine Tp_if (fun h2912 => ?_) (fun h2912 => ?_)
  · have g2913 := ti_q h2912
    have i2914 := ti_rg q2906.1
    have l2915 : (0 : Int32).toInt = 0 := rfl
    have l2918 : ((33 : Int32)).toInt = 33 := rfl
    refine Tp_bi (s_RE_takePair hn ci2909  (t := q2906.2) (x1 := (33 : Int32)) (x2 := (61 : Int32))) (fun q2916 h2917 => ?_)
    obtain ⟨ci2919, p2920, p2921⟩ := h2917
    refine Tp_if (fun h2922 => ?_) (fun h2922 => ?_)
    · have g2923 := ti_q h2922
      have i2924 := ti_rg q2916.1
      have l2927 : ((60 : Int32)).toInt = 60 := rfl
      refine Tp_bi (s_RE_takePair hn ci2919  (t := q2916.2) (x1 := (60 : Int32)) (x2 := (61 : Int32))) (fun q2925 h2926 => ?_)
      obtain ⟨ci2928, p2929, p2930⟩ := h2926
      refine Tp_if (fun h2931 => ?_) (fun h2931 => ?_)
      · have g2932 := ti_q h2931
        have i2933 := ti_rg q2925.1
        refine Tp_bi (s_RE_take hn ci2928  (t := q2925.2) (x1 := (60 : Int32))) (fun q2934 h2935 => ?_)
        obtain ⟨ci2936, p2937, p2938⟩ := h2935
        refine Tp_if (fun h2939 => ?_) (fun h2939 => ?_)
        · have g2940 := ti_q h2939
          have i2941 := ti_rg q2934.1
          refine Tp_so ?_
          have i2942 := ti_rg q2902.1
          exact ci2936
        · have g2943 := ti_nq h2939
          have i2944 := ti_rg q2934.1
          refine Tp_bi (s_RE_sum hn ci2936  (t := q2934.2) (fa := fa) (x1 := x1) (hfa := hfa)) (fun q2945 h2946 => ?_)
          have ci2947 := h2946
          refine Tp_if (fun h2948 => ?_) (fun h2948 => ?_)
          · have g2949 := ti_e h2948
            have i2950 := ti_rg q2945.1
            have i2951 := ti_rg q2902.1
            refine Tp_so ?_
            have l2952 : ((0 : Int32)).toInt = 0 := rfl
            exact ci2947
          · have g2953 := ti_ne h2948
            have i2954 := ti_rg q2945.1
            have i2955 := ti_rg q2902.1
            refine Tp_so ?_
            have l2956 : ((1 : Int32)).toInt = 1 := rfl
            exact ci2947
      · have g2957 := ti_nq h2931
        have i2958 := ti_rg q2925.1
        refine Tp_bi (s_RE_sum hn ci2928  (t := q2925.2) (fa := fa) (x1 := x1) (hfa := hfa)) (fun q2959 h2960 => ?_)
        have ci2961 := h2960
        refine Tp_if (fun h2962 => ?_) (fun h2962 => ?_)
        · have g2963 := ti_l h2962
          have i2964 := ti_rg q2959.1
          have i2965 := ti_rg q2902.1
          refine Tp_so ?_
          have l2966 : ((0 : Int32)).toInt = 0 := rfl
          exact ci2961
        · have g2967 := ti_nl h2962
          have i2968 := ti_rg q2959.1
          have i2969 := ti_rg q2902.1
          refine Tp_so ?_
          have l2970 : ((1 : Int32)).toInt = 1 := rfl
          exact ci2961
    · have g2971 := ti_nq h2922
      have i2972 := ti_rg q2916.1
      refine Tp_bi (s_RE_sum hn ci2919  (t := q2916.2) (fa := fa) (x1 := x1) (hfa := hfa)) (fun q2973 h2974 => ?_)
      have ci2975 := h2974
      refine Tp_if (fun h2976 => ?_) (fun h2976 => ?_)
      · have g2977 := ti_q h2976
        have i2978 := ti_rg q2902.1
        have i2979 := ti_rg q2973.1
        refine Tp_so ?_
        have l2980 : ((0 : Int32)).toInt = 0 := rfl
        exact ci2975
      · have g2981 := ti_nq h2976
        have i2982 := ti_rg q2902.1
        have i2983 := ti_rg q2973.1
        refine Tp_so ?_
        have l2984 : ((1 : Int32)).toInt = 1 := rfl
        exact ci2975
  · have g2985 := ti_nq h2912
    have i2986 := ti_rg q2906.1
    have l2987 : (0 : Int32).toInt = 0 := rfl
    refine Tp_bi (s_RE_sum hn ci2909  (t := q2906.2) (fa := fa) (x1 := x1) (hfa := hfa)) (fun q2988 h2989 => ?_)
    have ci2990 := h2989
    refine Tp_if (fun h2991 => ?_) (fun h2991 => ?_)
    · have g2992 := ti_q h2991
      have i2993 := ti_rg q2902.1
      have i2994 := ti_rg q2988.1
      refine Tp_so ?_
      have l2995 : ((1 : Int32)).toInt = 1 := rfl
      exact ci2990
    · have g2996 := ti_nq h2991
      have i2997 := ti_rg q2902.1
      have i2998 := ti_rg q2988.1
      refine Tp_so ?_
      have l2999 : ((0 : Int32)).toInt = 0 := rfl
      exact ci2990
set_option maxRecDepth 4000 in
set_option maxHeartbeats 8000000 in
theorem s_RE_isDone {n : Nat} {L : Int32} (hn : 8589934592 ≤ n) {t : mz_St}  (ci : CI L t)  : Tp (f_RE_isDone n t) (fun r => CI L r.2 ∧ 0 ≤ (r.1).toInt ∧ (r.1).toInt ≤ 1) := by
  unfold f_RE_isDone
  refine Tp_bi (s_RE_next hn ci  (t := t)) (fun q3000 h3001 => ?_)
  obtain ⟨ci3002, p3003⟩ := h3001
  have b3004 := CI_g1 ci3002 (c := 6) (p := 2) rfl
  have b3005 := CI_g1 ci (c := 6) (p := 2) rfl
  have b3006 := CI_g1 ci3002 (c := 6) (p := 3) rfl
  have b3007 := CI_g1 ci (c := 6) (p := 3) rfl
  refine Tp_if (fun h3008 => ?_) (fun h3008 => ?_)
  · have g3009 := ti_q h3008
    have i3010 := ti_rg q3000.1
    have l3011 : ((-1 : Int32)).toInt = -1 := rfl
    refine Tp_so ?_
    have l3012 : ((1 : Int32)).toInt = 1 := rfl
    refine ⟨ci3002, ?_, ?_⟩
    · (try dsimp only) <;> first | omega | assumption
    · (try dsimp only) <;> first | omega | assumption
  · have g3013 := ti_nq h3008
    have i3014 := ti_rg q3000.1
    have l3015 : ((-1 : Int32)).toInt = -1 := rfl
    refine Tp_so ?_
    have l3016 : ((0 : Int32)).toInt = 0 := rfl
    refine ⟨ci3002, ?_, ?_⟩
    · (try dsimp only) <;> first | omega | assumption
    · (try dsimp only) <;> first | omega | assumption
set_option maxRecDepth 4000 in
set_option maxHeartbeats 8000000 in
theorem s_RE_refuse {n : Nat} {L : Int32} (hn : 8589934592 ≤ n) {t : mz_St}  (ci : CI L t)  : Tp (f_RE_refuse n t) (fun r => CI L r.2) := by
  unfold f_RE_refuse
  have l3019 : ((1 : Int32)).toInt = 1 := rfl
  refine Tp_le (fun t3017 E3018 => ?_)
  have l3021 : (6 : Int32).toInt = 6 := rfl
  have ci3020 := CI_p2 ci E3018 rfl (by omega) (by omega)
  refine Tp_so ?_
  have l3022 : ((0 : Int32)).toInt = 0 := rfl
  exact ci3020
set_option maxRecDepth 4000 in
set_option maxHeartbeats 8000000 in
theorem s_RE_bracketed {n : Nat} {L : Int32} (hn : 8589934592 ≤ n) {fa : Int32 → mz_St → Option (Int32 × mz_St)} {x1 : Int32} {t : mz_St} (hfa : ∀ t : mz_St, CI L t → Tp (fa x1 t) (fun r => CI L r.2))  (ci : CI L t)  : Tp (f_RE_bracketed n fa x1 t) (fun r => CI L r.2) := by
  unfold f_RE_bracketed
  have i3025 := ti_rg x1
  refine Tp_bi (s_RE_readValue hn ci  (t := t) (fa := fa) (x1 := x1) (hfa := hfa)) (fun q3023 h3024 => ?_)
  have ci3026 := h3024
  have l3029 : ((41 : Int32)).toInt = 41 := rfl
  refine Tp_bi (s_RE_take hn ci3026  (t := q3023.2) (x1 := (41 : Int32))) (fun q3027 h3028 => ?_)
  obtain ⟨ci3030, p3031, p3032⟩ := h3028
  refine Tp_if (fun h3033 => ?_) (fun h3033 => ?_)
  · have g3034 := ti_q h3033
    have i3035 := ti_rg q3027.1
    have l3036 : (0 : Int32).toInt = 0 := rfl
    refine Tp_bi (s_RE_refuse hn ci3030  (t := q3027.2)) (fun q3037 h3038 => ?_)
    have ci3039 := h3038
    refine Tp_so ?_
    have i3040 := ti_rg q3037.1
    exact ci3039
  · have g3041 := ti_nq h3033
    have i3042 := ti_rg q3027.1
    have l3043 : (0 : Int32).toInt = 0 := rfl
    refine Tp_so ?_
    have i3044 := ti_rg q3023.1
    exact ci3030
set_option maxRecDepth 4000 in
set_option maxHeartbeats 8000000 in
theorem l_RE_number_4 {n : Nat} {L : Int32} (hn : 8589934592 ≤ n)  : ∀ (k : Nat) (x1 : Int32) (x2 : Int32) (t : mz_St), CI L t → (2147483648 - (mz_gI t 6 2).toInt).toNat < k → Tp (f_RE_number_4 n k x1 x2 t) (fun r => CI L r.2) := by
  intro k
  induction k with
  | zero => intros; omega
  | succ k ih =>
    intro x1 x2 t ci  hm
    unfold f_RE_number_4
    have b3045 := CI_g1 ci (c := 6) (p := 2) rfl
    refine Tp_if (fun h3046 => ?_) (fun h3046 => ?_)
    · have g3047 := ti_e h3046
      have b3048 := CI_g1 ci (c := 6) (p := 3) rfl
      unfold f_RE_number_68
      refine Tp_if (fun h3049 => ?_) (fun h3049 => ?_)
      · have g3050 := ti_e h3049
        unfold f_RE_number_100
        unfold f_RE_number_101
        refine Tp_if (fun h3051 => ?_) (fun h3051 => ?_)
        · have g3052 := ti_q h3051
          have l3053 : ((0 : Int32)).toInt = 0 := rfl
          have l3054 : (0 : Int32).toInt = 0 := rfl
          refine Tp_if (fun h3055 => ?_) (fun h3055 => ?_)
          · have g3056 := ti_e h3055
            have i3057 := ti_rg x2
            have l3058 : ((9 : Int32)).toInt = 9 := rfl
            refine Tp_so ?_
            have i3059 := ti_rg x1
            exact ci
          · have g3060 := ti_ne h3055
            have i3061 := ti_rg x2
            have l3062 : ((9 : Int32)).toInt = 9 := rfl
            unfold f_RE_number_112
            refine Tp_bi (s_RE_refuse hn ci  (t := t)) (fun q3063 h3064 => ?_)
            have ci3065 := h3064
            refine Tp_so ?_
            have i3066 := ti_rg q3063.1
            exact ci3065
        · have g3067 := ti_nq h3051
          have l3068 : ((0 : Int32)).toInt = 0 := rfl
          have l3069 : (0 : Int32).toInt = 0 := rfl
          unfold f_RE_number_112
          refine Tp_bi (s_RE_refuse hn ci  (t := t)) (fun q3070 h3071 => ?_)
          have ci3072 := h3071
          refine Tp_so ?_
          have i3073 := ti_rg q3070.1
          exact ci3072
      · have g3074 := ti_ne h3049
        refine Tp_bi (s_SI_at hn ci  (t := t) (x1 := mz_gI t 6 2)) (fun q3075 h3076 => ?_)
        obtain ⟨ci3077, E3078⟩ := h3076
        try rw [E3078]
        have i3081 := ti_rg q3075.1
        refine Tp_bi (s_SI_beginsWord hn ci  (t := t) (x0 := q3075.1)) (fun q3079 h3080 => ?_)
        obtain ⟨ci3082, E3083, p3084, p3085⟩ := h3080
        try rw [E3083]
        refine Tp_if (fun h3086 => ?_) (fun h3086 => ?_)
        · have g3087 := ti_q h3086
          have i3088 := ti_rg q3079.1
          have l3089 : (0 : Int32).toInt = 0 := rfl
          unfold f_RE_number_100
          unfold f_RE_number_101
          refine Tp_if (fun h3090 => ?_) (fun h3090 => ?_)
          · have g3091 := ti_q h3090
            have l3092 : ((0 : Int32)).toInt = 0 := rfl
            refine Tp_if (fun h3093 => ?_) (fun h3093 => ?_)
            · have g3094 := ti_e h3093
              have i3095 := ti_rg x2
              have l3096 : ((9 : Int32)).toInt = 9 := rfl
              refine Tp_so ?_
              have i3097 := ti_rg x1
              exact ci
            · have g3098 := ti_ne h3093
              have i3099 := ti_rg x2
              have l3100 : ((9 : Int32)).toInt = 9 := rfl
              unfold f_RE_number_112
              refine Tp_bi (s_RE_refuse hn ci  (t := t)) (fun q3101 h3102 => ?_)
              have ci3103 := h3102
              refine Tp_so ?_
              have i3104 := ti_rg q3101.1
              exact ci3103
          · have g3105 := ti_nq h3090
            have l3106 : ((0 : Int32)).toInt = 0 := rfl
            unfold f_RE_number_112
            refine Tp_bi (s_RE_refuse hn ci  (t := t)) (fun q3107 h3108 => ?_)
            have ci3109 := h3108
            refine Tp_so ?_
            have i3110 := ti_rg q3107.1
            exact ci3109
        · have g3111 := ti_nq h3086
          have i3112 := ti_rg q3079.1
          have l3113 : (0 : Int32).toInt = 0 := rfl
          unfold f_RE_number_101
          refine Tp_if (fun h3114 => ?_) (fun h3114 => ?_)
          · have g3115 := ti_q h3114
            have l3116 : ((1 : Int32)).toInt = 1 := rfl
            refine Tp_if (fun h3117 => ?_) (fun h3117 => ?_)
            · have g3118 := ti_e h3117
              have i3119 := ti_rg x2
              have l3120 : ((9 : Int32)).toInt = 9 := rfl
              refine Tp_so ?_
              have i3121 := ti_rg x1
              exact ci
            · have g3122 := ti_ne h3117
              have i3123 := ti_rg x2
              have l3124 : ((9 : Int32)).toInt = 9 := rfl
              unfold f_RE_number_112
              refine Tp_bi (s_RE_refuse hn ci  (t := t)) (fun q3125 h3126 => ?_)
              have ci3127 := h3126
              refine Tp_so ?_
              have i3128 := ti_rg q3125.1
              exact ci3127
          · have g3129 := ti_nq h3114
            have l3130 : ((1 : Int32)).toInt = 1 := rfl
            unfold f_RE_number_112
            refine Tp_bi (s_RE_refuse hn ci  (t := t)) (fun q3131 h3132 => ?_)
            have ci3133 := h3132
            refine Tp_so ?_
            have i3134 := ti_rg q3131.1
            exact ci3133
    · have g3135 := ti_ne h3046
      have b3136 := CI_g1 ci (c := 6) (p := 3) rfl
      refine Tp_bi (s_SI_at hn ci  (t := t) (x1 := mz_gI t 6 2)) (fun q3137 h3138 => ?_)
      obtain ⟨ci3139, E3140⟩ := h3138
      try rw [E3140]
      have i3143 := ti_rg q3137.1
      refine Tp_bi (s_SI_isDigit hn ci  (t := t) (x0 := q3137.1)) (fun q3141 h3142 => ?_)
      obtain ⟨ci3144, E3145, p3146, p3147⟩ := h3142
      try rw [E3145]
      refine Tp_if (fun h3148 => ?_) (fun h3148 => ?_)
      · have g3149 := ti_q h3148
        have i3150 := ti_rg q3141.1
        have l3151 : (0 : Int32).toInt = 0 := rfl
        unfold f_RE_number_68
        refine Tp_if (fun h3152 => ?_) (fun h3152 => ?_)
        · have g3153 := ti_e h3152
          unfold f_RE_number_100
          unfold f_RE_number_101
          refine Tp_if (fun h3154 => ?_) (fun h3154 => ?_)
          · have g3155 := ti_q h3154
            have l3156 : ((0 : Int32)).toInt = 0 := rfl
            refine Tp_if (fun h3157 => ?_) (fun h3157 => ?_)
            · have g3158 := ti_e h3157
              have i3159 := ti_rg x2
              have l3160 : ((9 : Int32)).toInt = 9 := rfl
              refine Tp_so ?_
              have i3161 := ti_rg x1
              exact ci
            · have g3162 := ti_ne h3157
              have i3163 := ti_rg x2
              have l3164 : ((9 : Int32)).toInt = 9 := rfl
              unfold f_RE_number_112
              refine Tp_bi (s_RE_refuse hn ci  (t := t)) (fun q3165 h3166 => ?_)
              have ci3167 := h3166
              refine Tp_so ?_
              have i3168 := ti_rg q3165.1
              exact ci3167
          · have g3169 := ti_nq h3154
            have l3170 : ((0 : Int32)).toInt = 0 := rfl
            unfold f_RE_number_112
            refine Tp_bi (s_RE_refuse hn ci  (t := t)) (fun q3171 h3172 => ?_)
            have ci3173 := h3172
            refine Tp_so ?_
            have i3174 := ti_rg q3171.1
            exact ci3173
        · have g3175 := ti_ne h3152
          refine Tp_bi (s_SI_at hn ci  (t := t) (x1 := mz_gI t 6 2)) (fun q3176 h3177 => ?_)
          obtain ⟨ci3178, E3179⟩ := h3177
          try rw [E3179]
          have i3182 := ti_rg q3176.1
          refine Tp_bi (s_SI_beginsWord hn ci  (t := t) (x0 := q3176.1)) (fun q3180 h3181 => ?_)
          obtain ⟨ci3183, E3184, p3185, p3186⟩ := h3181
          try rw [E3184]
          refine Tp_if (fun h3187 => ?_) (fun h3187 => ?_)
          · have g3188 := ti_q h3187
            have i3189 := ti_rg q3180.1
            unfold f_RE_number_100
            unfold f_RE_number_101
            refine Tp_if (fun h3190 => ?_) (fun h3190 => ?_)
            · have g3191 := ti_q h3190
              have l3192 : ((0 : Int32)).toInt = 0 := rfl
              refine Tp_if (fun h3193 => ?_) (fun h3193 => ?_)
              · have g3194 := ti_e h3193
                have i3195 := ti_rg x2
                have l3196 : ((9 : Int32)).toInt = 9 := rfl
                refine Tp_so ?_
                have i3197 := ti_rg x1
                exact ci
              · have g3198 := ti_ne h3193
                have i3199 := ti_rg x2
                have l3200 : ((9 : Int32)).toInt = 9 := rfl
                unfold f_RE_number_112
                refine Tp_bi (s_RE_refuse hn ci  (t := t)) (fun q3201 h3202 => ?_)
                have ci3203 := h3202
                refine Tp_so ?_
                have i3204 := ti_rg q3201.1
                exact ci3203
            · have g3205 := ti_nq h3190
              have l3206 : ((0 : Int32)).toInt = 0 := rfl
              unfold f_RE_number_112
              refine Tp_bi (s_RE_refuse hn ci  (t := t)) (fun q3207 h3208 => ?_)
              have ci3209 := h3208
              refine Tp_so ?_
              have i3210 := ti_rg q3207.1
              exact ci3209
          · have g3211 := ti_nq h3187
            have i3212 := ti_rg q3180.1
            unfold f_RE_number_101
            refine Tp_if (fun h3213 => ?_) (fun h3213 => ?_)
            · have g3214 := ti_q h3213
              have l3215 : ((1 : Int32)).toInt = 1 := rfl
              refine Tp_if (fun h3216 => ?_) (fun h3216 => ?_)
              · have g3217 := ti_e h3216
                have i3218 := ti_rg x2
                have l3219 : ((9 : Int32)).toInt = 9 := rfl
                refine Tp_so ?_
                have i3220 := ti_rg x1
                exact ci
              · have g3221 := ti_ne h3216
                have i3222 := ti_rg x2
                have l3223 : ((9 : Int32)).toInt = 9 := rfl
                unfold f_RE_number_112
                refine Tp_bi (s_RE_refuse hn ci  (t := t)) (fun q3224 h3225 => ?_)
                have ci3226 := h3225
                refine Tp_so ?_
                have i3227 := ti_rg q3224.1
                exact ci3226
            · have g3228 := ti_nq h3213
              have l3229 : ((1 : Int32)).toInt = 1 := rfl
              unfold f_RE_number_112
              refine Tp_bi (s_RE_refuse hn ci  (t := t)) (fun q3230 h3231 => ?_)
              have ci3232 := h3231
              refine Tp_so ?_
              have i3233 := ti_rg q3230.1
              exact ci3232
      · have g3234 := ti_nq h3148
        have i3235 := ti_rg q3141.1
        have l3236 : (0 : Int32).toInt = 0 := rfl
        refine Tp_bi (s_SI_at hn ci  (t := t) (x1 := mz_gI t 6 2)) (fun q3237 h3238 => ?_)
        obtain ⟨ci3239, E3240⟩ := h3238
        try rw [E3240]
        have l3243 : ((1 : Int32)).toInt = 1 := rfl
        first | (have a3244 : ((mz_gI t 6 2) + (1 : Int32)).toInt = (mz_gI t 6 2).toInt + ((1 : Int32)).toInt := ti_add (by omega) (by omega)) | (have a3245 := ti_rg ((mz_gI t 6 2) + (1 : Int32)))
        refine Tp_le (fun t3241 E3242 => ?_)
        have l3247 : (2 : Int32).toInt = 2 := rfl
        have ci3246 := CI_p1 ci E3242 rfl (by omega) (by omega)
        have i3248 := ti_rg x1
        have l3249 : ((10 : Int32)).toInt = 10 := rfl
        first | (have a3250 : (x1 * (10 : Int32)).toInt = (x1).toInt * 10 := ti_mulr rfl (by omega) (by omega)) | (have a3251 := ti_rg (x1 * (10 : Int32)))
        have i3252 := ti_rg q3237.1
        have l3253 : ((48 : Int32)).toInt = 48 := rfl
        first | (have a3254 : (q3237.1 - (48 : Int32)).toInt = (q3237.1).toInt - ((48 : Int32)).toInt := ti_sub (by omega) (by omega)) | (have a3255 := ti_rg (q3237.1 - (48 : Int32)))
        first | (have a3256 : ((x1 * (10 : Int32)) + (q3237.1 - (48 : Int32))).toInt = (x1 * (10 : Int32)).toInt + (q3237.1 - (48 : Int32)).toInt := ti_add (by omega) (by omega)) | (have a3257 := ti_rg ((x1 * (10 : Int32)) + (q3237.1 - (48 : Int32))))
        have i3258 := ti_rg x2
        first | (have a3259 : (x2 + (1 : Int32)).toInt = (x2).toInt + ((1 : Int32)).toInt := ti_add (by omega) (by omega)) | (have a3260 := ti_rg (x2 + (1 : Int32)))
        have b3261 := CI_g1 ci3246 (c := 6) (p := 2) rfl
        have e3262 : (mz_gI t3241 6 2).toInt = ((mz_gI t 6 2) + (1 : Int32)).toInt := by rw [E3242, gI_same]
        exact ih ((x1 * (10 : Int32)) + (q3237.1 - (48 : Int32))) (x2 + (1 : Int32)) t3241 ci3246  (by omega)
set_option maxRecDepth 4000 in
set_option maxHeartbeats 8000000 in
theorem s_RE_number {n : Nat} {L : Int32} (hn : 8589934592 ≤ n) {t : mz_St}  (ci : CI L t)  : Tp (f_RE_number n t) (fun r => CI L r.2) := by
  unfold f_RE_number
  have l3263 : ((0 : Int32)).toInt = 0 := rfl
  have b3264 := CI_g1 ci (c := 6) (p := 2) rfl
  refine Tp_mo (l_RE_number_4 hn  n (0 : Int32) (0 : Int32) t ci  (by omega)) (fun q3265 h3266 => ?_)
  have ci3267 := h3266
  have i3268 := ti_rg q3265.1
  exact ci3267
set_option maxRecDepth 4000 in
set_option maxHeartbeats 8000000 in
theorem s_RE_factorB {n : Nat} {L : Int32} (hn : 8589934592 ≤ n) {fa : Int32 → mz_St → Option (Int32 × mz_St)} {x1 : Int32} {t : mz_St} (hfa : x1.toInt < 10 → ∀ t : mz_St, CI L t → Tp (fa (x1 + (1 : Int32)) t) (fun r => CI L r.2))  (ci : CI L t) (i0 : 0 ≤ x1.toInt) (i1 : x1.toInt ≤ 10) : Tp (f_RE_factorB n fa x1 t) (fun r => CI L r.2) := by
  unfold f_RE_factorB
  refine Tp_bi (s_RE_next hn ci  (t := t)) (fun q3269 h3270 => ?_)
  obtain ⟨ci3271, p3272⟩ := h3270
  have b3273 := CI_g1 ci3271 (c := 6) (p := 2) rfl
  have b3274 := CI_g1 ci (c := 6) (p := 2) rfl
  have b3275 := CI_g1 ci3271 (c := 6) (p := 3) rfl
  have b3276 := CI_g1 ci (c := 6) (p := 3) rfl
  refine Tp_if (fun h3277 => ?_) (fun h3277 => ?_)
  · have g3278 := ti_q h3277
    have i3279 := ti_rg q3269.1
    have l3280 : ((45 : Int32)).toInt = 45 := rfl
    unfold f_RE_factorB_17
    refine Tp_if (fun h3281 => ?_) (fun h3281 => ?_)
    · have g3282 := ti_l h3281
      have i3283 := ti_rg x1
      have l3284 : ((10 : Int32)).toInt = 10 := rfl
      have l3287 : ((1 : Int32)).toInt = 1 := rfl
      first | (have a3288 : ((mz_gI q3269.2 6 2) + (1 : Int32)).toInt = (mz_gI q3269.2 6 2).toInt + ((1 : Int32)).toInt := ti_add (by omega) (by omega)) | (have a3289 := ti_rg ((mz_gI q3269.2 6 2) + (1 : Int32)))
      refine Tp_le (fun t3285 E3286 => ?_)
      have l3291 : (2 : Int32).toInt = 2 := rfl
      have ci3290 := CI_p1 ci3271 E3286 rfl (by omega) (by omega)
      refine Tp_if (fun h3292 => ?_) (fun h3292 => ?_)
      · have g3293 := ti_q h3292
        first | (have a3296 : (x1 + (1 : Int32)).toInt = (x1).toInt + ((1 : Int32)).toInt := ti_add (by omega) (by omega)) | (have a3297 := ti_rg (x1 + (1 : Int32)))
        refine Tp_bi (hfa (by omega) t3285 ci3290) (fun q3294 h3295 => ?_)
        have ci3298 := h3295
        refine Tp_so ?_
        exact ci3298
      · have g3299 := ti_nq h3292
        first | (have a3302 : (x1 + (1 : Int32)).toInt = (x1).toInt + ((1 : Int32)).toInt := ti_add (by omega) (by omega)) | (have a3303 := ti_rg (x1 + (1 : Int32)))
        refine Tp_bi (s_RE_bracketed hn ci3290  (t := t3285) (fa := fa) (x1 := x1 + (1 : Int32)) (hfa := hfa (by omega))) (fun q3300 h3301 => ?_)
        have ci3304 := h3301
        refine Tp_so ?_
        have i3305 := ti_rg q3300.1
        exact ci3304
    · have g3306 := ti_nl h3281
      have i3307 := ti_rg x1
      have l3308 : ((10 : Int32)).toInt = 10 := rfl
      refine Tp_bi (s_RE_refuse hn ci3271  (t := q3269.2)) (fun q3309 h3310 => ?_)
      have ci3311 := h3310
      refine Tp_so ?_
      have i3312 := ti_rg q3309.1
      exact ci3311
  · have g3313 := ti_nq h3277
    have i3314 := ti_rg q3269.1
    have l3315 : ((45 : Int32)).toInt = 45 := rfl
    refine Tp_if (fun h3316 => ?_) (fun h3316 => ?_)
    · have g3317 := ti_q h3316
      have l3318 : ((40 : Int32)).toInt = 40 := rfl
      unfold f_RE_factorB_17
      refine Tp_if (fun h3319 => ?_) (fun h3319 => ?_)
      · have g3320 := ti_l h3319
        have i3321 := ti_rg x1
        have l3322 : ((10 : Int32)).toInt = 10 := rfl
        have l3325 : ((1 : Int32)).toInt = 1 := rfl
        first | (have a3326 : ((mz_gI q3269.2 6 2) + (1 : Int32)).toInt = (mz_gI q3269.2 6 2).toInt + ((1 : Int32)).toInt := ti_add (by omega) (by omega)) | (have a3327 := ti_rg ((mz_gI q3269.2 6 2) + (1 : Int32)))
        refine Tp_le (fun t3323 E3324 => ?_)
        have l3329 : (2 : Int32).toInt = 2 := rfl
        have ci3328 := CI_p1 ci3271 E3324 rfl (by omega) (by omega)
        refine Tp_if (fun h3330 => ?_) (fun h3330 => ?_)
        · have g3331 := ti_q h3330
          first | (have a3334 : (x1 + (1 : Int32)).toInt = (x1).toInt + ((1 : Int32)).toInt := ti_add (by omega) (by omega)) | (have a3335 := ti_rg (x1 + (1 : Int32)))
          refine Tp_bi (hfa (by omega) t3323 ci3328) (fun q3332 h3333 => ?_)
          have ci3336 := h3333
          refine Tp_so ?_
          exact ci3336
        · have g3337 := ti_nq h3330
          first | (have a3340 : (x1 + (1 : Int32)).toInt = (x1).toInt + ((1 : Int32)).toInt := ti_add (by omega) (by omega)) | (have a3341 := ti_rg (x1 + (1 : Int32)))
          refine Tp_bi (s_RE_bracketed hn ci3328  (t := t3323) (fa := fa) (x1 := x1 + (1 : Int32)) (hfa := hfa (by omega))) (fun q3338 h3339 => ?_)
          have ci3342 := h3339
          refine Tp_so ?_
          have i3343 := ti_rg q3338.1
          exact ci3342
      · have g3344 := ti_nl h3319
        have i3345 := ti_rg x1
        have l3346 : ((10 : Int32)).toInt = 10 := rfl
        refine Tp_bi (s_RE_refuse hn ci3271  (t := q3269.2)) (fun q3347 h3348 => ?_)
        have ci3349 := h3348
        refine Tp_so ?_
        have i3350 := ti_rg q3347.1
        exact ci3349
    · have g3351 := ti_nq h3316
      have l3352 : ((40 : Int32)).toInt = 40 := rfl
      refine Tp_bi (s_SI_isDigit hn ci3271  (t := q3269.2) (x0 := q3269.1)) (fun q3353 h3354 => ?_)
      obtain ⟨ci3355, E3356, p3357, p3358⟩ := h3354
      try rw [E3356]
      refine Tp_if (fun h3359 => ?_) (fun h3359 => ?_)
      · have g3360 := ti_q h3359
        have i3361 := ti_rg q3353.1
        have l3362 : (0 : Int32).toInt = 0 := rfl
        have l3365 : ((63 : Int32)).toInt = 63 := rfl
        refine Tp_bi (s_RE_take hn ci3271  (t := q3269.2) (x1 := (63 : Int32))) (fun q3363 h3364 => ?_)
        obtain ⟨ci3366, p3367, p3368⟩ := h3364
        refine Tp_bi (s_RE_takeWord hn ci3366  (t := q3363.2)) (fun q3369 h3370 => ?_)
        obtain ⟨ci3371, p3372, p3373⟩ := h3370
        refine Tp_if (fun h3374 => ?_) (fun h3374 => ?_)
        · have g3375 := ti_q h3374
          have i3376 := ti_rg q3369.1
          refine Tp_bi (s_RE_refuse hn ci3371  (t := q3369.2)) (fun q3377 h3378 => ?_)
          have ci3379 := h3378
          refine Tp_so ?_
          have i3380 := ti_rg q3377.1
          exact ci3379
        · have g3381 := ti_nq h3374
          have i3382 := ti_rg q3369.1
          have b3385 := CI_g1 ci3371 (c := 6) (p := 4) rfl
          have b3386 := CI_g1 ci3371 (c := 6) (p := 5) rfl
          refine Tp_bi (s_NA_find_c hn ci3371  (t := q3369.2) (x1 := mz_gI q3369.2 6 4) (x2 := mz_gI q3369.2 6 5)) (fun q3383 h3384 => ?_)
          obtain ⟨ci3387, E3388, p3389, p3390⟩ := h3384
          try rw [E3388]
          refine Tp_if (fun h3391 => ?_) (fun h3391 => ?_)
          · have g3392 := ti_q h3391
            have i3393 := ti_rg q3363.1
            refine Tp_if (fun h3394 => ?_) (fun h3394 => ?_)
            · have g3395 := ti_q h3394
              have i3396 := ti_rg q3383.1
              have l3397 : ((-1 : Int32)).toInt = -1 := rfl
              have l3400 : ((3 : Int32)).toInt = 3 := rfl
              refine Tp_bi (s_RE_meet hn ci3371  (t := q3369.2) (x1 := (3 : Int32))) (fun q3398 h3399 => ?_)
              have ci3401 := h3399
              unfold f_RE_factorB_141
              refine Tp_bi (s_CN_numberOf hn ci3401  (t := q3398) (x1 := q3383.1)) (fun q3402 h3403 => ?_)
              obtain ⟨ci3404, E3405⟩ := h3403
              try rw [E3405]
              refine Tp_so ?_
              have i3406 := ti_rg q3402.1
              exact ci3401
            · have g3407 := ti_nq h3394
              have i3408 := ti_rg q3383.1
              have l3409 : ((-1 : Int32)).toInt = -1 := rfl
              unfold f_RE_factorB_141
              refine Tp_bi (s_CN_numberOf hn ci3371  (t := q3369.2) (x1 := q3383.1)) (fun q3410 h3411 => ?_)
              obtain ⟨ci3412, E3413⟩ := h3411
              try rw [E3413]
              refine Tp_so ?_
              have i3414 := ti_rg q3410.1
              exact ci3371
          · have g3415 := ti_nq h3391
            have i3416 := ti_rg q3363.1
            refine Tp_if (fun h3417 => ?_) (fun h3417 => ?_)
            · have g3418 := ti_q h3417
              have i3419 := ti_rg q3383.1
              have l3420 : ((-1 : Int32)).toInt = -1 := rfl
              refine Tp_so ?_
              have l3421 : ((0 : Int32)).toInt = 0 := rfl
              exact ci3371
            · have g3422 := ti_nq h3417
              have i3423 := ti_rg q3383.1
              have l3424 : ((-1 : Int32)).toInt = -1 := rfl
              refine Tp_so ?_
              have l3425 : ((1 : Int32)).toInt = 1 := rfl
              exact ci3371
      · have g3426 := ti_nq h3359
        have i3427 := ti_rg q3353.1
        have l3428 : (0 : Int32).toInt = 0 := rfl
        refine Tp_bi (s_RE_number hn ci3271  (t := q3269.2)) (fun q3429 h3430 => ?_)
        have ci3431 := h3430
        refine Tp_so ?_
        have i3432 := ti_rg q3429.1
        exact ci3431
set_option maxRecDepth 4000 in
set_option maxHeartbeats 8000000 in
theorem l_RE_factor {n : Nat} {L : Int32} (hn : 8589934592 ≤ n) : ∀ (d : Nat) (x : Int32) (t : mz_St), CI L t → 0 ≤ x.toInt → x.toInt ≤ 10 → 10 - x.toInt < d → Tp (f_RE_factor n d x t) (fun r => CI L r.2) := by
  intro d
  induction d with
  | zero => intros; omega
  | succ d ih =>
    intro x t ci h1 h2 hd
    unfold f_RE_factor
    refine s_RE_factorB hn (hfa := fun h9 t9 c9 => ?_) ci h1 h2
    have l1 : (1 : Int32).toInt = 1 := rfl
    have a1 : (x + (1 : Int32)).toInt = x.toInt + (1 : Int32).toInt := ti_add (by omega) (by omega)
    exact ih _ t9 c9 (by omega) (by omega) (by omega)
set_option maxRecDepth 4000 in
set_option maxHeartbeats 8000000 in
theorem s_RE_value {n : Nat} {L : Int32} (hn : 8589934592 ≤ n) {t : mz_St} (ci : CI L t) : Tp (f_RE_readValue n (f_RE_factor n 12) (0 : Int32) t) (fun r => CI L r.2) :=
  s_RE_readValue hn (hfa := fun t9 c9 => l_RE_factor hn 12 0 t9 c9 (by decide) (by decide) (by decide)) ci
set_option maxRecDepth 4000 in
set_option maxHeartbeats 8000000 in
theorem s_MA_parametersOf {n : Nat} {L : Int32} (hn : 8589934592 ≤ n) {x1 : Int32} {t : mz_St}  (ci : CI L t)  : Tp (f_MA_parametersOf n x1 t) (fun r => CI L r.2 ∧ r.2 = t) := by
  unfold f_MA_parametersOf
  refine Tp_if (fun h3433 => ?_) (fun h3433 => ?_)
  · have g3434 := ti_l h3433
    have i3435 := ti_rg x1
    have l3436 : (0 : Int32).toInt = 0 := rfl
    refine Tp_so ?_
    have l3437 : ((0 : Int32)).toInt = 0 := rfl
    exact ⟨ci, rfl⟩
  · have g3438 := ti_nl h3433
    have i3439 := ti_rg x1
    have l3440 : (0 : Int32).toInt = 0 := rfl
    refine Tp_if (fun h3441 => ?_) (fun h3441 => ?_)
    · have g3442 := ti_e h3441
      have l3443 : ((17 : Int32)).toInt = 17 := rfl
      refine Tp_so ?_
      have l3444 : ((0 : Int32)).toInt = 0 := rfl
      exact ⟨ci, rfl⟩
    · have g3445 := ti_ne h3441
      have l3446 : ((17 : Int32)).toInt = 17 := rfl
      refine Tp_gd (ti_ix (by omega) (by omega)) ?_
      refine Tp_so ?_
      have i3447 := ti_rg (mz_gI t 19 x1.toNatClampNeg)
      exact ⟨ci, rfl⟩
set_option maxRecDepth 4000 in
set_option maxHeartbeats 8000000 in
theorem l_MA_findParameter_3 {n : Nat} {L : Int32} (hn : 8589934592 ≤ n)  : ∀ (k : Nat) (x1 : Int32) (x2 : Int32) (x3 : Int32) (x4 : Int32) (t : mz_St), CI L t → (-1 ≤ x2.toInt) → (x2.toInt ≤ 7000) → (-1 ≤ x3.toInt) → (x3.toInt ≤ 7000) → (0 ≤ x4.toInt) → (2147483648 - x4.toInt).toNat < k → Tp (f_MA_findParameter_3 n k x1 x2 x3 x4 t) (fun r => CI L r.2 ∧ r.2 = t) := by
  intro k
  induction k with
  | zero => intros; omega
  | succ k ih =>
    intro x1 x2 x3 x4 t ci i0 i1 i2 i3 i4 hm
    unfold f_MA_findParameter_3
    have i3450 := ti_rg x1
    refine Tp_bi (s_MA_parametersOf hn ci  (t := t) (x1 := x1)) (fun q3448 h3449 => ?_)
    obtain ⟨ci3451, E3452⟩ := h3449
    try rw [E3452]
    refine Tp_if (fun h3453 => ?_) (fun h3453 => ?_)
    · have g3454 := ti_e h3453
      have i3455 := ti_rg q3448.1
      have i3456 := ti_rg x4
      refine Tp_so ?_
      have l3457 : ((-1 : Int32)).toInt = -1 := rfl
      exact ⟨ci, rfl⟩
    · have g3458 := ti_ne h3453
      have i3459 := ti_rg q3448.1
      have i3460 := ti_rg x4
      refine Tp_if (fun h3461 => ?_) (fun h3461 => ?_)
      · have g3462 := ti_l h3461
        have l3463 : ((6 : Int32)).toInt = 6 := rfl
        first | (have a3464 : (x1 * (6 : Int32)).toInt = (x1).toInt * 6 := ti_mulr rfl (by omega) (by omega)) | (have a3465 := ti_rg (x1 * (6 : Int32)))
        first | (have a3466 : ((x1 * (6 : Int32)) + x4).toInt = (x1 * (6 : Int32)).toInt + (x4).toInt := ti_add (by omega) (by omega)) | (have a3467 := ti_rg ((x1 * (6 : Int32)) + x4))
        have l3468 : (0 : Int32).toInt = 0 := rfl
        unfold f_MA_findParameter_66
        have i3469 := ti_rg x2
        have i3470 := ti_rg x3
        have l3471 : ((1 : Int32)).toInt = 1 := rfl
        first | (have a3472 : (x4 + (1 : Int32)).toInt = (x4).toInt + ((1 : Int32)).toInt := ti_add (by omega) (by omega)) | (have a3473 := ti_rg (x4 + (1 : Int32)))
        exact ih x1 x2 x3 (x4 + (1 : Int32)) t ci (by omega) (by omega) (by omega) (by omega) (by omega) (by omega)
      · have g3474 := ti_nl h3461
        have l3475 : ((6 : Int32)).toInt = 6 := rfl
        first | (have a3476 : (x1 * (6 : Int32)).toInt = (x1).toInt * 6 := ti_mulr rfl (by omega) (by omega)) | (have a3477 := ti_rg (x1 * (6 : Int32)))
        first | (have a3478 : ((x1 * (6 : Int32)) + x4).toInt = (x1 * (6 : Int32)).toInt + (x4).toInt := ti_add (by omega) (by omega)) | (have a3479 := ti_rg ((x1 * (6 : Int32)) + x4))
        have l3480 : (0 : Int32).toInt = 0 := rfl
        refine Tp_if (fun h3481 => ?_) (fun h3481 => ?_)
        · have g3482 := ti_e h3481
          have l3483 : ((102 : Int32)).toInt = 102 := rfl
          unfold f_MA_findParameter_66
          have i3484 := ti_rg x2
          have i3485 := ti_rg x3
          have l3486 : ((1 : Int32)).toInt = 1 := rfl
          first | (have a3487 : (x4 + (1 : Int32)).toInt = (x4).toInt + ((1 : Int32)).toInt := ti_add (by omega) (by omega)) | (have a3488 := ti_rg (x4 + (1 : Int32)))
          exact ih x1 x2 x3 (x4 + (1 : Int32)) t ci (by omega) (by omega) (by omega) (by omega) (by omega) (by omega)
        · have g3489 := ti_ne h3481
          have l3490 : ((102 : Int32)).toInt = 102 := rfl
          refine Tp_gd (ti_ix (by omega) (by omega)) ?_
          refine Tp_gd (ti_ix (by omega) (by omega)) ?_
          have b3493 := CI_g1 ci (c := 23) (p := ((x1 * (6 : Int32)) + x4).toNatClampNeg) rfl
          have b3494 := CI_g1 ci (c := 24) (p := ((x1 * (6 : Int32)) + x4).toNatClampNeg) rfl
          have i3495 := ti_rg x2
          have i3496 := ti_rg x3
          refine Tp_bi (s_SI_same hn ci (by omega) (by omega) (by omega) (by omega) (by omega) (by omega) (t := t) (x1 := mz_gI t 23 ((x1 * (6 : Int32)) + x4).toNatClampNeg) (x2 := mz_gI t 24 ((x1 * (6 : Int32)) + x4).toNatClampNeg) (x3 := x2) (x4 := x3)) (fun q3491 h3492 => ?_)
          obtain ⟨ci3497, E3498, p3499, p3500⟩ := h3492
          try rw [E3498]
          refine Tp_if (fun h3501 => ?_) (fun h3501 => ?_)
          · have g3502 := ti_q h3501
            have i3503 := ti_rg q3491.1
            unfold f_MA_findParameter_66
            have l3504 : ((1 : Int32)).toInt = 1 := rfl
            first | (have a3505 : (x4 + (1 : Int32)).toInt = (x4).toInt + ((1 : Int32)).toInt := ti_add (by omega) (by omega)) | (have a3506 := ti_rg (x4 + (1 : Int32)))
            exact ih x1 x2 x3 (x4 + (1 : Int32)) t ci (by omega) (by omega) (by omega) (by omega) (by omega) (by omega)
          · have g3507 := ti_nq h3501
            have i3508 := ti_rg q3491.1
            refine Tp_so ?_
            exact ⟨ci, rfl⟩
set_option maxRecDepth 4000 in
set_option maxHeartbeats 8000000 in
theorem s_MA_findParameter {n : Nat} {L : Int32} (hn : 8589934592 ≤ n) {x1 : Int32} {x2 : Int32} {x3 : Int32} {t : mz_St}  (ci : CI L t) (i0 : -1 ≤ x2.toInt) (i1 : x2.toInt ≤ 7000) (i2 : -1 ≤ x3.toInt) (i3 : x3.toInt ≤ 7000) : Tp (f_MA_findParameter n x1 x2 x3 t) (fun r => CI L r.2 ∧ r.2 = t) := by
  unfold f_MA_findParameter
  have i3509 := ti_rg x1
  have i3510 := ti_rg x2
  have i3511 := ti_rg x3
  have l3512 : ((0 : Int32)).toInt = 0 := rfl
  refine Tp_mo (l_MA_findParameter_3 hn  n x1 x2 x3 (0 : Int32) t ci (by omega) (by omega) (by omega) (by omega) (by omega) (by omega)) (fun q3513 h3514 => ?_)
  obtain ⟨ci3515, E3516⟩ := h3514
  have i3517 := ti_rg q3513.1
  exact ⟨ci3515, (E3516)⟩
set_option maxRecDepth 4000 in
set_option maxHeartbeats 8000000 in
theorem s_MA_defaultStart {n : Nat} {L : Int32} (hn : 8589934592 ≤ n) {x1 : Int32} {x2 : Int32} {t : mz_St}  (ci : CI L t)  : Tp (f_MA_defaultStart n x1 x2 t) (fun r => CI L r.2 ∧ r.2 = t ∧ -1 ≤ (r.1).toInt ∧ (r.1).toInt ≤ 7000) := by
  unfold f_MA_defaultStart
  refine Tp_if (fun h3518 => ?_) (fun h3518 => ?_)
  · have g3519 := ti_l h3518
    have i3520 := ti_rg x1
    have l3521 : ((6 : Int32)).toInt = 6 := rfl
    first | (have a3522 : (x1 * (6 : Int32)).toInt = (x1).toInt * 6 := ti_mulr rfl (by omega) (by omega)) | (have a3523 := ti_rg (x1 * (6 : Int32)))
    have i3524 := ti_rg x2
    first | (have a3525 : ((x1 * (6 : Int32)) + x2).toInt = (x1 * (6 : Int32)).toInt + (x2).toInt := ti_add (by omega) (by omega)) | (have a3526 := ti_rg ((x1 * (6 : Int32)) + x2))
    have l3527 : (0 : Int32).toInt = 0 := rfl
    refine Tp_so ?_
    have l3528 : ((-1 : Int32)).toInt = -1 := rfl
    refine ⟨ci, rfl, ?_, ?_⟩
    · (try dsimp only) <;> first | omega | assumption
    · (try dsimp only) <;> first | omega | assumption
  · have g3529 := ti_nl h3518
    have i3530 := ti_rg x1
    have l3531 : ((6 : Int32)).toInt = 6 := rfl
    first | (have a3532 : (x1 * (6 : Int32)).toInt = (x1).toInt * 6 := ti_mulr rfl (by omega) (by omega)) | (have a3533 := ti_rg (x1 * (6 : Int32)))
    have i3534 := ti_rg x2
    first | (have a3535 : ((x1 * (6 : Int32)) + x2).toInt = (x1 * (6 : Int32)).toInt + (x2).toInt := ti_add (by omega) (by omega)) | (have a3536 := ti_rg ((x1 * (6 : Int32)) + x2))
    have l3537 : (0 : Int32).toInt = 0 := rfl
    refine Tp_if (fun h3538 => ?_) (fun h3538 => ?_)
    · have g3539 := ti_e h3538
      have l3540 : ((102 : Int32)).toInt = 102 := rfl
      refine Tp_so ?_
      have l3541 : ((-1 : Int32)).toInt = -1 := rfl
      refine ⟨ci, rfl, ?_, ?_⟩
      · (try dsimp only) <;> first | omega | assumption
      · (try dsimp only) <;> first | omega | assumption
    · have g3542 := ti_ne h3538
      have l3543 : ((102 : Int32)).toInt = 102 := rfl
      refine Tp_gd (ti_ix (by omega) (by omega)) ?_
      refine Tp_so ?_
      have b3544 := CI_g1 ci (c := 25) (p := ((x1 * (6 : Int32)) + x2).toNatClampNeg) rfl
      refine ⟨ci, rfl, ?_, ?_⟩
      · (try dsimp only) <;> first | omega | assumption
      · (try dsimp only) <;> first | omega | assumption
set_option maxRecDepth 4000 in
set_option maxHeartbeats 8000000 in
theorem s_MA_defaultStop {n : Nat} {L : Int32} (hn : 8589934592 ≤ n) {x1 : Int32} {x2 : Int32} {t : mz_St}  (ci : CI L t)  : Tp (f_MA_defaultStop n x1 x2 t) (fun r => CI L r.2 ∧ r.2 = t ∧ -1 ≤ (r.1).toInt ∧ (r.1).toInt ≤ 7000) := by
  unfold f_MA_defaultStop
  refine Tp_if (fun h3545 => ?_) (fun h3545 => ?_)
  · have g3546 := ti_l h3545
    have i3547 := ti_rg x1
    have l3548 : ((6 : Int32)).toInt = 6 := rfl
    first | (have a3549 : (x1 * (6 : Int32)).toInt = (x1).toInt * 6 := ti_mulr rfl (by omega) (by omega)) | (have a3550 := ti_rg (x1 * (6 : Int32)))
    have i3551 := ti_rg x2
    first | (have a3552 : ((x1 * (6 : Int32)) + x2).toInt = (x1 * (6 : Int32)).toInt + (x2).toInt := ti_add (by omega) (by omega)) | (have a3553 := ti_rg ((x1 * (6 : Int32)) + x2))
    have l3554 : (0 : Int32).toInt = 0 := rfl
    refine Tp_so ?_
    have l3555 : ((-1 : Int32)).toInt = -1 := rfl
    refine ⟨ci, rfl, ?_, ?_⟩
    · (try dsimp only) <;> first | omega | assumption
    · (try dsimp only) <;> first | omega | assumption
  · have g3556 := ti_nl h3545
    have i3557 := ti_rg x1
    have l3558 : ((6 : Int32)).toInt = 6 := rfl
    first | (have a3559 : (x1 * (6 : Int32)).toInt = (x1).toInt * 6 := ti_mulr rfl (by omega) (by omega)) | (have a3560 := ti_rg (x1 * (6 : Int32)))
    have i3561 := ti_rg x2
    first | (have a3562 : ((x1 * (6 : Int32)) + x2).toInt = (x1 * (6 : Int32)).toInt + (x2).toInt := ti_add (by omega) (by omega)) | (have a3563 := ti_rg ((x1 * (6 : Int32)) + x2))
    have l3564 : (0 : Int32).toInt = 0 := rfl
    refine Tp_if (fun h3565 => ?_) (fun h3565 => ?_)
    · have g3566 := ti_e h3565
      have l3567 : ((102 : Int32)).toInt = 102 := rfl
      refine Tp_so ?_
      have l3568 : ((-1 : Int32)).toInt = -1 := rfl
      refine ⟨ci, rfl, ?_, ?_⟩
      · (try dsimp only) <;> first | omega | assumption
      · (try dsimp only) <;> first | omega | assumption
    · have g3569 := ti_ne h3565
      have l3570 : ((102 : Int32)).toInt = 102 := rfl
      refine Tp_gd (ti_ix (by omega) (by omega)) ?_
      refine Tp_so ?_
      have b3571 := CI_g1 ci (c := 26) (p := ((x1 * (6 : Int32)) + x2).toNatClampNeg) rfl
      refine ⟨ci, rfl, ?_, ?_⟩
      · (try dsimp only) <;> first | omega | assumption
      · (try dsimp only) <;> first | omega | assumption
set_option maxRecDepth 4000 in
set_option maxHeartbeats 8000000 in
theorem s_MA_firstLineOf {n : Nat} {L : Int32} (hn : 8589934592 ≤ n) {x1 : Int32} {t : mz_St}  (ci : CI L t)  : Tp (f_MA_firstLineOf n x1 t) (fun r => CI L r.2 ∧ r.2 = t) := by
  unfold f_MA_firstLineOf
  refine Tp_if (fun h3572 => ?_) (fun h3572 => ?_)
  · have g3573 := ti_l h3572
    have i3574 := ti_rg x1
    have l3575 : (0 : Int32).toInt = 0 := rfl
    refine Tp_so ?_
    have l3576 : ((0 : Int32)).toInt = 0 := rfl
    exact ⟨ci, rfl⟩
  · have g3577 := ti_nl h3572
    have i3578 := ti_rg x1
    have l3579 : (0 : Int32).toInt = 0 := rfl
    refine Tp_if (fun h3580 => ?_) (fun h3580 => ?_)
    · have g3581 := ti_e h3580
      have l3582 : ((17 : Int32)).toInt = 17 := rfl
      refine Tp_so ?_
      have l3583 : ((0 : Int32)).toInt = 0 := rfl
      exact ⟨ci, rfl⟩
    · have g3584 := ti_ne h3580
      have l3585 : ((17 : Int32)).toInt = 17 := rfl
      refine Tp_gd (ti_ix (by omega) (by omega)) ?_
      refine Tp_so ?_
      have i3586 := ti_rg (mz_gI t 21 x1.toNatClampNeg)
      have l3587 : ((1 : Int32)).toInt = 1 := rfl
      first | (have a3588 : ((mz_gI t 21 x1.toNatClampNeg) + (1 : Int32)).toInt = (mz_gI t 21 x1.toNatClampNeg).toInt + ((1 : Int32)).toInt := ti_add (by omega) (by omega)) | (have a3589 := ti_rg ((mz_gI t 21 x1.toNatClampNeg) + (1 : Int32)))
      exact ⟨ci, rfl⟩
set_option maxRecDepth 4000 in
set_option maxHeartbeats 8000000 in
theorem s_MA_linesOf {n : Nat} {L : Int32} (hn : 8589934592 ≤ n) {x1 : Int32} {t : mz_St}  (ci : CI L t)  : Tp (f_MA_linesOf n x1 t) (fun r => CI L r.2 ∧ r.2 = t) := by
  unfold f_MA_linesOf
  refine Tp_if (fun h3590 => ?_) (fun h3590 => ?_)
  · have g3591 := ti_l h3590
    have i3592 := ti_rg x1
    have l3593 : (0 : Int32).toInt = 0 := rfl
    refine Tp_so ?_
    have l3594 : ((0 : Int32)).toInt = 0 := rfl
    exact ⟨ci, rfl⟩
  · have g3595 := ti_nl h3590
    have i3596 := ti_rg x1
    have l3597 : (0 : Int32).toInt = 0 := rfl
    refine Tp_if (fun h3598 => ?_) (fun h3598 => ?_)
    · have g3599 := ti_e h3598
      have l3600 : ((17 : Int32)).toInt = 17 := rfl
      refine Tp_so ?_
      have l3601 : ((0 : Int32)).toInt = 0 := rfl
      exact ⟨ci, rfl⟩
    · have g3602 := ti_ne h3598
      have l3603 : ((17 : Int32)).toInt = 17 := rfl
      refine Tp_gd (ti_ix (by omega) (by omega)) ?_
      refine Tp_so ?_
      have i3604 := ti_rg (mz_gI t 20 x1.toNatClampNeg)
      exact ⟨ci, rfl⟩
set_option maxRecDepth 4000 in
set_option maxHeartbeats 8000000 in
theorem s_MA_countCall {n : Nat} {L : Int32} (hn : 8589934592 ≤ n) {x1 : Int32} {t : mz_St}  (ci : CI L t)  : Tp (f_MA_countCall n x1 t) (fun r => CI L r) := by
  unfold f_MA_countCall
  refine Tp_if (fun h3605 => ?_) (fun h3605 => ?_)
  · have g3606 := ti_l h3605
    have i3607 := ti_rg x1
    have l3608 : (0 : Int32).toInt = 0 := rfl
    refine Tp_so ?_
    exact ci
  · have g3609 := ti_nl h3605
    have i3610 := ti_rg x1
    have l3611 : (0 : Int32).toInt = 0 := rfl
    refine Tp_if (fun h3612 => ?_) (fun h3612 => ?_)
    · have g3613 := ti_e h3612
      have l3614 : ((17 : Int32)).toInt = 17 := rfl
      refine Tp_so ?_
      exact ci
    · have g3615 := ti_ne h3612
      have l3616 : ((17 : Int32)).toInt = 17 := rfl
      refine Tp_gd (ti_ix (by omega) (by omega)) ?_
      refine Tp_gd (ti_ix (by omega) (by omega)) ?_
      have i3619 := ti_rg (mz_gI t 22 x1.toNatClampNeg)
      have l3620 : ((1 : Int32)).toInt = 1 := rfl
      first | (have a3621 : ((mz_gI t 22 x1.toNatClampNeg) + (1 : Int32)).toInt = (mz_gI t 22 x1.toNatClampNeg).toInt + ((1 : Int32)).toInt := ti_add (by omega) (by omega)) | (have a3622 := ti_rg ((mz_gI t 22 x1.toNatClampNeg) + (1 : Int32)))
      refine Tp_le (fun t3617 E3618 => ?_)
      have ci3623 := CI_p0 ci E3618 rfl
      refine Tp_so ?_
      exact ci3623
set_option maxRecDepth 4000 in
set_option maxHeartbeats 8000000 in
theorem s_MA_readParameter {n : Nat} {L : Int32} (hn : 8589934592 ≤ n) {x2 : Int32} {x3 : Int32} {t : mz_St}  (ci : CI L t)  : Tp (f_MA_readParameter n x2 x3 t) (fun r => CI L r.2 ∧ 0 ≤ (r.1).toInt ∧ (r.1).toInt ≤ 1) := by
  unfold f_MA_readParameter
  refine Tp_if (fun h3624 => ?_) (fun h3624 => ?_)
  · have g3625 := ti_l h3624
    have i3626 := ti_rg x3
    have l3627 : (0 : Int32).toInt = 0 := rfl
    refine Tp_so ?_
    have l3628 : ((0 : Int32)).toInt = 0 := rfl
    refine ⟨ci, ?_, ?_⟩
    · (try dsimp only) <;> first | omega | assumption
    · (try dsimp only) <;> first | omega | assumption
  · have g3629 := ti_nl h3624
    have i3630 := ti_rg x3
    have l3631 : (0 : Int32).toInt = 0 := rfl
    refine Tp_if (fun h3632 => ?_) (fun h3632 => ?_)
    · have g3633 := ti_e h3632
      have l3634 : ((102 : Int32)).toInt = 102 := rfl
      refine Tp_so ?_
      have l3635 : ((0 : Int32)).toInt = 0 := rfl
      refine ⟨ci, ?_, ?_⟩
      · (try dsimp only) <;> first | omega | assumption
      · (try dsimp only) <;> first | omega | assumption
    · have g3636 := ti_ne h3632
      have l3637 : ((102 : Int32)).toInt = 102 := rfl
      refine Tp_bi (s_RE_takeWord hn ci  (t := t)) (fun q3638 h3639 => ?_)
      obtain ⟨ci3640, p3641, p3642⟩ := h3639
      refine Tp_if (fun h3643 => ?_) (fun h3643 => ?_)
      · have g3644 := ti_q h3643
        have i3645 := ti_rg q3638.1
        refine Tp_so ?_
        have l3646 : ((0 : Int32)).toInt = 0 := rfl
        refine ⟨ci3640, ?_, ?_⟩
        · (try dsimp only) <;> first | omega | assumption
        · (try dsimp only) <;> first | omega | assumption
      · have g3647 := ti_nq h3643
        have i3648 := ti_rg q3638.1
        have i3651 := ti_rg x2
        have b3652 := CI_g1 ci3640 (c := 6) (p := 4) rfl
        have b3653 := CI_g1 ci3640 (c := 6) (p := 5) rfl
        refine Tp_bi (s_MA_findParameter hn ci3640 (by omega) (by omega) (by omega) (by omega) (t := q3638.2) (x1 := x2) (x2 := mz_gI q3638.2 6 4) (x3 := mz_gI q3638.2 6 5)) (fun q3649 h3650 => ?_)
        obtain ⟨ci3654, E3655⟩ := h3650
        try rw [E3655]
        refine Tp_if (fun h3656 => ?_) (fun h3656 => ?_)
        · have g3657 := ti_q h3656
          have i3658 := ti_rg q3649.1
          have l3659 : ((-1 : Int32)).toInt = -1 := rfl
          refine Tp_gd (ti_ix (by omega) (by omega)) ?_
          refine Tp_le (fun t3660 E3661 => ?_)
          have k3663 := ti_cl x3
          have ci3662 := CI_p1 ci3640 E3661 rfl (by omega) (by omega)
          refine Tp_gd (ti_ix (by omega) (by omega)) ?_
          have b3666 := CI_g1 ci3662 (c := 6) (p := 5) rfl
          have e3667 : (mz_gI t3660 6 5).toInt = (mz_gI q3638.2 6 5).toInt := by rw [E3661, gI_oth _ _ (by simp)]
          refine Tp_le (fun t3664 E3665 => ?_)
          have ci3668 := CI_p1 ci3662 E3665 rfl (by omega) (by omega)
          refine Tp_gd (ti_ix (by omega) (by omega)) ?_
          refine Tp_le (fun t3669 E3670 => ?_)
          have ci3671 := CI_p1 ci3668 E3670 rfl (by omega) (by omega)
          refine Tp_gd (ti_ix (by omega) (by omega)) ?_
          refine Tp_le (fun t3672 E3673 => ?_)
          have ci3674 := CI_p1 ci3671 E3673 rfl (by omega) (by omega)
          have l3677 : ((61 : Int32)).toInt = 61 := rfl
          refine Tp_bi (s_RE_take hn ci3674  (t := t3672) (x1 := (61 : Int32))) (fun q3675 h3676 => ?_)
          obtain ⟨ci3678, p3679, p3680⟩ := h3676
          refine Tp_if (fun h3681 => ?_) (fun h3681 => ?_)
          · have g3682 := ti_q h3681
            have i3683 := ti_rg q3675.1
            refine Tp_so ?_
            have l3684 : ((1 : Int32)).toInt = 1 := rfl
            refine ⟨ci3678, ?_, ?_⟩
            · (try dsimp only) <;> first | omega | assumption
            · (try dsimp only) <;> first | omega | assumption
          · have g3685 := ti_nq h3681
            have i3686 := ti_rg q3675.1
            have l3689 : ((44 : Int32)).toInt = 44 := rfl
            have b3690 := CI_g1 ci3678 (c := 6) (p := 2) rfl
            have b3691 := CI_g1 ci3678 (c := 6) (p := 3) rfl
            refine Tp_bi (s_SI_find hn ci3678  (t := q3675.2) (x1 := (44 : Int32)) (x2 := mz_gI q3675.2 6 2) (x3 := mz_gI q3675.2 6 3)) (fun q3687 h3688 => ?_)
            obtain ⟨ci3692, E3693, p3694, p3695⟩ := h3688
            try rw [E3693]
            have i3698 := ti_rg q3687.1
            refine Tp_bi (s_SI_behindBlanks hn ci3678  (t := q3675.2) (x1 := mz_gI q3675.2 6 2) (x2 := q3687.1)) (fun q3696 h3697 => ?_)
            obtain ⟨ci3699, E3700, p3701, p3702⟩ := h3697
            try rw [E3700]
            refine Tp_gd (ti_ix (by omega) (by omega)) ?_
            have i3705 := ti_rg q3696.1
            refine Tp_le (fun t3703 E3704 => ?_)
            have ci3706 := CI_p1 ci3678 E3704 rfl (by omega) (by omega)
            refine Tp_gd (ti_ix (by omega) (by omega)) ?_
            have b3709 := CI_g1 ci3706 (c := 25) (p := x3.toNatClampNeg) rfl
            have e3710 : (mz_gI t3703 25 x3.toNatClampNeg).toInt = (q3696.1).toInt := by rw [E3704, gI_same]
            refine Tp_bi (s_SI_aheadOfBlanks hn ci3706  (t := t3703) (x1 := mz_gI t3703 25 x3.toNatClampNeg) (x2 := q3687.1)) (fun q3707 h3708 => ?_)
            obtain ⟨ci3711, E3712, p3713, p3714⟩ := h3708
            try rw [E3712]
            refine Tp_gd (ti_ix (by omega) (by omega)) ?_
            have i3717 := ti_rg q3707.1
            refine Tp_le (fun t3715 E3716 => ?_)
            have ci3718 := CI_p1 ci3706 E3716 rfl (by omega) (by omega)
            refine Tp_le (fun t3719 E3720 => ?_)
            have l3722 : (2 : Int32).toInt = 2 := rfl
            have ci3721 := CI_p1 ci3718 E3720 rfl (by omega) (by omega)
            refine Tp_so ?_
            have l3723 : ((1 : Int32)).toInt = 1 := rfl
            refine ⟨ci3721, ?_, ?_⟩
            · (try dsimp only) <;> first | omega | assumption
            · (try dsimp only) <;> first | omega | assumption
        · have g3724 := ti_nq h3656
          have i3725 := ti_rg q3649.1
          have l3726 : ((-1 : Int32)).toInt = -1 := rfl
          refine Tp_so ?_
          have l3727 : ((0 : Int32)).toInt = 0 := rfl
          refine ⟨ci3640, ?_, ?_⟩
          · (try dsimp only) <;> first | omega | assumption
          · (try dsimp only) <;> first | omega | assumption
set_option maxRecDepth 4000 in
set_option maxHeartbeats 8000000 in
theorem l_MA_readHead_61 {n : Nat} {L : Int32} (hn : 8589934592 ≤ n)  : ∀ (k : Nat) (x2 : Int32) (x3 : Int32) (t : mz_St), CI L t → (0 ≤ x2.toInt) → (x2.toInt < 17) → (0 ≤ x3.toInt) → (2147483648 - x3.toInt).toNat < k → Tp (f_MA_readHead_61 n k x2 x3 t) (fun r => CI L r.2 ∧ 0 ≤ (r.1).toInt ∧ (r.1).toInt ≤ 1) := by
  intro k
  induction k with
  | zero => intros; omega
  | succ k ih =>
    intro x2 x3 t ci i0 i1 i2 hm
    unfold f_MA_readHead_61
    refine Tp_if (fun h3728 => ?_) (fun h3728 => ?_)
    · have g3729 := ti_e h3728
      have l3730 : ((6 : Int32)).toInt = 6 := rfl
      have i3731 := ti_rg x3
      refine Tp_so ?_
      have l3732 : ((0 : Int32)).toInt = 0 := rfl
      refine ⟨ci, ?_, ?_⟩
      · (try dsimp only) <;> first | omega | assumption
      · (try dsimp only) <;> first | omega | assumption
    · have g3733 := ti_ne h3728
      have l3734 : ((6 : Int32)).toInt = 6 := rfl
      have i3735 := ti_rg x3
      have i3738 := ti_rg x2
      first | (have a3739 : (x2 * (6 : Int32)).toInt = (x2).toInt * 6 := ti_mulr rfl (by omega) (by omega)) | (have a3740 := ti_rg (x2 * (6 : Int32)))
      first | (have a3741 : ((x2 * (6 : Int32)) + x3).toInt = (x2 * (6 : Int32)).toInt + (x3).toInt := ti_add (by omega) (by omega)) | (have a3742 := ti_rg ((x2 * (6 : Int32)) + x3))
      refine Tp_bi (s_MA_readParameter hn ci  (t := t) (x2 := x2) (x3 := (x2 * (6 : Int32)) + x3)) (fun q3736 h3737 => ?_)
      obtain ⟨ci3743, p3744, p3745⟩ := h3737
      refine Tp_if (fun h3746 => ?_) (fun h3746 => ?_)
      · have g3747 := ti_q h3746
        have i3748 := ti_rg q3736.1
        have l3749 : (0 : Int32).toInt = 0 := rfl
        refine Tp_so ?_
        have l3750 : ((0 : Int32)).toInt = 0 := rfl
        refine ⟨ci3743, ?_, ?_⟩
        · (try dsimp only) <;> first | omega | assumption
        · (try dsimp only) <;> first | omega | assumption
      · have g3751 := ti_nq h3746
        have i3752 := ti_rg q3736.1
        have l3753 : (0 : Int32).toInt = 0 := rfl
        refine Tp_gd (ti_ix (by omega) (by omega)) ?_
        have l3756 : ((1 : Int32)).toInt = 1 := rfl
        first | (have a3757 : (x3 + (1 : Int32)).toInt = (x3).toInt + ((1 : Int32)).toInt := ti_add (by omega) (by omega)) | (have a3758 := ti_rg (x3 + (1 : Int32)))
        refine Tp_le (fun t3754 E3755 => ?_)
        have ci3759 := CI_p0 ci3743 E3755 rfl
        refine Tp_bi (s_RE_isDone hn ci3759  (t := t3754)) (fun q3760 h3761 => ?_)
        obtain ⟨ci3762, p3763, p3764⟩ := h3761
        refine Tp_if (fun h3765 => ?_) (fun h3765 => ?_)
        · have g3766 := ti_q h3765
          have i3767 := ti_rg q3760.1
          have l3770 : ((44 : Int32)).toInt = 44 := rfl
          refine Tp_bi (s_RE_take hn ci3762  (t := q3760.2) (x1 := (44 : Int32))) (fun q3768 h3769 => ?_)
          obtain ⟨ci3771, p3772, p3773⟩ := h3769
          refine Tp_if (fun h3774 => ?_) (fun h3774 => ?_)
          · have g3775 := ti_q h3774
            have i3776 := ti_rg q3768.1
            refine Tp_so ?_
            have l3777 : ((0 : Int32)).toInt = 0 := rfl
            refine ⟨ci3771, ?_, ?_⟩
            · (try dsimp only) <;> first | omega | assumption
            · (try dsimp only) <;> first | omega | assumption
          · have g3778 := ti_nq h3774
            have i3779 := ti_rg q3768.1
            exact ih x2 (x3 + (1 : Int32)) q3768.2 ci3771 (by omega) (by omega) (by omega) (by omega)
        · have g3780 := ti_nq h3765
          have i3781 := ti_rg q3760.1
          refine Tp_so ?_
          refine ⟨ci3762, ?_, ?_⟩
          · (try dsimp only) <;> first | omega | assumption
          · (try dsimp only) <;> first | omega | assumption
set_option maxRecDepth 4000 in
set_option maxHeartbeats 8000000 in
theorem s_MA_readHead {n : Nat} {L : Int32} (hn : 8589934592 ≤ n) {t : mz_St}  (ci : CI L t)  : Tp (f_MA_readHead n t) (fun r => CI L r.2 ∧ 0 ≤ (r.1).toInt ∧ (r.1).toInt ≤ 1) := by
  unfold f_MA_readHead
  refine Tp_if (fun h3782 => ?_) (fun h3782 => ?_)
  · have g3783 := ti_l h3782
    have b3784 := CI_g6 ci (c := 27) (p := 4) rfl
    have l3785 : (0 : Int32).toInt = 0 := rfl
    refine Tp_so ?_
    have l3786 : ((0 : Int32)).toInt = 0 := rfl
    refine ⟨ci, ?_, ?_⟩
    · (try dsimp only) <;> first | omega | assumption
    · (try dsimp only) <;> first | omega | assumption
  · have g3787 := ti_nl h3782
    have b3788 := CI_g6 ci (c := 27) (p := 4) rfl
    have l3789 : (0 : Int32).toInt = 0 := rfl
    refine Tp_if (fun h3790 => ?_) (fun h3790 => ?_)
    · have g3791 := ti_e h3790
      have l3792 : ((17 : Int32)).toInt = 17 := rfl
      refine Tp_so ?_
      have l3793 : ((0 : Int32)).toInt = 0 := rfl
      refine ⟨ci, ?_, ?_⟩
      · (try dsimp only) <;> first | omega | assumption
      · (try dsimp only) <;> first | omega | assumption
    · have g3794 := ti_ne h3790
      have l3795 : ((17 : Int32)).toInt = 17 := rfl
      refine Tp_bi (s_RE_takeWord hn ci  (t := t)) (fun q3796 h3797 => ?_)
      obtain ⟨ci3798, p3799, p3800⟩ := h3797
      refine Tp_if (fun h3801 => ?_) (fun h3801 => ?_)
      · have g3802 := ti_q h3801
        have i3803 := ti_rg q3796.1
        refine Tp_so ?_
        have l3804 : ((0 : Int32)).toInt = 0 := rfl
        refine ⟨ci3798, ?_, ?_⟩
        · (try dsimp only) <;> first | omega | assumption
        · (try dsimp only) <;> first | omega | assumption
      · have g3805 := ti_nq h3801
        have i3806 := ti_rg q3796.1
        have b3809 := CI_g1 ci3798 (c := 6) (p := 4) rfl
        refine Tp_le (fun t3807 E3808 => ?_)
        have ci3810 := CI_p0 ci3798 E3808 rfl
        have b3813 := CI_g1 ci3810 (c := 6) (p := 5) rfl
        have e3814 : (mz_gI t3807 6 5).toInt = (mz_gI q3796.2 6 5).toInt := by rw [E3808, gI_oth _ _ (by simp)]
        have b3815 := CI_g1 ci3798 (c := 6) (p := 5) rfl
        refine Tp_le (fun t3811 E3812 => ?_)
        have ci3816 := CI_p0 ci3810 E3812 rfl
        refine Tp_gd (ti_ix (by omega) (by omega)) ?_
        have l3819 : ((0 : Int32)).toInt = 0 := rfl
        refine Tp_le (fun t3817 E3818 => ?_)
        have ci3820 := CI_p0 ci3816 E3818 rfl
        refine Tp_bi (s_RE_isDone hn ci3820  (t := t3817)) (fun q3821 h3822 => ?_)
        obtain ⟨ci3823, p3824, p3825⟩ := h3822
        refine Tp_if (fun h3826 => ?_) (fun h3826 => ?_)
        · have g3827 := ti_q h3826
          have i3828 := ti_rg q3821.1
          refine Tp_mo (l_MA_readHead_61 hn  n (mz_gI t 27 4) (0 : Int32) q3821.2 ci3823 (by omega) (by omega) (by omega) (by omega)) (fun q3829 h3830 => ?_)
          obtain ⟨ci3831, p3832, p3833⟩ := h3830
          have i3834 := ti_rg q3829.1
          refine ⟨ci3831, ?_, ?_⟩
          · (try dsimp only) <;> first | omega | assumption
          · (try dsimp only) <;> first | omega | assumption
        · have g3835 := ti_nq h3826
          have i3836 := ti_rg q3821.1
          refine Tp_so ?_
          have l3837 : ((1 : Int32)).toInt = 1 := rfl
          refine ⟨ci3823, ?_, ?_⟩
          · (try dsimp only) <;> first | omega | assumption
          · (try dsimp only) <;> first | omega | assumption
