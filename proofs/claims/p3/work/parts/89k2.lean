/-! TOTAL: written by vcg.py -/
set_option maxRecDepth 4000 in
set_option maxHeartbeats 8000000 in
theorem s_MO_next_126 {n : Nat} {L : Int32} (hn : 8589934592 ≤ n) {x2 : Int32} {x4 : Int32} {s0 : Int32} {t : mz_St}  (ci : HI L t) (i0 : (((mz_gI t 0 34).toInt ≤ 1 ∧ (mz_gI t 0 48).toInt ≤ 0) ∨ (2 ≤ (mz_gI t 0 34).toInt ∧ (mz_gI t 0 48).toInt ≤ 2390 + 310 * (mz_gI t 0 34).toInt))) (i1 : (((mz_gI t 0 34).toInt ≤ 1 ∧ (mz_gI t 0 51).toInt ≤ 0) ∨ (2 ≤ (mz_gI t 0 34).toInt ∧ (mz_gI t 0 51).toInt ≤ 3310 * (mz_gI t 0 34).toInt - 610))) (i2 : 1 ≤ (mz_gI t 0 34).toInt) (i3 : 0 ≤ x2.toInt) (i4 : x2.toInt ≤ 3000) : Tp (f_MO_next_126 n x2 x4 s0 t) (fun r => HI L r ∧ (0 < (mz_gI r 0 6).toInt ∨ (((mz_gI r 0 34).toInt ≤ 1 ∧ (mz_gI r 0 48).toInt ≤ 0) ∨ (2 ≤ (mz_gI r 0 34).toInt ∧ (mz_gI r 0 48).toInt ≤ 2390 + 310 * (mz_gI r 0 34).toInt))) ∧ (0 < (mz_gI r 0 6).toInt ∨ (((mz_gI r 0 34).toInt ≤ 1 ∧ (mz_gI r 0 51).toInt ≤ 0) ∨ (2 ≤ (mz_gI r 0 34).toInt ∧ (mz_gI r 0 51).toInt ≤ 3310 * (mz_gI r 0 34).toInt - 610))) ∧ (0 < (mz_gI r 0 6).toInt ∨ (mz_gI t 0 8).toInt ≤ (mz_gI r 0 8).toInt)) := by
  unfold f_MO_next_126
  have b2969 := FX_0_34 (HI_FX ci)
  have b2970 := FX_0_48 (HI_FX ci)
  have b2971 := FX_0_51 (HI_FX ci)
  have b2972 := FX_0_8 (HI_FX ci)
  refine Tp_if (fun h2973 => ?_) (fun h2973 => ?_)
  · have g2974 := ti_q h2973
    have i2975 := ti_rg x4
    have l2976 : (0 : Int32).toInt = 0 := rfl
    refine Tp_if (fun h2977 => ?_) (fun h2977 => ?_)
    · have g2978 := ti_q h2977
      have i2979 := ti_rg s0
      have l2980 : ((3 : Int32)).toInt = 3 := rfl
      unfold f_MO_next_142
      have l2983 : ((0 : Int32)).toInt = 0 := rfl
      have l2984 : ((1 : Int32)).toInt = 1 := rfl
      refine Tp_bi (s_MO_openIf hn ci (by omega) (by omega) (by omega) (t := t) (x1 := (0 : Int32)) (x2 := (1 : Int32))) (fun q2981 h2982 => ?_)
      obtain ⟨ci2985, p2986, p2987, p2988⟩ := h2982
      have b2989 := HI_g29 ci2985 (c := 0) (p := 6) rfl
      have b2990 := HI_g29 ci (c := 0) (p := 6) rfl
      have b2991 := FX_0_8 (HI_FX ci2985)
      have b2992 := FX_0_34 (HI_FX ci2985)
      have b2993 := FX_0_48 (HI_FX ci2985)
      have b2994 := FX_0_51 (HI_FX ci2985)
      refine Tp_so ?_
      refine ⟨ci2985, ?_, ?_, ?_⟩
      · (try dsimp only) <;> first | omega | assumption
      · (try dsimp only) <;> first | omega | assumption
      · (try dsimp only) <;> first | omega | assumption
    · have g2995 := ti_nq h2977
      have i2996 := ti_rg s0
      have l2997 : ((3 : Int32)).toInt = 3 := rfl
      refine Tp_if (fun h2998 => ?_) (fun h2998 => ?_)
      · have g2999 := ti_q h2998
        have l3000 : ((4 : Int32)).toInt = 4 := rfl
        unfold f_MO_next_142
        have l3003 : ((0 : Int32)).toInt = 0 := rfl
        have l3004 : ((1 : Int32)).toInt = 1 := rfl
        refine Tp_bi (s_MO_openIf hn ci (by omega) (by omega) (by omega) (t := t) (x1 := (0 : Int32)) (x2 := (1 : Int32))) (fun q3001 h3002 => ?_)
        obtain ⟨ci3005, p3006, p3007, p3008⟩ := h3002
        have b3009 := HI_g29 ci3005 (c := 0) (p := 6) rfl
        have b3010 := HI_g29 ci (c := 0) (p := 6) rfl
        have b3011 := FX_0_8 (HI_FX ci3005)
        have b3012 := FX_0_34 (HI_FX ci3005)
        have b3013 := FX_0_48 (HI_FX ci3005)
        have b3014 := FX_0_51 (HI_FX ci3005)
        refine Tp_so ?_
        refine ⟨ci3005, ?_, ?_, ?_⟩
        · (try dsimp only) <;> first | omega | assumption
        · (try dsimp only) <;> first | omega | assumption
        · (try dsimp only) <;> first | omega | assumption
      · have g3015 := ti_nq h2998
        have l3016 : ((4 : Int32)).toInt = 4 := rfl
        refine Tp_if (fun h3017 => ?_) (fun h3017 => ?_)
        · have g3018 := ti_q h3017
          have l3019 : ((5 : Int32)).toInt = 5 := rfl
          unfold f_MO_next_168
          have i3022 := ti_rg x2
          refine Tp_bi (s_MO_turn hn ci (by omega) (by omega) (by omega) (by omega) (by omega) (t := t) (x1 := s0) (x2 := x2)) (fun q3020 h3021 => ?_)
          obtain ⟨ci3023, p3024, p3025, p3026⟩ := h3021
          have b3027 := HI_g29 ci3023 (c := 0) (p := 6) rfl
          have b3028 := HI_g29 ci (c := 0) (p := 6) rfl
          have b3029 := FX_0_8 (HI_FX ci3023)
          have b3030 := FX_0_34 (HI_FX ci3023)
          have b3031 := FX_0_48 (HI_FX ci3023)
          have b3032 := FX_0_51 (HI_FX ci3023)
          refine Tp_so ?_
          refine ⟨ci3023, ?_, ?_, ?_⟩
          · (try dsimp only) <;> first | omega | assumption
          · (try dsimp only) <;> first | omega | assumption
          · (try dsimp only) <;> first | omega | assumption
        · have g3033 := ti_nq h3017
          have l3034 : ((5 : Int32)).toInt = 5 := rfl
          refine Tp_if (fun h3035 => ?_) (fun h3035 => ?_)
          · have g3036 := ti_q h3035
            have l3037 : ((6 : Int32)).toInt = 6 := rfl
            unfold f_MO_next_168
            have i3040 := ti_rg x2
            refine Tp_bi (s_MO_turn hn ci (by omega) (by omega) (by omega) (by omega) (by omega) (t := t) (x1 := s0) (x2 := x2)) (fun q3038 h3039 => ?_)
            obtain ⟨ci3041, p3042, p3043, p3044⟩ := h3039
            have b3045 := HI_g29 ci3041 (c := 0) (p := 6) rfl
            have b3046 := HI_g29 ci (c := 0) (p := 6) rfl
            have b3047 := FX_0_8 (HI_FX ci3041)
            have b3048 := FX_0_34 (HI_FX ci3041)
            have b3049 := FX_0_48 (HI_FX ci3041)
            have b3050 := FX_0_51 (HI_FX ci3041)
            refine Tp_so ?_
            refine ⟨ci3041, ?_, ?_, ?_⟩
            · (try dsimp only) <;> first | omega | assumption
            · (try dsimp only) <;> first | omega | assumption
            · (try dsimp only) <;> first | omega | assumption
          · have g3051 := ti_nq h3035
            have l3052 : ((6 : Int32)).toInt = 6 := rfl
            refine Tp_if (fun h3053 => ?_) (fun h3053 => ?_)
            · have g3054 := ti_q h3053
              have l3055 : ((7 : Int32)).toInt = 7 := rfl
              unfold f_MO_next_168
              have i3058 := ti_rg x2
              refine Tp_bi (s_MO_turn hn ci (by omega) (by omega) (by omega) (by omega) (by omega) (t := t) (x1 := s0) (x2 := x2)) (fun q3056 h3057 => ?_)
              obtain ⟨ci3059, p3060, p3061, p3062⟩ := h3057
              have b3063 := HI_g29 ci3059 (c := 0) (p := 6) rfl
              have b3064 := HI_g29 ci (c := 0) (p := 6) rfl
              have b3065 := FX_0_8 (HI_FX ci3059)
              have b3066 := FX_0_34 (HI_FX ci3059)
              have b3067 := FX_0_48 (HI_FX ci3059)
              have b3068 := FX_0_51 (HI_FX ci3059)
              refine Tp_so ?_
              refine ⟨ci3059, ?_, ?_, ?_⟩
              · (try dsimp only) <;> first | omega | assumption
              · (try dsimp only) <;> first | omega | assumption
              · (try dsimp only) <;> first | omega | assumption
            · have g3069 := ti_nq h3053
              have l3070 : ((7 : Int32)).toInt = 7 := rfl
              refine Tp_so ?_
              have b3071 := HI_g29 ci (c := 0) (p := 6) rfl
              refine ⟨ci, ?_, ?_, ?_⟩
              · (try dsimp only) <;> first | omega | assumption
              · (try dsimp only) <;> first | omega | assumption
              · (try dsimp only) <;> first | omega | assumption
  · have g3072 := ti_nq h2973
    have i3073 := ti_rg x4
    have l3074 : (0 : Int32).toInt = 0 := rfl
    refine Tp_if (fun h3075 => ?_) (fun h3075 => ?_)
    · have g3076 := ti_q h3075
      have i3077 := ti_rg s0
      have l3078 : ((5 : Int32)).toInt = 5 := rfl
      unfold f_MO_next_194
      have i3081 := ti_rg x2
      refine Tp_bi (s_MO_turn hn ci (by omega) (by omega) (by omega) (by omega) (by omega) (t := t) (x1 := s0) (x2 := x2)) (fun q3079 h3080 => ?_)
      obtain ⟨ci3082, p3083, p3084, p3085⟩ := h3080
      have b3086 := HI_g29 ci3082 (c := 0) (p := 6) rfl
      have b3087 := HI_g29 ci (c := 0) (p := 6) rfl
      have b3088 := FX_0_8 (HI_FX ci3082)
      have b3089 := FX_0_34 (HI_FX ci3082)
      have b3090 := FX_0_48 (HI_FX ci3082)
      have b3091 := FX_0_51 (HI_FX ci3082)
      refine Tp_so ?_
      refine ⟨ci3082, ?_, ?_, ?_⟩
      · (try dsimp only) <;> first | omega | assumption
      · (try dsimp only) <;> first | omega | assumption
      · (try dsimp only) <;> first | omega | assumption
    · have g3092 := ti_nq h3075
      have i3093 := ti_rg s0
      have l3094 : ((5 : Int32)).toInt = 5 := rfl
      refine Tp_if (fun h3095 => ?_) (fun h3095 => ?_)
      · have g3096 := ti_q h3095
        have l3097 : ((6 : Int32)).toInt = 6 := rfl
        unfold f_MO_next_194
        have i3100 := ti_rg x2
        refine Tp_bi (s_MO_turn hn ci (by omega) (by omega) (by omega) (by omega) (by omega) (t := t) (x1 := s0) (x2 := x2)) (fun q3098 h3099 => ?_)
        obtain ⟨ci3101, p3102, p3103, p3104⟩ := h3099
        have b3105 := HI_g29 ci3101 (c := 0) (p := 6) rfl
        have b3106 := HI_g29 ci (c := 0) (p := 6) rfl
        have b3107 := FX_0_8 (HI_FX ci3101)
        have b3108 := FX_0_34 (HI_FX ci3101)
        have b3109 := FX_0_48 (HI_FX ci3101)
        have b3110 := FX_0_51 (HI_FX ci3101)
        refine Tp_so ?_
        refine ⟨ci3101, ?_, ?_, ?_⟩
        · (try dsimp only) <;> first | omega | assumption
        · (try dsimp only) <;> first | omega | assumption
        · (try dsimp only) <;> first | omega | assumption
      · have g3111 := ti_nq h3095
        have l3112 : ((6 : Int32)).toInt = 6 := rfl
        refine Tp_if (fun h3113 => ?_) (fun h3113 => ?_)
        · have g3114 := ti_q h3113
          have l3115 : ((7 : Int32)).toInt = 7 := rfl
          unfold f_MO_next_194
          have i3118 := ti_rg x2
          refine Tp_bi (s_MO_turn hn ci (by omega) (by omega) (by omega) (by omega) (by omega) (t := t) (x1 := s0) (x2 := x2)) (fun q3116 h3117 => ?_)
          obtain ⟨ci3119, p3120, p3121, p3122⟩ := h3117
          have b3123 := HI_g29 ci3119 (c := 0) (p := 6) rfl
          have b3124 := HI_g29 ci (c := 0) (p := 6) rfl
          have b3125 := FX_0_8 (HI_FX ci3119)
          have b3126 := FX_0_34 (HI_FX ci3119)
          have b3127 := FX_0_48 (HI_FX ci3119)
          have b3128 := FX_0_51 (HI_FX ci3119)
          refine Tp_so ?_
          refine ⟨ci3119, ?_, ?_, ?_⟩
          · (try dsimp only) <;> first | omega | assumption
          · (try dsimp only) <;> first | omega | assumption
          · (try dsimp only) <;> first | omega | assumption
        · have g3129 := ti_nq h3113
          have l3130 : ((7 : Int32)).toInt = 7 := rfl
          refine Tp_if (fun h3131 => ?_) (fun h3131 => ?_)
          · have g3132 := ti_q h3131
            have l3133 : ((9 : Int32)).toInt = 9 := rfl
            unfold f_MO_next_215
            have i3136 := ti_rg (mz_gI t 0 63)
            refine Tp_bi (s_MO_failL hn ci (by omega) (t := t) (x1 := (5 : Int32)) (x2 := mz_gI t 0 63)) (fun q3134 h3135 => ?_)
            obtain ⟨ci3137, E3138, p3139, p3140⟩ := h3135
            have b3141 := HI_g29 ci3137 (c := 0) (p := 6) rfl
            have b3142 := FX_0_8 (HI_FX ci3137)
            have b3143 := HI_g29 ci (c := 0) (p := 6) rfl
            have b3144 := HI_g23 ci3137 (c := 0) (p := 60) rfl
            have e3145 : (mz_gI q3134 0 60).toInt = (mz_gI t 0 60).toInt := by rw [E3138 _ _ (by simp)]
            have b3146 := HI_g23 ci (c := 0) (p := 60) rfl
            refine Tp_so ?_
            have b3147 := FX_0_34 (HI_FX ci3137)
            have e3148 : (mz_gI q3134 0 34).toInt = (mz_gI t 0 34).toInt := by rw [E3138 _ _ (by simp)]
            have b3149 := FX_0_48 (HI_FX ci3137)
            have e3150 : (mz_gI q3134 0 48).toInt = (mz_gI t 0 48).toInt := by rw [E3138 _ _ (by simp)]
            have b3151 := FX_0_51 (HI_FX ci3137)
            have e3152 : (mz_gI q3134 0 51).toInt = (mz_gI t 0 51).toInt := by rw [E3138 _ _ (by simp)]
            refine ⟨ci3137, ?_, ?_, ?_⟩
            · (try dsimp only) <;> first | omega | assumption
            · (try dsimp only) <;> first | omega | assumption
            · (try dsimp only) <;> first | omega | assumption
          · have g3153 := ti_nq h3131
            have l3154 : ((9 : Int32)).toInt = 9 := rfl
            refine Tp_if (fun h3155 => ?_) (fun h3155 => ?_)
            · have g3156 := ti_q h3155
              have l3157 : ((12 : Int32)).toInt = 12 := rfl
              unfold f_MO_next_215
              have i3160 := ti_rg (mz_gI t 0 63)
              refine Tp_bi (s_MO_failL hn ci (by omega) (t := t) (x1 := (5 : Int32)) (x2 := mz_gI t 0 63)) (fun q3158 h3159 => ?_)
              obtain ⟨ci3161, E3162, p3163, p3164⟩ := h3159
              have b3165 := HI_g29 ci3161 (c := 0) (p := 6) rfl
              have b3166 := FX_0_8 (HI_FX ci3161)
              have b3167 := HI_g29 ci (c := 0) (p := 6) rfl
              have b3168 := HI_g23 ci3161 (c := 0) (p := 60) rfl
              have e3169 : (mz_gI q3158 0 60).toInt = (mz_gI t 0 60).toInt := by rw [E3162 _ _ (by simp)]
              have b3170 := HI_g23 ci (c := 0) (p := 60) rfl
              refine Tp_so ?_
              have b3171 := FX_0_34 (HI_FX ci3161)
              have e3172 : (mz_gI q3158 0 34).toInt = (mz_gI t 0 34).toInt := by rw [E3162 _ _ (by simp)]
              have b3173 := FX_0_48 (HI_FX ci3161)
              have e3174 : (mz_gI q3158 0 48).toInt = (mz_gI t 0 48).toInt := by rw [E3162 _ _ (by simp)]
              have b3175 := FX_0_51 (HI_FX ci3161)
              have e3176 : (mz_gI q3158 0 51).toInt = (mz_gI t 0 51).toInt := by rw [E3162 _ _ (by simp)]
              refine ⟨ci3161, ?_, ?_, ?_⟩
              · (try dsimp only) <;> first | omega | assumption
              · (try dsimp only) <;> first | omega | assumption
              · (try dsimp only) <;> first | omega | assumption
            · have g3177 := ti_nq h3155
              have l3178 : ((12 : Int32)).toInt = 12 := rfl
              have i3181 := ti_rg x2
              refine Tp_bi (s_MO_doLine hn ci (by omega) (by omega) (by omega) (by omega) (by omega) (t := t) (x1 := x2)) (fun q3179 h3180 => ?_)
              obtain ⟨ci3182, p3183, p3184, p3185⟩ := h3180
              have b3186 := HI_g29 ci3182 (c := 0) (p := 6) rfl
              have b3187 := HI_g29 ci (c := 0) (p := 6) rfl
              have b3188 := FX_0_8 (HI_FX ci3182)
              have b3189 := FX_0_34 (HI_FX ci3182)
              have b3190 := FX_0_48 (HI_FX ci3182)
              have b3191 := FX_0_51 (HI_FX ci3182)
              refine Tp_so ?_
              refine ⟨ci3182, ?_, ?_, ?_⟩
              · (try dsimp only) <;> first | omega | assumption
              · (try dsimp only) <;> first | omega | assumption
              · (try dsimp only) <;> first | omega | assumption
