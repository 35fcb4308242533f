/-! The law's loop -/
def lh_g (g : Nat → Int64) (v : Option Int64) : Nat → Int64 := match v with
  | some r => vp_updL g 0 r
  | none => g
def h_put (n : Nat) (x1 : Int32) (t : mz_St) : Option (Int32 × Option Int64 × mz_St) := match f_MH_put n x1 t with
  | some r => some (0, some r.1.toInt64, r.2)
  | none => (f_MH_put_T n x1 t).bind fun j => if j = 0 then some (1, none, t) else if j = 1 then some (2, none, t) else none
theorem ch_put {dC : Nat → ClassId} {dI : Nat → Nat → Nat} {ad en adK adV : Nat → Nat} {tA tS : Nat} {oF : Option Nat} {ca : Nat → ClassId} {o : Nat} {g : Nat → Int64} (l : Launch) (hT : ∀ e, l.admits e → e.platform.stackTraces = false) (n : Nat) (x1 : Int32) (t : mz_St) (q : Int32 × Option Int64 × mz_St) (hf : h_put n x1 t = some q) : lh_C (lh_S ad en adK adV tA tS oF) (lh_X ad o en adK adV tA tS oF) dC dI ad en ca l y_LA_put method_3_code 4 hh_put r_LA_put [.ref (ad 0), .int x1, .ref o] o g t q.1 (lh_g g q.2.1) q.2.2 := by
  unfold h_put at hf
  cases h : f_MH_put n x1 t with
  | some r =>
    rw [h] at hf
    obtain rfl := Option.some.inj hf
    exact h_put_N mz_SC_k l hT n x1 t r h
  | none =>
    rw [h] at hf
    obtain ⟨j, hj, hf⟩ := mz_bd hf
    by_cases h0 : j = 0
    · rw [if_pos h0] at hf
      subst h0
      obtain rfl := Option.some.inj hf
      exact h_put_T0 mz_SC_k l hT n x1 t () hj
    · rw [if_neg h0] at hf
      by_cases h1 : j = 1
      · rw [if_pos h1] at hf
        subst h1
        obtain rfl := Option.some.inj hf
        exact h_put_T1 mz_SC_k l hT n x1 t () hj
      · rw [if_neg h1] at hf
        exact nomatch hf
def h_end (n : Nat) (x1 : Int32) (t : mz_St) : Option (Int32 × Option Int64 × mz_St) := match f_MH_end n x1 t with
  | some r => some (0, none, r)
  | none => (f_MH_end_T n x1 t).bind fun j => if j = 0 then some (1, none, t) else none
theorem ch_end {dC : Nat → ClassId} {dI : Nat → Nat → Nat} {ad en adK adV : Nat → Nat} {tA tS : Nat} {oF : Option Nat} {ca : Nat → ClassId} {o : Nat} {g : Nat → Int64} (l : Launch) (hT : ∀ e, l.admits e → e.platform.stackTraces = false) (n : Nat) (x1 : Int32) (t : mz_St) (q : Int32 × Option Int64 × mz_St) (hf : h_end n x1 t = some q) : lh_C (lh_S ad en adK adV tA tS oF) (lh_X ad o en adK adV tA tS oF) dC dI ad en ca l y_LA_end method_4_code 3 hh_end r_LA_end [.ref (ad 0), .int x1] o g t q.1 (lh_g g q.2.1) q.2.2 := by
  unfold h_end at hf
  cases h : f_MH_end n x1 t with
  | some r =>
    rw [h] at hf
    obtain rfl := Option.some.inj hf
    exact h_end_N mz_SC_k l hT n x1 t r h
  | none =>
    rw [h] at hf
    obtain ⟨j, hj, hf⟩ := mz_bd hf
    by_cases h0 : j = 0
    · rw [if_pos h0] at hf
      subst h0
      obtain rfl := Option.some.inj hf
      exact h_end_T0 mz_SC_k l hT n x1 t () hj
    · rw [if_neg h0] at hf
      exact nomatch hf
def h_about (n : Nat) (x1 : Int32) (t : mz_St) : Option (Int32 × Option Int64 × mz_St) := match f_MH_about n x1 t with
  | some r => some (0, some r.1.toInt64, r.2)
  | none => (f_MH_about_T n x1 t).bind fun j => if j = 0 then some (1, none, t) else none
theorem ch_about {dC : Nat → ClassId} {dI : Nat → Nat → Nat} {ad en adK adV : Nat → Nat} {tA tS : Nat} {oF : Option Nat} {ca : Nat → ClassId} {o : Nat} {g : Nat → Int64} (l : Launch) (hT : ∀ e, l.admits e → e.platform.stackTraces = false) (n : Nat) (x1 : Int32) (t : mz_St) (q : Int32 × Option Int64 × mz_St) (hf : h_about n x1 t = some q) : lh_C (lh_S ad en adK adV tA tS oF) (lh_X ad o en adK adV tA tS oF) dC dI ad en ca l y_LA_about method_5_code 4 hh_about r_LA_about [.ref (ad 0), .int x1, .ref o] o g t q.1 (lh_g g q.2.1) q.2.2 := by
  unfold h_about at hf
  cases h : f_MH_about n x1 t with
  | some r =>
    rw [h] at hf
    obtain rfl := Option.some.inj hf
    exact h_about_N mz_SC_k l hT n x1 t r h
  | none =>
    rw [h] at hf
    obtain ⟨j, hj, hf⟩ := mz_bd hf
    by_cases h0 : j = 0
    · rw [if_pos h0] at hf
      subst h0
      obtain rfl := Option.some.inj hf
      exact h_about_T0 mz_SC_k l hT n x1 t () hj
    · rw [if_neg h0] at hf
      exact nomatch hf
def h_line (n : Nat) (x1 : Int32) (x2 : Int32) (t : mz_St) : Option (Int32 × Option Int64 × mz_St) := match f_MH_line n x1 x2 t with
  | some r => some (0, some r.1.toInt64, r.2)
  | none => (f_MH_line_T n x1 x2 t).bind fun j => if j = 2 then some (1, none, t) else if j = 0 then some (2, none, t) else none
theorem ch_line {dC : Nat → ClassId} {dI : Nat → Nat → Nat} {ad en adK adV : Nat → Nat} {tA tS : Nat} {oF : Option Nat} {ca : Nat → ClassId} {o : Nat} {g : Nat → Int64} (l : Launch) (hT : ∀ e, l.admits e → e.platform.stackTraces = false) (n : Nat) (x1 : Int32) (x2 : Int32) (t : mz_St) (q : Int32 × Option Int64 × mz_St) (hf : h_line n x1 x2 t = some q) : lh_C (lh_S ad en adK adV tA tS oF) (lh_X ad o en adK adV tA tS oF) dC dI ad en ca l y_LA_line method_6_code 5 hh_line r_LA_line [.ref (ad 0), .int x1, .int x2, .ref o] o g t q.1 (lh_g g q.2.1) q.2.2 := by
  unfold h_line at hf
  cases h : f_MH_line n x1 x2 t with
  | some r =>
    rw [h] at hf
    obtain rfl := Option.some.inj hf
    exact h_line_N mz_SC_k l hT n x1 x2 t r h
  | none =>
    rw [h] at hf
    obtain ⟨j, hj, hf⟩ := mz_bd hf
    by_cases h0 : j = 2
    · rw [if_pos h0] at hf
      subst h0
      obtain rfl := Option.some.inj hf
      exact h_line_T2 mz_SC_k l hT n x1 x2 t () hj
    · rw [if_neg h0] at hf
      by_cases h1 : j = 0
      · rw [if_pos h1] at hf
        subst h1
        obtain rfl := Option.some.inj hf
        exact h_line_T0 mz_SC_k l hT n x1 x2 t () hj
      · rw [if_neg h1] at hf
        exact nomatch hf
def h_constant (n : Nat) (x1 : Int32) (x2 : Int32) (t : mz_St) : Option (Int32 × Option Int64 × mz_St) := match f_MH_constant n x1 x2 t with
  | some r => some (0, some r.1.toInt64, r.2)
  | none => (f_MH_constant_T n x1 x2 t).bind fun j => if j = 2 then some (1, none, t) else if j = 0 then some (2, none, t) else none
theorem ch_constant {dC : Nat → ClassId} {dI : Nat → Nat → Nat} {ad en adK adV : Nat → Nat} {tA tS : Nat} {oF : Option Nat} {ca : Nat → ClassId} {o : Nat} {g : Nat → Int64} (l : Launch) (hT : ∀ e, l.admits e → e.platform.stackTraces = false) (n : Nat) (x1 : Int32) (x2 : Int32) (t : mz_St) (q : Int32 × Option Int64 × mz_St) (hf : h_constant n x1 x2 t = some q) : lh_C (lh_S ad en adK adV tA tS oF) (lh_X ad o en adK adV tA tS oF) dC dI ad en ca l y_LA_constant method_7_code 5 hh_constant r_LA_constant [.ref (ad 0), .int x1, .int x2, .ref o] o g t q.1 (lh_g g q.2.1) q.2.2 := by
  unfold h_constant at hf
  cases h : f_MH_constant n x1 x2 t with
  | some r =>
    rw [h] at hf
    obtain rfl := Option.some.inj hf
    exact h_constant_N mz_SC_k l hT n x1 x2 t r h
  | none =>
    rw [h] at hf
    obtain ⟨j, hj, hf⟩ := mz_bd hf
    by_cases h0 : j = 2
    · rw [if_pos h0] at hf
      subst h0
      obtain rfl := Option.some.inj hf
      exact h_constant_T2 mz_SC_k l hT n x1 x2 t () hj
    · rw [if_neg h0] at hf
      by_cases h1 : j = 0
      · rw [if_pos h1] at hf
        subst h1
        obtain rfl := Option.some.inj hf
        exact h_constant_T0 mz_SC_k l hT n x1 x2 t () hj
      · rw [if_neg h1] at hf
        exact nomatch hf
def h_macro (n : Nat) (x1 : Int32) (x2 : Int32) (t : mz_St) : Option (Int32 × Option Int64 × mz_St) := match f_MH_macro n x1 x2 t with
  | some r => some (0, some r.1.toInt64, r.2)
  | none => (f_MH_macro_T n x1 x2 t).bind fun j => if j = 2 then some (1, none, t) else if j = 0 then some (2, none, t) else none
theorem ch_macro {dC : Nat → ClassId} {dI : Nat → Nat → Nat} {ad en adK adV : Nat → Nat} {tA tS : Nat} {oF : Option Nat} {ca : Nat → ClassId} {o : Nat} {g : Nat → Int64} (l : Launch) (hT : ∀ e, l.admits e → e.platform.stackTraces = false) (n : Nat) (x1 : Int32) (x2 : Int32) (t : mz_St) (q : Int32 × Option Int64 × mz_St) (hf : h_macro n x1 x2 t = some q) : lh_C (lh_S ad en adK adV tA tS oF) (lh_X ad o en adK adV tA tS oF) dC dI ad en ca l y_LA_macro method_8_code 5 hh_macro r_LA_macro [.ref (ad 0), .int x1, .int x2, .ref o] o g t q.1 (lh_g g q.2.1) q.2.2 := by
  unfold h_macro at hf
  cases h : f_MH_macro n x1 x2 t with
  | some r =>
    rw [h] at hf
    obtain rfl := Option.some.inj hf
    exact h_macro_N mz_SC_k l hT n x1 x2 t r h
  | none =>
    rw [h] at hf
    obtain ⟨j, hj, hf⟩ := mz_bd hf
    by_cases h0 : j = 2
    · rw [if_pos h0] at hf
      subst h0
      obtain rfl := Option.some.inj hf
      exact h_macro_T2 mz_SC_k l hT n x1 x2 t () hj
    · rw [if_neg h0] at hf
      by_cases h1 : j = 0
      · rw [if_pos h1] at hf
        subst h1
        obtain rfl := Option.some.inj hf
        exact h_macro_T0 mz_SC_k l hT n x1 x2 t () hj
      · rw [if_neg h1] at hf
        exact nomatch hf
theorem d_LA_law_0 : decode code 0 = .ok (.new 8, 3) := by decide +kernel
theorem d_LA_law_3 : decode code 3 = .ok (.dup, 1) := by decide +kernel
theorem d_LA_law_4 : decode code 4 = .ok (.invokespecial 36, 3) := by decide +kernel
theorem d_LA_law_7 : decode code 7 = .ok (.astore_n 1, 1) := by decide +kernel
theorem d_LA_law_8 : decode code 8 = .ok (.new 37, 3) := by decide +kernel
theorem d_LA_law_11 : decode code 11 = .ok (.dup, 1) := by decide +kernel
theorem d_LA_law_12 : decode code 12 = .ok (.invokespecial 39, 3) := by decide +kernel
theorem d_LA_law_15 : decode code 15 = .ok (.astore_n 2, 1) := by decide +kernel
theorem d_LA_law_16 : decode code 16 = .ok (.iconst 1, 1) := by decide +kernel
theorem d_LA_law_17 : decode code 17 = .ok (.newarray .long, 2) := by decide +kernel
theorem d_LA_law_19 : decode code 19 = .ok (.astore_n 3, 1) := by decide +kernel
theorem d_LA_law_20 : decode code 20 = .ok (.iconst 0, 1) := by decide +kernel
theorem d_LA_law_21 : decode code 21 = .ok (.istore 4, 2) := by decide +kernel
theorem d_LA_law_23 : decode code 23 = .ok (.iload 4, 2) := by decide +kernel
theorem d_LA_law_25 : decode code 25 = .ok (.aload_n 0, 1) := by decide +kernel
theorem d_LA_law_26 : decode code 26 = .ok (.arraylength, 1) := by decide +kernel
theorem d_LA_law_27 : decode code 27 = .ok (.iconst 3, 1) := by decide +kernel
theorem d_LA_law_28 : decode code 28 = .ok (.isub, 1) := by decide +kernel
theorem d_LA_law_29 : decode code 29 = .ok (.if_icmp .gt 282, 3) := by decide +kernel
theorem d_LA_law_32 : decode code 32 = .ok (.aload_n 0, 1) := by decide +kernel
theorem d_LA_law_33 : decode code 33 = .ok (.iload 4, 2) := by decide +kernel
theorem d_LA_law_35 : decode code 35 = .ok (.iaload, 1) := by decide +kernel
theorem d_LA_law_36 : decode code 36 = .ok (.bipush 7, 2) := by decide +kernel
theorem d_LA_law_38 : decode code 38 = .ok (.iand, 1) := by decide +kernel
theorem d_LA_law_39 : decode code 39 = .ok (.tableswitch 266 0 6 #[41, 69, 105, 118, 146, 186, 226], 41) := by decide +kernel
theorem d_LA_law_80 : decode code 80 = .ok (.aload_n 1, 1) := by decide +kernel
theorem d_LA_law_81 : decode code 81 = .ok (.aload_n 0, 1) := by decide +kernel
theorem d_LA_law_82 : decode code 82 = .ok (.iload 4, 2) := by decide +kernel
theorem d_LA_law_84 : decode code 84 = .ok (.iconst 1, 1) := by decide +kernel
theorem d_LA_law_85 : decode code 85 = .ok (.iadd, 1) := by decide +kernel
theorem d_LA_law_86 : decode code 86 = .ok (.iaload, 1) := by decide +kernel
theorem d_LA_law_87 : decode code 87 = .ok (.aload_n 3, 1) := by decide +kernel
theorem d_LA_law_88 : decode code 88 = .ok (.invokestatic 40, 3) := by decide +kernel
theorem d_LA_law_91 : decode code 91 = .ok (.istore 5, 2) := by decide +kernel
theorem d_LA_law_93 : decode code 93 = .ok (.aload_n 2, 1) := by decide +kernel
theorem d_LA_law_94 : decode code 94 = .ok (.aload_n 0, 1) := by decide +kernel
theorem d_LA_law_95 : decode code 95 = .ok (.iload 4, 2) := by decide +kernel
theorem d_LA_law_97 : decode code 97 = .ok (.iconst 1, 1) := by decide +kernel
theorem d_LA_law_98 : decode code 98 = .ok (.iadd, 1) := by decide +kernel
theorem d_LA_law_99 : decode code 99 = .ok (.iaload, 1) := by decide +kernel
theorem d_LA_law_100 : decode code 100 = .ok (.invokevirtual 45, 3) := by decide +kernel
theorem d_LA_law_103 : decode code 103 = .ok (.istore 6, 2) := by decide +kernel
theorem d_LA_law_105 : decode code 105 = .ok (.goto 200, 3) := by decide +kernel
theorem d_LA_law_108 : decode code 108 = .ok (.aload_n 1, 1) := by decide +kernel
theorem d_LA_law_109 : decode code 109 = .ok (.aload_n 0, 1) := by decide +kernel
theorem d_LA_law_110 : decode code 110 = .ok (.iload 4, 2) := by decide +kernel
theorem d_LA_law_112 : decode code 112 = .ok (.iconst 1, 1) := by decide +kernel
theorem d_LA_law_113 : decode code 113 = .ok (.iadd, 1) := by decide +kernel
theorem d_LA_law_114 : decode code 114 = .ok (.iaload, 1) := by decide +kernel
theorem d_LA_law_115 : decode code 115 = .ok (.invokestatic 46, 3) := by decide +kernel
theorem d_LA_law_118 : decode code 118 = .ok (.istore 5, 2) := by decide +kernel
theorem d_LA_law_120 : decode code 120 = .ok (.aload_n 2, 1) := by decide +kernel
theorem d_LA_law_121 : decode code 121 = .ok (.aload_n 0, 1) := by decide +kernel
theorem d_LA_law_122 : decode code 122 = .ok (.iload 4, 2) := by decide +kernel
theorem d_LA_law_124 : decode code 124 = .ok (.iconst 1, 1) := by decide +kernel
theorem d_LA_law_125 : decode code 125 = .ok (.iadd, 1) := by decide +kernel
theorem d_LA_law_126 : decode code 126 = .ok (.iaload, 1) := by decide +kernel
theorem d_LA_law_127 : decode code 127 = .ok (.invokevirtual 49, 3) := by decide +kernel
theorem d_LA_law_130 : decode code 130 = .ok (.aload_n 2, 1) := by decide +kernel
theorem d_LA_law_131 : decode code 131 = .ok (.invokevirtual 50, 3) := by decide +kernel
theorem d_LA_law_134 : decode code 134 = .ok (.iload 5, 2) := by decide +kernel
theorem d_LA_law_136 : decode code 136 = .ok (.if_icmp .eq 5, 3) := by decide +kernel
theorem d_LA_law_139 : decode code 139 = .ok (.iconst 0, 1) := by decide +kernel
theorem d_LA_law_140 : decode code 140 = .ok (.ireturn, 1) := by decide +kernel
theorem d_LA_law_141 : decode code 141 = .ok (.goto 164, 3) := by decide +kernel
theorem d_LA_law_144 : decode code 144 = .ok (.aload_n 1, 1) := by decide +kernel
theorem d_LA_law_145 : decode code 145 = .ok (.invokevirtual 54, 3) := by decide +kernel
theorem d_LA_law_148 : decode code 148 = .ok (.pop, 1) := by decide +kernel
theorem d_LA_law_149 : decode code 149 = .ok (.aload_n 2, 1) := by decide +kernel
theorem d_LA_law_150 : decode code 150 = .ok (.invokevirtual 57, 3) := by decide +kernel
theorem d_LA_law_153 : decode code 153 = .ok (.pop, 1) := by decide +kernel
theorem d_LA_law_154 : decode code 154 = .ok (.goto 151, 3) := by decide +kernel
theorem d_LA_law_157 : decode code 157 = .ok (.aload_n 1, 1) := by decide +kernel
theorem d_LA_law_158 : decode code 158 = .ok (.aload_n 0, 1) := by decide +kernel
theorem d_LA_law_159 : decode code 159 = .ok (.iload 4, 2) := by decide +kernel
theorem d_LA_law_161 : decode code 161 = .ok (.iconst 1, 1) := by decide +kernel
theorem d_LA_law_162 : decode code 162 = .ok (.iadd, 1) := by decide +kernel
theorem d_LA_law_163 : decode code 163 = .ok (.iaload, 1) := by decide +kernel
theorem d_LA_law_164 : decode code 164 = .ok (.aload_n 3, 1) := by decide +kernel
theorem d_LA_law_165 : decode code 165 = .ok (.invokestatic 58, 3) := by decide +kernel
theorem d_LA_law_168 : decode code 168 = .ok (.istore 5, 2) := by decide +kernel
theorem d_LA_law_170 : decode code 170 = .ok (.aload_n 2, 1) := by decide +kernel
theorem d_LA_law_171 : decode code 171 = .ok (.aload_n 0, 1) := by decide +kernel
theorem d_LA_law_172 : decode code 172 = .ok (.iload 4, 2) := by decide +kernel
theorem d_LA_law_174 : decode code 174 = .ok (.iconst 1, 1) := by decide +kernel
theorem d_LA_law_175 : decode code 175 = .ok (.iadd, 1) := by decide +kernel
theorem d_LA_law_176 : decode code 176 = .ok (.iaload, 1) := by decide +kernel
theorem d_LA_law_177 : decode code 177 = .ok (.invokevirtual 60, 3) := by decide +kernel
theorem d_LA_law_180 : decode code 180 = .ok (.istore 6, 2) := by decide +kernel
theorem d_LA_law_182 : decode code 182 = .ok (.goto 123, 3) := by decide +kernel
theorem d_LA_law_185 : decode code 185 = .ok (.aload_n 1, 1) := by decide +kernel
theorem d_LA_law_186 : decode code 186 = .ok (.aload_n 0, 1) := by decide +kernel
theorem d_LA_law_187 : decode code 187 = .ok (.iload 4, 2) := by decide +kernel
theorem d_LA_law_189 : decode code 189 = .ok (.iconst 1, 1) := by decide +kernel
theorem d_LA_law_190 : decode code 190 = .ok (.iadd, 1) := by decide +kernel
theorem d_LA_law_191 : decode code 191 = .ok (.iaload, 1) := by decide +kernel
theorem d_LA_law_192 : decode code 192 = .ok (.aload_n 0, 1) := by decide +kernel
theorem d_LA_law_193 : decode code 193 = .ok (.iload 4, 2) := by decide +kernel
theorem d_LA_law_195 : decode code 195 = .ok (.iconst 2, 1) := by decide +kernel
theorem d_LA_law_196 : decode code 196 = .ok (.iadd, 1) := by decide +kernel
theorem d_LA_law_197 : decode code 197 = .ok (.iaload, 1) := by decide +kernel
theorem d_LA_law_198 : decode code 198 = .ok (.aload_n 3, 1) := by decide +kernel
theorem d_LA_law_199 : decode code 199 = .ok (.invokestatic 61, 3) := by decide +kernel
theorem d_LA_law_202 : decode code 202 = .ok (.istore 5, 2) := by decide +kernel
theorem d_LA_law_204 : decode code 204 = .ok (.aload_n 2, 1) := by decide +kernel
theorem d_LA_law_205 : decode code 205 = .ok (.aload_n 0, 1) := by decide +kernel
theorem d_LA_law_206 : decode code 206 = .ok (.iload 4, 2) := by decide +kernel
theorem d_LA_law_208 : decode code 208 = .ok (.iconst 1, 1) := by decide +kernel
theorem d_LA_law_209 : decode code 209 = .ok (.iadd, 1) := by decide +kernel
theorem d_LA_law_210 : decode code 210 = .ok (.iaload, 1) := by decide +kernel
theorem d_LA_law_211 : decode code 211 = .ok (.aload_n 0, 1) := by decide +kernel
theorem d_LA_law_212 : decode code 212 = .ok (.iload 4, 2) := by decide +kernel
theorem d_LA_law_214 : decode code 214 = .ok (.iconst 2, 1) := by decide +kernel
theorem d_LA_law_215 : decode code 215 = .ok (.iadd, 1) := by decide +kernel
theorem d_LA_law_216 : decode code 216 = .ok (.iaload, 1) := by decide +kernel
theorem d_LA_law_217 : decode code 217 = .ok (.invokevirtual 64, 3) := by decide +kernel
theorem d_LA_law_220 : decode code 220 = .ok (.istore 6, 2) := by decide +kernel
theorem d_LA_law_222 : decode code 222 = .ok (.goto 83, 3) := by decide +kernel
theorem d_LA_law_225 : decode code 225 = .ok (.aload_n 1, 1) := by decide +kernel
theorem d_LA_law_226 : decode code 226 = .ok (.aload_n 0, 1) := by decide +kernel
theorem d_LA_law_227 : decode code 227 = .ok (.iload 4, 2) := by decide +kernel
theorem d_LA_law_229 : decode code 229 = .ok (.iconst 1, 1) := by decide +kernel
theorem d_LA_law_230 : decode code 230 = .ok (.iadd, 1) := by decide +kernel
theorem d_LA_law_231 : decode code 231 = .ok (.iaload, 1) := by decide +kernel
theorem d_LA_law_232 : decode code 232 = .ok (.aload_n 0, 1) := by decide +kernel
theorem d_LA_law_233 : decode code 233 = .ok (.iload 4, 2) := by decide +kernel
theorem d_LA_law_235 : decode code 235 = .ok (.iconst 2, 1) := by decide +kernel
theorem d_LA_law_236 : decode code 236 = .ok (.iadd, 1) := by decide +kernel
theorem d_LA_law_237 : decode code 237 = .ok (.iaload, 1) := by decide +kernel
theorem d_LA_law_238 : decode code 238 = .ok (.aload_n 3, 1) := by decide +kernel
theorem d_LA_law_239 : decode code 239 = .ok (.invokestatic 65, 3) := by decide +kernel
theorem d_LA_law_242 : decode code 242 = .ok (.istore 5, 2) := by decide +kernel
theorem d_LA_law_244 : decode code 244 = .ok (.aload_n 2, 1) := by decide +kernel
theorem d_LA_law_245 : decode code 245 = .ok (.aload_n 0, 1) := by decide +kernel
theorem d_LA_law_246 : decode code 246 = .ok (.iload 4, 2) := by decide +kernel
theorem d_LA_law_248 : decode code 248 = .ok (.iconst 1, 1) := by decide +kernel
theorem d_LA_law_249 : decode code 249 = .ok (.iadd, 1) := by decide +kernel
theorem d_LA_law_250 : decode code 250 = .ok (.iaload, 1) := by decide +kernel
theorem d_LA_law_251 : decode code 251 = .ok (.aload_n 0, 1) := by decide +kernel
theorem d_LA_law_252 : decode code 252 = .ok (.iload 4, 2) := by decide +kernel
theorem d_LA_law_254 : decode code 254 = .ok (.iconst 2, 1) := by decide +kernel
theorem d_LA_law_255 : decode code 255 = .ok (.iadd, 1) := by decide +kernel
theorem d_LA_law_256 : decode code 256 = .ok (.iaload, 1) := by decide +kernel
theorem d_LA_law_257 : decode code 257 = .ok (.invokevirtual 67, 3) := by decide +kernel
theorem d_LA_law_260 : decode code 260 = .ok (.istore 6, 2) := by decide +kernel
theorem d_LA_law_262 : decode code 262 = .ok (.goto 43, 3) := by decide +kernel
theorem d_LA_law_265 : decode code 265 = .ok (.aload_n 1, 1) := by decide +kernel
theorem d_LA_law_266 : decode code 266 = .ok (.aload_n 0, 1) := by decide +kernel
theorem d_LA_law_267 : decode code 267 = .ok (.iload 4, 2) := by decide +kernel
theorem d_LA_law_269 : decode code 269 = .ok (.iconst 1, 1) := by decide +kernel
theorem d_LA_law_270 : decode code 270 = .ok (.iadd, 1) := by decide +kernel
theorem d_LA_law_271 : decode code 271 = .ok (.iaload, 1) := by decide +kernel
theorem d_LA_law_272 : decode code 272 = .ok (.aload_n 0, 1) := by decide +kernel
theorem d_LA_law_273 : decode code 273 = .ok (.iload 4, 2) := by decide +kernel
theorem d_LA_law_275 : decode code 275 = .ok (.iconst 2, 1) := by decide +kernel
theorem d_LA_law_276 : decode code 276 = .ok (.iadd, 1) := by decide +kernel
theorem d_LA_law_277 : decode code 277 = .ok (.iaload, 1) := by decide +kernel
theorem d_LA_law_278 : decode code 278 = .ok (.aload_n 3, 1) := by decide +kernel
theorem d_LA_law_279 : decode code 279 = .ok (.invokestatic 68, 3) := by decide +kernel
theorem d_LA_law_282 : decode code 282 = .ok (.istore 5, 2) := by decide +kernel
theorem d_LA_law_284 : decode code 284 = .ok (.aload_n 2, 1) := by decide +kernel
theorem d_LA_law_285 : decode code 285 = .ok (.aload_n 0, 1) := by decide +kernel
theorem d_LA_law_286 : decode code 286 = .ok (.iload 4, 2) := by decide +kernel
theorem d_LA_law_288 : decode code 288 = .ok (.iconst 1, 1) := by decide +kernel
theorem d_LA_law_289 : decode code 289 = .ok (.iadd, 1) := by decide +kernel
theorem d_LA_law_290 : decode code 290 = .ok (.iaload, 1) := by decide +kernel
theorem d_LA_law_291 : decode code 291 = .ok (.aload_n 0, 1) := by decide +kernel
theorem d_LA_law_292 : decode code 292 = .ok (.iload 4, 2) := by decide +kernel
theorem d_LA_law_294 : decode code 294 = .ok (.iconst 2, 1) := by decide +kernel
theorem d_LA_law_295 : decode code 295 = .ok (.iadd, 1) := by decide +kernel
theorem d_LA_law_296 : decode code 296 = .ok (.iaload, 1) := by decide +kernel
theorem d_LA_law_297 : decode code 297 = .ok (.invokevirtual 70, 3) := by decide +kernel
theorem d_LA_law_300 : decode code 300 = .ok (.istore 6, 2) := by decide +kernel
theorem d_LA_law_302 : decode code 302 = .ok (.goto 3, 3) := by decide +kernel
theorem d_LA_law_305 : decode code 305 = .ok (.iinc 4 3, 3) := by decide +kernel
theorem d_LA_law_308 : decode code 308 = .ok (.goto (-285), 3) := by decide +kernel
theorem d_LA_law_311 : decode code 311 = .ok (.iconst 1, 1) := by decide +kernel
theorem d_LA_law_312 : decode code 312 = .ok (.ireturn, 1) := by decide +kernel
def f_law (n : Nat) (xs : Nat → Int32) (L : Nat) : Nat → Int32 → mz_St → mz_St → (Nat → Int64) → Option Unit
  | 0, _, _, _, _ => none
  | k + 1, i, tC, tM, g => if ((Int32.ofNat L) - (3 : Int32)) < i then (some ()) else (if ¬ (i < 0 ∨ L ≤ i.toNatClampNeg) then (if ((xs i.toNatClampNeg) &&& (7 : Int32)) = (0 : Int32) then (if ¬ ((i + (1 : Int32)) < 0 ∨ L ≤ (i + (1 : Int32)).toNatClampNeg) then ((h_put n (xs (i + (1 : Int32)).toNatClampNeg) tC).bind fun q5 => if ¬ ((i + (1 : Int32)) < 0 ∨ L ≤ (i + (1 : Int32)).toNatClampNeg) then ((f_MO_put n (xs (i + (1 : Int32)).toNatClampNeg) tM).bind fun q8 => f_law n xs L k (i + (3 : Int32)) q5.2.2 q8.2 (lh_g g q5.2.1)) else none) else none) else (if ((xs i.toNatClampNeg) &&& (7 : Int32)) = (1 : Int32) then (if ¬ ((i + (1 : Int32)) < 0 ∨ L ≤ (i + (1 : Int32)).toNatClampNeg) then ((h_end n (xs (i + (1 : Int32)).toNatClampNeg) tC).bind fun q12 => if ¬ ((i + (1 : Int32)) < 0 ∨ L ≤ (i + (1 : Int32)).toNatClampNeg) then ((f_MO_end n (xs (i + (1 : Int32)).toNatClampNeg) tM).bind fun q15 => (f_MO_thrown n q15).bind fun q17 => if q17.1 = q12.1 then (f_law n xs L k (i + (3 : Int32)) q12.2.2 q17.2 (lh_g g q12.2.1)) else none) else none) else none) else (if ((xs i.toNatClampNeg) &&& (7 : Int32)) = (2 : Int32) then ((f_MH_expand n tC).bind fun q21 => (f_MO_expand n tM).bind fun q23 => f_law n xs L k (i + (3 : Int32)) q21.2 q23.2 g) else (if ((xs i.toNatClampNeg) &&& (7 : Int32)) = (3 : Int32) then (if ¬ ((i + (1 : Int32)) < 0 ∨ L ≤ (i + (1 : Int32)).toNatClampNeg) then ((h_about n (xs (i + (1 : Int32)).toNatClampNeg) tC).bind fun q27 => if ¬ ((i + (1 : Int32)) < 0 ∨ L ≤ (i + (1 : Int32)).toNatClampNeg) then ((f_MO_about n (xs (i + (1 : Int32)).toNatClampNeg) tM).bind fun q30 => f_law n xs L k (i + (3 : Int32)) q27.2.2 q30.2 (lh_g g q27.2.1)) else none) else none) else (if ((xs i.toNatClampNeg) &&& (7 : Int32)) = (4 : Int32) then (if ¬ ((i + (1 : Int32)) < 0 ∨ L ≤ (i + (1 : Int32)).toNatClampNeg) then (if ¬ ((i + (2 : Int32)) < 0 ∨ L ≤ (i + (2 : Int32)).toNatClampNeg) then ((h_line n (xs (i + (1 : Int32)).toNatClampNeg) (xs (i + (2 : Int32)).toNatClampNeg) tC).bind fun q35 => if ¬ ((i + (1 : Int32)) < 0 ∨ L ≤ (i + (1 : Int32)).toNatClampNeg) then (if ¬ ((i + (2 : Int32)) < 0 ∨ L ≤ (i + (2 : Int32)).toNatClampNeg) then ((f_MO_line n (xs (i + (1 : Int32)).toNatClampNeg) (xs (i + (2 : Int32)).toNatClampNeg) tM).bind fun q39 => f_law n xs L k (i + (3 : Int32)) q35.2.2 q39.2 (lh_g g q35.2.1)) else none) else none) else none) else none) else (if ((xs i.toNatClampNeg) &&& (7 : Int32)) = (5 : Int32) then (if ¬ ((i + (1 : Int32)) < 0 ∨ L ≤ (i + (1 : Int32)).toNatClampNeg) then (if ¬ ((i + (2 : Int32)) < 0 ∨ L ≤ (i + (2 : Int32)).toNatClampNeg) then ((h_constant n (xs (i + (1 : Int32)).toNatClampNeg) (xs (i + (2 : Int32)).toNatClampNeg) tC).bind fun q44 => if ¬ ((i + (1 : Int32)) < 0 ∨ L ≤ (i + (1 : Int32)).toNatClampNeg) then (if ¬ ((i + (2 : Int32)) < 0 ∨ L ≤ (i + (2 : Int32)).toNatClampNeg) then ((f_MO_constant n (xs (i + (1 : Int32)).toNatClampNeg) (xs (i + (2 : Int32)).toNatClampNeg) tM).bind fun q48 => f_law n xs L k (i + (3 : Int32)) q44.2.2 q48.2 (lh_g g q44.2.1)) else none) else none) else none) else none) else (if ((xs i.toNatClampNeg) &&& (7 : Int32)) = (6 : Int32) then (if ¬ ((i + (1 : Int32)) < 0 ∨ L ≤ (i + (1 : Int32)).toNatClampNeg) then (if ¬ ((i + (2 : Int32)) < 0 ∨ L ≤ (i + (2 : Int32)).toNatClampNeg) then ((h_macro n (xs (i + (1 : Int32)).toNatClampNeg) (xs (i + (2 : Int32)).toNatClampNeg) tC).bind fun q53 => if ¬ ((i + (1 : Int32)) < 0 ∨ L ≤ (i + (1 : Int32)).toNatClampNeg) then (if ¬ ((i + (2 : Int32)) < 0 ∨ L ≤ (i + (2 : Int32)).toNatClampNeg) then ((f_MO_macro n (xs (i + (1 : Int32)).toNatClampNeg) (xs (i + (2 : Int32)).toNatClampNeg) tM).bind fun q57 => f_law n xs L k (i + (3 : Int32)) q53.2.2 q57.2 (lh_g g q53.2.1)) else none) else none) else none) else none) else (f_law n xs L k (i + (3 : Int32)) tC tM g)))))))) else none)
set_option maxRecDepth 100000 in
set_option maxHeartbeats 8000000 in
theorem law_loop {dC : Nat → ClassId} {dI : Nat → Nat → Nat} {ca : Nat → ClassId} {en adK adV : Nat → Nat} {tA tS : Nat} {oF : Option Nat} {adC adM : Nat → Nat} {o : Nat} {p : Program} {l : Launch} {e : Env} {s : State} {m : MethodId} {below : List Frame} {meth : Method} {c : Code} {b L : Nat} {xs : Nat → Int32} (E : lw_En dC dI ca en adK adV tA tS oF adC adM o p s m c code 7) (hr : meth.sig.returnType = ret) (hlocks : meth.locks = false) (hX : va_X b L xs s s.heap) (hbl : b < s.heap.size) (hT : ∀ e, l.admits e → e.platform.stackTraces = false) (n : Nat) : ∀ (k : Nat) (i : Int32) (tC tM : mz_St) (g : Nat → Int64), f_law n xs L k i tC tM g = some () → ∀ cells slots, cells + k ≤ 601024 → slots + 6 * k ≤ 7293034 → ∀ (H : Heap) (locs : List Loc) (ls : Array Slot), lw_W dC dI ca en adC adM o s tC tM g H locs → lv_has ls 7 [(0, .ref b), (1, .ref (adC 0)), (2, .ref (adM 0)), (3, .ref o), (4, .int i)] → W p l e room_1 s m #[Value.ref b] below meth c H locs cells slots (lw_Z below #[Value.ref b] s) (F0 m 23 ls []) := by
  obtain ⟨hx, hb, hml, hown, hcx, hK, -⟩ := id E
  have hbA : ¬ (fun q : Nat => s.heap.size ≤ q) b := Nat.not_le.mpr hbl
  intro k
  induction k with
  | zero => intro i tC tM g hf; exact nomatch hf
  | succ k ih =>
    intro i tC tM g hf cells slots hce hsl H locs ls w hl
    unfold f_law at hf
    refine lv_iload hx hb d_LA_law_23 (lv_at hl 4 rfl) ?_
    refine lv_aload_n hx hb d_LA_law_25 rfl (lv_at hl 0 rfl) ?_
    refine va_slen hx hb hX hbl hbA w.2.2.2 d_LA_law_26 ?_
    refine lv_iconst (v := (3 : Int32)) hx hb d_LA_law_27 (by decide) ?_
    refine lv_isub hx hb d_LA_law_28 ?_
    refine lv_icmp_gt (tgt := 311) hx hb d_LA_law_29 (by decide) (fun hc1 => ?_) (fun hc1 => ?_)
    · have hf := mz_t hc1 hf
      refine lv_iconst (v := (1 : Int32)) hx hb d_LA_law_311 (by decide) ?_
      refine va_forget w.2.2.2.2.2 ?_
      refine W.widen (k := 601024) (n := 7293034) (by omega) (by omega) ?_
      exact lw_ret hx hb hr hlocks d_LA_law_312
    · have hf := mz_f hc1 hf
      refine lv_aload_n hx hb d_LA_law_32 rfl (lv_at hl 0 rfl) ?_
      refine lv_iload hx hb d_LA_law_33 (lv_at hl 4 rfl) ?_
      obtain ⟨hi2, hf⟩ := mz_gd hf
      refine va_sld hx hb hX hbl hbA w.2.2.2 hi2 d_LA_law_35 ?_
      refine lv_bipush (v := (7 : Int32)) hx hb d_LA_law_36 (by decide) ?_
      refine lv_iand hx hb d_LA_law_38 ?_
      by_cases hc3 : ((xs i.toNatClampNeg) &&& (7 : Int32)) = (0 : Int32)
      · have hf := mz_t hc3 hf
        refine lv_tableIn (off := 41) (tgt := 80) hx hb d_LA_law_39 (by rw [hc3]; decide) (by rw [hc3]; decide) (by rw [hc3]; rfl) (by decide) ?_
        refine lv_aload_n hx hb d_LA_law_80 rfl (lv_at hl 1 rfl) ?_
        refine lv_aload_n hx hb d_LA_law_81 rfl (lv_at hl 0 rfl) ?_
        refine lv_iload hx hb d_LA_law_82 (lv_at hl 4 rfl) ?_
        refine lv_iconst (v := (1 : Int32)) hx hb d_LA_law_84 (by decide) ?_
        refine lv_iadd hx hb d_LA_law_85 ?_
        obtain ⟨hi4, hf⟩ := mz_gd hf
        refine va_sld hx hb hX hbl hbA w.2.2.2 hi4 d_LA_law_86 ?_
        refine lv_aload_n hx hb d_LA_law_87 rfl (lv_at hl 3 rfl) ?_
        obtain ⟨q5, hq6, hf⟩ := mz_bd hf
        refine lw_help (As := [.ref (adC 0), .int (xs (i + (1 : Int32)).toNatClampNeg), .ref o]) (rest := []) E w (ch_put l hT n (xs (i + (1 : Int32)).toNatClampNeg) tC q5 hq6) lk_put k_0 k_1008 k_1009 (n := 3) (by decide +kernel) ⟨⟨rfl, rfl⟩, (Nat.le_of_ble_eq_true rfl), (Nat.le_of_ble_eq_true rfl)⟩ rfl hl.1 rfl (Nat.le_of_ble_eq_true rfl) d_LA_law_88 ⟨by show _ + 1 ≤ 601024; omega, by show _ + 6 ≤ 7293034; omega⟩ (fun H locs w => ?_)
        refine lv_istore (lv' := [(5, .int q5.1), (0, .ref b), (1, .ref (adC 0)), (2, .ref (adM 0)), (3, .ref o), (4, .int i)]) hx hb d_LA_law_91 hl (by decide) rfl (fun ls hl => ?_)
        refine lv_aload_n hx hb d_LA_law_93 rfl (lv_at hl 3 rfl) ?_
        refine lv_aload_n hx hb d_LA_law_94 rfl (lv_at hl 1 rfl) ?_
        refine lv_iload hx hb d_LA_law_95 (lv_at hl 5 rfl) ?_
        refine lv_iconst (v := (1 : Int32)) hx hb d_LA_law_97 (by decide) ?_
        refine lv_iadd hx hb d_LA_law_98 ?_
        obtain ⟨hi7, hf⟩ := mz_gd hf
        refine va_sld hx hb hX hbl hbA w.2.2.2 hi7 d_LA_law_99 ?_
        obtain ⟨q8, hq9, hf⟩ := mz_bd hf
        refine lw_callM (As := [.int (xs (i + (1 : Int32)).toNatClampNeg)]) (rest := []) E w (c_MO_put (fun _ _ _ _ _ _ => trivial) l n (xs (i + (1 : Int32)).toNatClampNeg) tM q8 hq9) rfl rfl k_1432 k_15 k_1429 k_1430 k_1431 hm_MO_put ⟨⟨rfl, rfl⟩, (Nat.le_of_ble_eq_true rfl), (Nat.le_of_ble_eq_true rfl)⟩ rfl hl.1 rfl (Nat.le_of_ble_eq_true rfl) d_LA_law_100 ⟨by show _ ≤ 601024; omega, by show _ ≤ 7293034; omega⟩ (st1 := [.int q8.1]) rfl (fun H locs w => ?_)
        refine lv_istore (lv' := [(6, .int q8.1), (5, .int q5.1), (0, .ref b), (1, .ref (adC 0)), (2, .ref (adM 0)), (3, .ref o), (4, .int i)]) hx hb d_LA_law_103 hl (by decide) rfl (fun ls hl => ?_)
        refine lv_goto (tgt := 305) hx hb d_LA_law_105 (by decide) ?_
        refine lv_iinc (v := (i + (3 : Int32))) (lv' := [(4, .int (i + (3 : Int32))), (6, .int q8.1), (5, .int q5.1), (0, .ref b), (1, .ref (adC 0)), (2, .ref (adM 0)), (3, .ref o)]) hx hb d_LA_law_305 hl (k := 6) rfl rfl (by decide) rfl (fun ls hl => ?_)
        refine lv_goto (tgt := 23) hx hb d_LA_law_308 (by decide) ?_
        exact ih (i + (3 : Int32)) q5.2.2 q8.2 (lh_g g q5.2.1) hf _ _ (by omega) (by omega) _ _ _ w (lv_sub hl [3, 4, 5, 6, 0] rfl)
      · have hf := mz_f hc3 hf
        by_cases hc10 : ((xs i.toNatClampNeg) &&& (7 : Int32)) = (1 : Int32)
        · have hf := mz_t hc10 hf
          refine lv_tableIn (off := 69) (tgt := 108) hx hb d_LA_law_39 (by rw [hc10]; decide) (by rw [hc10]; decide) (by rw [hc10]; rfl) (by decide) ?_
          refine lv_aload_n hx hb d_LA_law_108 rfl (lv_at hl 1 rfl) ?_
          refine lv_aload_n hx hb d_LA_law_109 rfl (lv_at hl 0 rfl) ?_
          refine lv_iload hx hb d_LA_law_110 (lv_at hl 4 rfl) ?_
          refine lv_iconst (v := (1 : Int32)) hx hb d_LA_law_112 (by decide) ?_
          refine lv_iadd hx hb d_LA_law_113 ?_
          obtain ⟨hi11, hf⟩ := mz_gd hf
          refine va_sld hx hb hX hbl hbA w.2.2.2 hi11 d_LA_law_114 ?_
          obtain ⟨q12, hq13, hf⟩ := mz_bd hf
          refine lw_help (As := [.ref (adC 0), .int (xs (i + (1 : Int32)).toNatClampNeg)]) (rest := []) E w (ch_end l hT n (xs (i + (1 : Int32)).toNatClampNeg) tC q12 hq13) lk_end k_0 k_1104 k_1105 (n := 2) (by decide +kernel) ⟨⟨rfl, rfl⟩, (Nat.le_of_ble_eq_true rfl), (Nat.le_of_ble_eq_true rfl)⟩ rfl hl.1 rfl (Nat.le_of_ble_eq_true rfl) d_LA_law_115 ⟨by show _ + 1 ≤ 601024; omega, by show _ + 6 ≤ 7293034; omega⟩ (fun H locs w => ?_)
          refine lv_istore (lv' := [(5, .int q12.1), (0, .ref b), (1, .ref (adC 0)), (2, .ref (adM 0)), (3, .ref o), (4, .int i)]) hx hb d_LA_law_118 hl (by decide) rfl (fun ls hl => ?_)
          refine lv_aload_n hx hb d_LA_law_120 rfl (lv_at hl 3 rfl) ?_
          refine lv_aload_n hx hb d_LA_law_121 rfl (lv_at hl 1 rfl) ?_
          refine lv_iload hx hb d_LA_law_122 (lv_at hl 5 rfl) ?_
          refine lv_iconst (v := (1 : Int32)) hx hb d_LA_law_124 (by decide) ?_
          refine lv_iadd hx hb d_LA_law_125 ?_
          obtain ⟨hi14, hf⟩ := mz_gd hf
          refine va_sld hx hb hX hbl hbA w.2.2.2 hi14 d_LA_law_126 ?_
          obtain ⟨q15, hq16, hf⟩ := mz_bd hf
          refine lw_callM (As := [.int (xs (i + (1 : Int32)).toNatClampNeg)]) (rest := []) E w (c_MO_end (fun _ _ _ _ _ _ => trivial) l n (xs (i + (1 : Int32)).toNatClampNeg) tM q15 hq16) rfl rfl k_1443 k_15 k_1440 k_1441 k_1442 hm_MO_end ⟨⟨rfl, rfl⟩, (Nat.le_of_ble_eq_true rfl), (Nat.le_of_ble_eq_true rfl)⟩ rfl hl.1 rfl (Nat.le_of_ble_eq_true rfl) d_LA_law_127 ⟨by show _ ≤ 601024; omega, by show _ ≤ 7293034; omega⟩ (st1 := []) rfl (fun H locs w => ?_)
          refine lv_aload_n hx hb d_LA_law_130 rfl (lv_at hl 3 rfl) ?_
          obtain ⟨q17, hq18, hf⟩ := mz_bd hf
          refine lw_callM (As := []) (rest := []) E w (c_MO_thrown (fun _ _ _ _ _ _ => trivial) l n q15 q17 hq18) rfl rfl k_1428 k_15 k_1425 k_1426 k_1427 hm_MO_thrown ⟨⟨rfl, rfl⟩, (Nat.le_of_ble_eq_true rfl), (Nat.le_of_ble_eq_true rfl)⟩ rfl hl.1 rfl (Nat.le_of_ble_eq_true rfl) d_LA_law_131 ⟨by show _ ≤ 601024; omega, by show _ ≤ 7293034; omega⟩ (st1 := [.int q17.1]) rfl (fun H locs w => ?_)
          refine lv_iload hx hb d_LA_law_134 (lv_at hl 0 rfl) ?_
          refine lv_icmp_eq (tgt := 141) hx hb d_LA_law_136 (by decide) (fun hc19 => ?_) (fun hc19 => ?_)
          · have hf := mz_t hc19 hf
            refine lv_goto (tgt := 305) hx hb d_LA_law_141 (by decide) ?_
            refine lv_iinc (v := (i + (3 : Int32))) (lv' := [(4, .int (i + (3 : Int32))), (5, .int q12.1), (0, .ref b), (1, .ref (adC 0)), (2, .ref (adM 0)), (3, .ref o)]) hx hb d_LA_law_305 hl (k := 5) rfl rfl (by decide) rfl (fun ls hl => ?_)
            refine lv_goto (tgt := 23) hx hb d_LA_law_308 (by decide) ?_
            exact ih (i + (3 : Int32)) q12.2.2 q17.2 (lh_g g q12.2.1) hf _ _ (by omega) (by omega) _ _ _ w (lv_sub hl [2, 3, 4, 5, 0] rfl)
          · have hf := mz_f hc19 hf
            refine lv_iconst (v := (0 : Int32)) hx hb d_LA_law_139 (by decide) ?_
            exact nomatch hf
        · have hf := mz_f hc10 hf
          by_cases hc20 : ((xs i.toNatClampNeg) &&& (7 : Int32)) = (2 : Int32)
          · have hf := mz_t hc20 hf
            refine lv_tableIn (off := 105) (tgt := 144) hx hb d_LA_law_39 (by rw [hc20]; decide) (by rw [hc20]; decide) (by rw [hc20]; rfl) (by decide) ?_
            refine lv_aload_n hx hb d_LA_law_144 rfl (lv_at hl 1 rfl) ?_
            obtain ⟨q21, hq22, hf⟩ := mz_bd hf
            refine lw_callC (As := []) (rest := []) E w (c_MH_expand mz_SC_k l n tC q21 hq22) rfl rfl k_434 k_1 k_431 k_432 k_433 hm_MH_expand ⟨⟨rfl, rfl⟩, (Nat.le_of_ble_eq_true rfl), (Nat.le_of_ble_eq_true rfl)⟩ rfl hl.1 rfl (Nat.le_of_ble_eq_true rfl) d_LA_law_145 ⟨by show _ ≤ 601024; omega, by show _ ≤ 7293034; omega⟩ (st1 := [.int q21.1]) rfl (fun H locs w => ?_)
            refine lv_pop hx hb d_LA_law_148 rfl ?_
            refine lv_aload_n hx hb d_LA_law_149 rfl (lv_at hl 2 rfl) ?_
            obtain ⟨q23, hq24, hf⟩ := mz_bd hf
            refine lw_callM (As := []) (rest := []) E w (c_MO_expand (fun _ _ _ _ _ _ => trivial) l n tM q23 hq24) rfl rfl k_1447 k_15 k_1444 k_1445 k_1446 hm_MO_expand ⟨⟨rfl, rfl⟩, (Nat.le_of_ble_eq_true rfl), (Nat.le_of_ble_eq_true rfl)⟩ rfl hl.1 rfl (Nat.le_of_ble_eq_true rfl) d_LA_law_150 ⟨by show _ ≤ 601024; omega, by show _ ≤ 7293034; omega⟩ (st1 := [.int q23.1]) rfl (fun H locs w => ?_)
            refine lv_pop hx hb d_LA_law_153 rfl ?_
            refine lv_goto (tgt := 305) hx hb d_LA_law_154 (by decide) ?_
            refine lv_iinc (v := (i + (3 : Int32))) (lv' := [(4, .int (i + (3 : Int32))), (0, .ref b), (1, .ref (adC 0)), (2, .ref (adM 0)), (3, .ref o)]) hx hb d_LA_law_305 hl (k := 4) rfl rfl (by decide) rfl (fun ls hl => ?_)
            refine lv_goto (tgt := 23) hx hb d_LA_law_308 (by decide) ?_
            exact ih (i + (3 : Int32)) q21.2 q23.2 g hf _ _ (by omega) (by omega) _ _ _ w (lv_sub hl [1, 2, 3, 4, 0] rfl)
          · have hf := mz_f hc20 hf
            by_cases hc25 : ((xs i.toNatClampNeg) &&& (7 : Int32)) = (3 : Int32)
            · have hf := mz_t hc25 hf
              refine lv_tableIn (off := 118) (tgt := 157) hx hb d_LA_law_39 (by rw [hc25]; decide) (by rw [hc25]; decide) (by rw [hc25]; rfl) (by decide) ?_
              refine lv_aload_n hx hb d_LA_law_157 rfl (lv_at hl 1 rfl) ?_
              refine lv_aload_n hx hb d_LA_law_158 rfl (lv_at hl 0 rfl) ?_
              refine lv_iload hx hb d_LA_law_159 (lv_at hl 4 rfl) ?_
              refine lv_iconst (v := (1 : Int32)) hx hb d_LA_law_161 (by decide) ?_
              refine lv_iadd hx hb d_LA_law_162 ?_
              obtain ⟨hi26, hf⟩ := mz_gd hf
              refine va_sld hx hb hX hbl hbA w.2.2.2 hi26 d_LA_law_163 ?_
              refine lv_aload_n hx hb d_LA_law_164 rfl (lv_at hl 3 rfl) ?_
              obtain ⟨q27, hq28, hf⟩ := mz_bd hf
              refine lw_help (As := [.ref (adC 0), .int (xs (i + (1 : Int32)).toNatClampNeg), .ref o]) (rest := []) E w (ch_about l hT n (xs (i + (1 : Int32)).toNatClampNeg) tC q27 hq28) lk_about k_0 k_1112 k_1113 (n := 3) (by decide +kernel) ⟨⟨rfl, rfl⟩, (Nat.le_of_ble_eq_true rfl), (Nat.le_of_ble_eq_true rfl)⟩ rfl hl.1 rfl (Nat.le_of_ble_eq_true rfl) d_LA_law_165 ⟨by show _ + 1 ≤ 601024; omega, by show _ + 6 ≤ 7293034; omega⟩ (fun H locs w => ?_)
              refine lv_istore (lv' := [(5, .int q27.1), (0, .ref b), (1, .ref (adC 0)), (2, .ref (adM 0)), (3, .ref o), (4, .int i)]) hx hb d_LA_law_168 hl (by decide) rfl (fun ls hl => ?_)
              refine lv_aload_n hx hb d_LA_law_170 rfl (lv_at hl 3 rfl) ?_
              refine lv_aload_n hx hb d_LA_law_171 rfl (lv_at hl 1 rfl) ?_
              refine lv_iload hx hb d_LA_law_172 (lv_at hl 5 rfl) ?_
              refine lv_iconst (v := (1 : Int32)) hx hb d_LA_law_174 (by decide) ?_
              refine lv_iadd hx hb d_LA_law_175 ?_
              obtain ⟨hi29, hf⟩ := mz_gd hf
              refine va_sld hx hb hX hbl hbA w.2.2.2 hi29 d_LA_law_176 ?_
              obtain ⟨q30, hq31, hf⟩ := mz_bd hf
              refine lw_callM (As := [.int (xs (i + (1 : Int32)).toNatClampNeg)]) (rest := []) E w (c_MO_about (fun _ _ _ _ _ _ => trivial) l n (xs (i + (1 : Int32)).toNatClampNeg) tM q30 hq31) rfl rfl k_1680 k_15 k_1677 k_1678 k_1679 hm_MO_about ⟨⟨rfl, rfl⟩, (Nat.le_of_ble_eq_true rfl), (Nat.le_of_ble_eq_true rfl)⟩ rfl hl.1 rfl (Nat.le_of_ble_eq_true rfl) d_LA_law_177 ⟨by show _ ≤ 601024; omega, by show _ ≤ 7293034; omega⟩ (st1 := [.int q30.1]) rfl (fun H locs w => ?_)
              refine lv_istore (lv' := [(6, .int q30.1), (5, .int q27.1), (0, .ref b), (1, .ref (adC 0)), (2, .ref (adM 0)), (3, .ref o), (4, .int i)]) hx hb d_LA_law_180 hl (by decide) rfl (fun ls hl => ?_)
              refine lv_goto (tgt := 305) hx hb d_LA_law_182 (by decide) ?_
              refine lv_iinc (v := (i + (3 : Int32))) (lv' := [(4, .int (i + (3 : Int32))), (6, .int q30.1), (5, .int q27.1), (0, .ref b), (1, .ref (adC 0)), (2, .ref (adM 0)), (3, .ref o)]) hx hb d_LA_law_305 hl (k := 6) rfl rfl (by decide) rfl (fun ls hl => ?_)
              refine lv_goto (tgt := 23) hx hb d_LA_law_308 (by decide) ?_
              exact ih (i + (3 : Int32)) q27.2.2 q30.2 (lh_g g q27.2.1) hf _ _ (by omega) (by omega) _ _ _ w (lv_sub hl [3, 4, 5, 6, 0] rfl)
            · have hf := mz_f hc25 hf
              by_cases hc32 : ((xs i.toNatClampNeg) &&& (7 : Int32)) = (4 : Int32)
              · have hf := mz_t hc32 hf
                refine lv_tableIn (off := 146) (tgt := 185) hx hb d_LA_law_39 (by rw [hc32]; decide) (by rw [hc32]; decide) (by rw [hc32]; rfl) (by decide) ?_
                refine lv_aload_n hx hb d_LA_law_185 rfl (lv_at hl 1 rfl) ?_
                refine lv_aload_n hx hb d_LA_law_186 rfl (lv_at hl 0 rfl) ?_
                refine lv_iload hx hb d_LA_law_187 (lv_at hl 4 rfl) ?_
                refine lv_iconst (v := (1 : Int32)) hx hb d_LA_law_189 (by decide) ?_
                refine lv_iadd hx hb d_LA_law_190 ?_
                obtain ⟨hi33, hf⟩ := mz_gd hf
                refine va_sld hx hb hX hbl hbA w.2.2.2 hi33 d_LA_law_191 ?_
                refine lv_aload_n hx hb d_LA_law_192 rfl (lv_at hl 0 rfl) ?_
                refine lv_iload hx hb d_LA_law_193 (lv_at hl 4 rfl) ?_
                refine lv_iconst (v := (2 : Int32)) hx hb d_LA_law_195 (by decide) ?_
                refine lv_iadd hx hb d_LA_law_196 ?_
                obtain ⟨hi34, hf⟩ := mz_gd hf
                refine va_sld hx hb hX hbl hbA w.2.2.2 hi34 d_LA_law_197 ?_
                refine lv_aload_n hx hb d_LA_law_198 rfl (lv_at hl 3 rfl) ?_
                obtain ⟨q35, hq36, hf⟩ := mz_bd hf
                refine lw_help (As := [.ref (adC 0), .int (xs (i + (1 : Int32)).toNatClampNeg), .int (xs (i + (2 : Int32)).toNatClampNeg), .ref o]) (rest := []) E w (ch_line l hT n (xs (i + (1 : Int32)).toNatClampNeg) (xs (i + (2 : Int32)).toNatClampNeg) tC q35 hq36) lk_line k_0 k_1120 k_1121 (n := 4) (by decide +kernel) ⟨⟨rfl, rfl⟩, (Nat.le_of_ble_eq_true rfl), (Nat.le_of_ble_eq_true rfl)⟩ rfl hl.1 rfl (Nat.le_of_ble_eq_true rfl) d_LA_law_199 ⟨by show _ + 1 ≤ 601024; omega, by show _ + 6 ≤ 7293034; omega⟩ (fun H locs w => ?_)
                refine lv_istore (lv' := [(5, .int q35.1), (0, .ref b), (1, .ref (adC 0)), (2, .ref (adM 0)), (3, .ref o), (4, .int i)]) hx hb d_LA_law_202 hl (by decide) rfl (fun ls hl => ?_)
                refine lv_aload_n hx hb d_LA_law_204 rfl (lv_at hl 3 rfl) ?_
                refine lv_aload_n hx hb d_LA_law_205 rfl (lv_at hl 1 rfl) ?_
                refine lv_iload hx hb d_LA_law_206 (lv_at hl 5 rfl) ?_
                refine lv_iconst (v := (1 : Int32)) hx hb d_LA_law_208 (by decide) ?_
                refine lv_iadd hx hb d_LA_law_209 ?_
                obtain ⟨hi37, hf⟩ := mz_gd hf
                refine va_sld hx hb hX hbl hbA w.2.2.2 hi37 d_LA_law_210 ?_
                refine lv_aload_n hx hb d_LA_law_211 rfl (lv_at hl 1 rfl) ?_
                refine lv_iload hx hb d_LA_law_212 (lv_at hl 5 rfl) ?_
                refine lv_iconst (v := (2 : Int32)) hx hb d_LA_law_214 (by decide) ?_
                refine lv_iadd hx hb d_LA_law_215 ?_
                obtain ⟨hi38, hf⟩ := mz_gd hf
                refine va_sld hx hb hX hbl hbA w.2.2.2 hi38 d_LA_law_216 ?_
                obtain ⟨q39, hq40, hf⟩ := mz_bd hf
                refine lw_callM (As := [.int (xs (i + (1 : Int32)).toNatClampNeg), .int (xs (i + (2 : Int32)).toNatClampNeg)]) (rest := []) E w (c_MO_line (fun _ _ _ _ _ _ => trivial) l n (xs (i + (1 : Int32)).toNatClampNeg) (xs (i + (2 : Int32)).toNatClampNeg) tM q39 hq40) rfl rfl k_1684 k_15 k_1681 k_1682 k_1683 hm_MO_line ⟨⟨rfl, rfl⟩, (Nat.le_of_ble_eq_true rfl), (Nat.le_of_ble_eq_true rfl)⟩ rfl hl.1 rfl (Nat.le_of_ble_eq_true rfl) d_LA_law_217 ⟨by show _ ≤ 601024; omega, by show _ ≤ 7293034; omega⟩ (st1 := [.int q39.1]) rfl (fun H locs w => ?_)
                refine lv_istore (lv' := [(6, .int q39.1), (5, .int q35.1), (0, .ref b), (1, .ref (adC 0)), (2, .ref (adM 0)), (3, .ref o), (4, .int i)]) hx hb d_LA_law_220 hl (by decide) rfl (fun ls hl => ?_)
                refine lv_goto (tgt := 305) hx hb d_LA_law_222 (by decide) ?_
                refine lv_iinc (v := (i + (3 : Int32))) (lv' := [(4, .int (i + (3 : Int32))), (6, .int q39.1), (5, .int q35.1), (0, .ref b), (1, .ref (adC 0)), (2, .ref (adM 0)), (3, .ref o)]) hx hb d_LA_law_305 hl (k := 6) rfl rfl (by decide) rfl (fun ls hl => ?_)
                refine lv_goto (tgt := 23) hx hb d_LA_law_308 (by decide) ?_
                exact ih (i + (3 : Int32)) q35.2.2 q39.2 (lh_g g q35.2.1) hf _ _ (by omega) (by omega) _ _ _ w (lv_sub hl [3, 4, 5, 6, 0] rfl)
              · have hf := mz_f hc32 hf
                by_cases hc41 : ((xs i.toNatClampNeg) &&& (7 : Int32)) = (5 : Int32)
                · have hf := mz_t hc41 hf
                  refine lv_tableIn (off := 186) (tgt := 225) hx hb d_LA_law_39 (by rw [hc41]; decide) (by rw [hc41]; decide) (by rw [hc41]; rfl) (by decide) ?_
                  refine lv_aload_n hx hb d_LA_law_225 rfl (lv_at hl 1 rfl) ?_
                  refine lv_aload_n hx hb d_LA_law_226 rfl (lv_at hl 0 rfl) ?_
                  refine lv_iload hx hb d_LA_law_227 (lv_at hl 4 rfl) ?_
                  refine lv_iconst (v := (1 : Int32)) hx hb d_LA_law_229 (by decide) ?_
                  refine lv_iadd hx hb d_LA_law_230 ?_
                  obtain ⟨hi42, hf⟩ := mz_gd hf
                  refine va_sld hx hb hX hbl hbA w.2.2.2 hi42 d_LA_law_231 ?_
                  refine lv_aload_n hx hb d_LA_law_232 rfl (lv_at hl 0 rfl) ?_
                  refine lv_iload hx hb d_LA_law_233 (lv_at hl 4 rfl) ?_
                  refine lv_iconst (v := (2 : Int32)) hx hb d_LA_law_235 (by decide) ?_
                  refine lv_iadd hx hb d_LA_law_236 ?_
                  obtain ⟨hi43, hf⟩ := mz_gd hf
                  refine va_sld hx hb hX hbl hbA w.2.2.2 hi43 d_LA_law_237 ?_
                  refine lv_aload_n hx hb d_LA_law_238 rfl (lv_at hl 3 rfl) ?_
                  obtain ⟨q44, hq45, hf⟩ := mz_bd hf
                  refine lw_help (As := [.ref (adC 0), .int (xs (i + (1 : Int32)).toNatClampNeg), .int (xs (i + (2 : Int32)).toNatClampNeg), .ref o]) (rest := []) E w (ch_constant l hT n (xs (i + (1 : Int32)).toNatClampNeg) (xs (i + (2 : Int32)).toNatClampNeg) tC q44 hq45) lk_constant k_0 k_1153 k_1154 (n := 4) (by decide +kernel) ⟨⟨rfl, rfl⟩, (Nat.le_of_ble_eq_true rfl), (Nat.le_of_ble_eq_true rfl)⟩ rfl hl.1 rfl (Nat.le_of_ble_eq_true rfl) d_LA_law_239 ⟨by show _ + 1 ≤ 601024; omega, by show _ + 6 ≤ 7293034; omega⟩ (fun H locs w => ?_)
                  refine lv_istore (lv' := [(5, .int q44.1), (0, .ref b), (1, .ref (adC 0)), (2, .ref (adM 0)), (3, .ref o), (4, .int i)]) hx hb d_LA_law_242 hl (by decide) rfl (fun ls hl => ?_)
                  refine lv_aload_n hx hb d_LA_law_244 rfl (lv_at hl 3 rfl) ?_
                  refine lv_aload_n hx hb d_LA_law_245 rfl (lv_at hl 1 rfl) ?_
                  refine lv_iload hx hb d_LA_law_246 (lv_at hl 5 rfl) ?_
                  refine lv_iconst (v := (1 : Int32)) hx hb d_LA_law_248 (by decide) ?_
                  refine lv_iadd hx hb d_LA_law_249 ?_
                  obtain ⟨hi46, hf⟩ := mz_gd hf
                  refine va_sld hx hb hX hbl hbA w.2.2.2 hi46 d_LA_law_250 ?_
                  refine lv_aload_n hx hb d_LA_law_251 rfl (lv_at hl 1 rfl) ?_
                  refine lv_iload hx hb d_LA_law_252 (lv_at hl 5 rfl) ?_
                  refine lv_iconst (v := (2 : Int32)) hx hb d_LA_law_254 (by decide) ?_
                  refine lv_iadd hx hb d_LA_law_255 ?_
                  obtain ⟨hi47, hf⟩ := mz_gd hf
                  refine va_sld hx hb hX hbl hbA w.2.2.2 hi47 d_LA_law_256 ?_
                  obtain ⟨q48, hq49, hf⟩ := mz_bd hf
                  refine lw_callM (As := [.int (xs (i + (1 : Int32)).toNatClampNeg), .int (xs (i + (2 : Int32)).toNatClampNeg)]) (rest := []) E w (c_MO_constant (fun _ _ _ _ _ _ => trivial) l n (xs (i + (1 : Int32)).toNatClampNeg) (xs (i + (2 : Int32)).toNatClampNeg) tM q48 hq49) rfl rfl k_1688 k_15 k_1685 k_1686 k_1687 hm_MO_constant ⟨⟨rfl, rfl⟩, (Nat.le_of_ble_eq_true rfl), (Nat.le_of_ble_eq_true rfl)⟩ rfl hl.1 rfl (Nat.le_of_ble_eq_true rfl) d_LA_law_257 ⟨by show _ ≤ 601024; omega, by show _ ≤ 7293034; omega⟩ (st1 := [.int q48.1]) rfl (fun H locs w => ?_)
                  refine lv_istore (lv' := [(6, .int q48.1), (5, .int q44.1), (0, .ref b), (1, .ref (adC 0)), (2, .ref (adM 0)), (3, .ref o), (4, .int i)]) hx hb d_LA_law_260 hl (by decide) rfl (fun ls hl => ?_)
                  refine lv_goto (tgt := 305) hx hb d_LA_law_262 (by decide) ?_
                  refine lv_iinc (v := (i + (3 : Int32))) (lv' := [(4, .int (i + (3 : Int32))), (6, .int q48.1), (5, .int q44.1), (0, .ref b), (1, .ref (adC 0)), (2, .ref (adM 0)), (3, .ref o)]) hx hb d_LA_law_305 hl (k := 6) rfl rfl (by decide) rfl (fun ls hl => ?_)
                  refine lv_goto (tgt := 23) hx hb d_LA_law_308 (by decide) ?_
                  exact ih (i + (3 : Int32)) q44.2.2 q48.2 (lh_g g q44.2.1) hf _ _ (by omega) (by omega) _ _ _ w (lv_sub hl [3, 4, 5, 6, 0] rfl)
                · have hf := mz_f hc41 hf
                  by_cases hc50 : ((xs i.toNatClampNeg) &&& (7 : Int32)) = (6 : Int32)
                  · have hf := mz_t hc50 hf
                    refine lv_tableIn (off := 226) (tgt := 265) hx hb d_LA_law_39 (by rw [hc50]; decide) (by rw [hc50]; decide) (by rw [hc50]; rfl) (by decide) ?_
                    refine lv_aload_n hx hb d_LA_law_265 rfl (lv_at hl 1 rfl) ?_
                    refine lv_aload_n hx hb d_LA_law_266 rfl (lv_at hl 0 rfl) ?_
                    refine lv_iload hx hb d_LA_law_267 (lv_at hl 4 rfl) ?_
                    refine lv_iconst (v := (1 : Int32)) hx hb d_LA_law_269 (by decide) ?_
                    refine lv_iadd hx hb d_LA_law_270 ?_
                    obtain ⟨hi51, hf⟩ := mz_gd hf
                    refine va_sld hx hb hX hbl hbA w.2.2.2 hi51 d_LA_law_271 ?_
                    refine lv_aload_n hx hb d_LA_law_272 rfl (lv_at hl 0 rfl) ?_
                    refine lv_iload hx hb d_LA_law_273 (lv_at hl 4 rfl) ?_
                    refine lv_iconst (v := (2 : Int32)) hx hb d_LA_law_275 (by decide) ?_
                    refine lv_iadd hx hb d_LA_law_276 ?_
                    obtain ⟨hi52, hf⟩ := mz_gd hf
                    refine va_sld hx hb hX hbl hbA w.2.2.2 hi52 d_LA_law_277 ?_
                    refine lv_aload_n hx hb d_LA_law_278 rfl (lv_at hl 3 rfl) ?_
                    obtain ⟨q53, hq54, hf⟩ := mz_bd hf
                    refine lw_help (As := [.ref (adC 0), .int (xs (i + (1 : Int32)).toNatClampNeg), .int (xs (i + (2 : Int32)).toNatClampNeg), .ref o]) (rest := []) E w (ch_macro l hT n (xs (i + (1 : Int32)).toNatClampNeg) (xs (i + (2 : Int32)).toNatClampNeg) tC q53 hq54) lk_macro k_0 k_1163 k_1164 (n := 4) (by decide +kernel) ⟨⟨rfl, rfl⟩, (Nat.le_of_ble_eq_true rfl), (Nat.le_of_ble_eq_true rfl)⟩ rfl hl.1 rfl (Nat.le_of_ble_eq_true rfl) d_LA_law_279 ⟨by show _ + 1 ≤ 601024; omega, by show _ + 6 ≤ 7293034; omega⟩ (fun H locs w => ?_)
                    refine lv_istore (lv' := [(5, .int q53.1), (0, .ref b), (1, .ref (adC 0)), (2, .ref (adM 0)), (3, .ref o), (4, .int i)]) hx hb d_LA_law_282 hl (by decide) rfl (fun ls hl => ?_)
                    refine lv_aload_n hx hb d_LA_law_284 rfl (lv_at hl 3 rfl) ?_
                    refine lv_aload_n hx hb d_LA_law_285 rfl (lv_at hl 1 rfl) ?_
                    refine lv_iload hx hb d_LA_law_286 (lv_at hl 5 rfl) ?_
                    refine lv_iconst (v := (1 : Int32)) hx hb d_LA_law_288 (by decide) ?_
                    refine lv_iadd hx hb d_LA_law_289 ?_
                    obtain ⟨hi55, hf⟩ := mz_gd hf
                    refine va_sld hx hb hX hbl hbA w.2.2.2 hi55 d_LA_law_290 ?_
                    refine lv_aload_n hx hb d_LA_law_291 rfl (lv_at hl 1 rfl) ?_
                    refine lv_iload hx hb d_LA_law_292 (lv_at hl 5 rfl) ?_
                    refine lv_iconst (v := (2 : Int32)) hx hb d_LA_law_294 (by decide) ?_
                    refine lv_iadd hx hb d_LA_law_295 ?_
                    obtain ⟨hi56, hf⟩ := mz_gd hf
                    refine va_sld hx hb hX hbl hbA w.2.2.2 hi56 d_LA_law_296 ?_
                    obtain ⟨q57, hq58, hf⟩ := mz_bd hf
                    refine lw_callM (As := [.int (xs (i + (1 : Int32)).toNatClampNeg), .int (xs (i + (2 : Int32)).toNatClampNeg)]) (rest := []) E w (c_MO_macro (fun _ _ _ _ _ _ => trivial) l n (xs (i + (1 : Int32)).toNatClampNeg) (xs (i + (2 : Int32)).toNatClampNeg) tM q57 hq58) rfl rfl k_1696 k_15 k_1693 k_1694 k_1695 hm_MO_macro ⟨⟨rfl, rfl⟩, (Nat.le_of_ble_eq_true rfl), (Nat.le_of_ble_eq_true rfl)⟩ rfl hl.1 rfl (Nat.le_of_ble_eq_true rfl) d_LA_law_297 ⟨by show _ ≤ 601024; omega, by show _ ≤ 7293034; omega⟩ (st1 := [.int q57.1]) rfl (fun H locs w => ?_)
                    refine lv_istore (lv' := [(6, .int q57.1), (5, .int q53.1), (0, .ref b), (1, .ref (adC 0)), (2, .ref (adM 0)), (3, .ref o), (4, .int i)]) hx hb d_LA_law_300 hl (by decide) rfl (fun ls hl => ?_)
                    refine lv_goto (tgt := 305) hx hb d_LA_law_302 (by decide) ?_
                    refine lv_iinc (v := (i + (3 : Int32))) (lv' := [(4, .int (i + (3 : Int32))), (6, .int q57.1), (5, .int q53.1), (0, .ref b), (1, .ref (adC 0)), (2, .ref (adM 0)), (3, .ref o)]) hx hb d_LA_law_305 hl (k := 6) rfl rfl (by decide) rfl (fun ls hl => ?_)
                    refine lv_goto (tgt := 23) hx hb d_LA_law_308 (by decide) ?_
                    exact ih (i + (3 : Int32)) q53.2.2 q57.2 (lh_g g q53.2.1) hf _ _ (by omega) (by omega) _ _ _ w (lv_sub hl [3, 4, 5, 6, 0] rfl)
                  · have hf := mz_f hc50 hf
                    refine lv_tableOut (tgt := 305) hx hb d_LA_law_39 (by have := lv_neT (a := 0) hc3 rfl; have := lv_neT (a := 1) hc10 rfl; have := lv_neT (a := 2) hc20 rfl; have := lv_neT (a := 3) hc25 rfl; have := lv_neT (a := 4) hc32 rfl; have := lv_neT (a := 5) hc41 rfl; have := lv_neT (a := 6) hc50 rfl; omega) (by decide) ?_
                    refine lv_iinc (v := (i + (3 : Int32))) (lv' := [(4, .int (i + (3 : Int32))), (0, .ref b), (1, .ref (adC 0)), (2, .ref (adM 0)), (3, .ref o)]) hx hb d_LA_law_305 hl (k := 4) rfl rfl (by decide) rfl (fun ls hl => ?_)
                    refine lv_goto (tgt := 23) hx hb d_LA_law_308 (by decide) ?_
                    exact ih (i + (3 : Int32)) tC tM g hf _ _ (by omega) (by omega) _ _ _ w (lv_sub hl [1, 2, 3, 4, 0] rfl)
