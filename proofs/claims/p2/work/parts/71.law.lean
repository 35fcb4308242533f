/-! The law's loop -/
def lh_g (g : Nat → Int64) (v : Option Int64) : Nat → Int64 := match v with
  | some r => vp_updL g 0 r
  | none => g
def h_put (n : Nat) (x1 : Int32) (t : mz_St) : Option (Int32 × Option Int64 × mz_St) := match f_MH_put n x1 t with
  | some r => some (0, some r.1.toInt64, r.2)
  | none => (f_MH_put_T n x1 t).bind fun j => if j = 0 then some (1, none, t) else if j = 1 then some (2, none, t) else none
theorem ch_put {dC : Nat → ClassId} {dI : Nat → Nat → Nat} {ad en adK adV : Nat → Nat} {tA tS : Nat} {oF : Option Nat} {ca : Nat → ClassId} {o : Nat} {g : Nat → Int64} (l : Launch) (hT : ∀ e, l.admits e → e.platform.stackTraces = false) (n : Nat) (x1 : Int32) (t : mz_St) (q : Int32 × Option Int64 × mz_St) (hf : h_put n x1 t = some q) : lh_C (lh_S ad en adK adV tA tS oF) (lh_X ad o en adK adV tA tS oF) dC dI ad en ca l y_LA_put method_3_code 4 hh_put r_LA_put [.ref (ad 0), .int x1, .ref o] o g t q.1 (lh_g g q.2.1) q.2.2 := by
  unfold h_put at hf
  cases h : f_MH_put n x1 t with
  | some r =>
    rw [h] at hf
    obtain rfl := Option.some.inj hf
    exact h_put_N mz_SC_k l hT n x1 t r h
  | none =>
    rw [h] at hf
    obtain ⟨j, hj, hf⟩ := mz_bd hf
    by_cases h0 : j = 0
    · rw [if_pos h0] at hf
      subst h0
      obtain rfl := Option.some.inj hf
      exact h_put_T0 mz_SC_k l hT n x1 t () hj
    · rw [if_neg h0] at hf
      by_cases h1 : j = 1
      · rw [if_pos h1] at hf
        subst h1
        obtain rfl := Option.some.inj hf
        exact h_put_T1 mz_SC_k l hT n x1 t () hj
      · rw [if_neg h1] at hf
        exact nomatch hf
def h_end (n : Nat) (x1 : Int32) (t : mz_St) : Option (Int32 × Option Int64 × mz_St) := match f_MH_end n x1 t with
  | some r => some (0, none, r)
  | none => (f_MH_end_T n x1 t).bind fun j => if j = 0 then some (1, none, t) else none
theorem ch_end {dC : Nat → ClassId} {dI : Nat → Nat → Nat} {ad en adK adV : Nat → Nat} {tA tS : Nat} {oF : Option Nat} {ca : Nat → ClassId} {o : Nat} {g : Nat → Int64} (l : Launch) (hT : ∀ e, l.admits e → e.platform.stackTraces = false) (n : Nat) (x1 : Int32) (t : mz_St) (q : Int32 × Option Int64 × mz_St) (hf : h_end n x1 t = some q) : lh_C (lh_S ad en adK adV tA tS oF) (lh_X ad o en adK adV tA tS oF) dC dI ad en ca l y_LA_end method_4_code 3 hh_end r_LA_end [.ref (ad 0), .int x1] o g t q.1 (lh_g g q.2.1) q.2.2 := by
  unfold h_end at hf
  cases h : f_MH_end n x1 t with
  | some r =>
    rw [h] at hf
    obtain rfl := Option.some.inj hf
    exact h_end_N mz_SC_k l hT n x1 t r h
  | none =>
    rw [h] at hf
    obtain ⟨j, hj, hf⟩ := mz_bd hf
    by_cases h0 : j = 0
    · rw [if_pos h0] at hf
      subst h0
      obtain rfl := Option.some.inj hf
      exact h_end_T0 mz_SC_k l hT n x1 t () hj
    · rw [if_neg h0] at hf
      exact nomatch hf
def h_about (n : Nat) (x1 : Int32) (t : mz_St) : Option (Int32 × Option Int64 × mz_St) := match f_MH_about n x1 t with
  | some r => some (0, some r.1.toInt64, r.2)
  | none => (f_MH_about_T n x1 t).bind fun j => if j = 0 then some (1, none, t) else none
theorem ch_about {dC : Nat → ClassId} {dI : Nat → Nat → Nat} {ad en adK adV : Nat → Nat} {tA tS : Nat} {oF : Option Nat} {ca : Nat → ClassId} {o : Nat} {g : Nat → Int64} (l : Launch) (hT : ∀ e, l.admits e → e.platform.stackTraces = false) (n : Nat) (x1 : Int32) (t : mz_St) (q : Int32 × Option Int64 × mz_St) (hf : h_about n x1 t = some q) : lh_C (lh_S ad en adK adV tA tS oF) (lh_X ad o en adK adV tA tS oF) dC dI ad en ca l y_LA_about method_5_code 4 hh_about r_LA_about [.ref (ad 0), .int x1, .ref o] o g t q.1 (lh_g g q.2.1) q.2.2 := by
  unfold h_about at hf
  cases h : f_MH_about n x1 t with
  | some r =>
    rw [h] at hf
    obtain rfl := Option.some.inj hf
    exact h_about_N mz_SC_k l hT n x1 t r h
  | none =>
    rw [h] at hf
    obtain ⟨j, hj, hf⟩ := mz_bd hf
    by_cases h0 : j = 0
    · rw [if_pos h0] at hf
      subst h0
      obtain rfl := Option.some.inj hf
      exact h_about_T0 mz_SC_k l hT n x1 t () hj
    · rw [if_neg h0] at hf
      exact nomatch hf
def h_line (n : Nat) (x1 : Int32) (x2 : Int32) (t : mz_St) : Option (Int32 × Option Int64 × mz_St) := match f_MH_line n x1 x2 t with
  | some r => some (0, some r.1.toInt64, r.2)
  | none => (f_MH_line_T n x1 x2 t).bind fun j => if j = 2 then some (1, none, t) else if j = 0 then some (2, none, t) else none
theorem ch_line {dC : Nat → ClassId} {dI : Nat → Nat → Nat} {ad en adK adV : Nat → Nat} {tA tS : Nat} {oF : Option Nat} {ca : Nat → ClassId} {o : Nat} {g : Nat → Int64} (l : Launch) (hT : ∀ e, l.admits e → e.platform.stackTraces = false) (n : Nat) (x1 : Int32) (x2 : Int32) (t : mz_St) (q : Int32 × Option Int64 × mz_St) (hf : h_line n x1 x2 t = some q) : lh_C (lh_S ad en adK adV tA tS oF) (lh_X ad o en adK adV tA tS oF) dC dI ad en ca l y_LA_line method_6_code 5 hh_line r_LA_line [.ref (ad 0), .int x1, .int x2, .ref o] o g t q.1 (lh_g g q.2.1) q.2.2 := by
  unfold h_line at hf
  cases h : f_MH_line n x1 x2 t with
  | some r =>
    rw [h] at hf
    obtain rfl := Option.some.inj hf
    exact h_line_N mz_SC_k l hT n x1 x2 t r h
  | none =>
    rw [h] at hf
    obtain ⟨j, hj, hf⟩ := mz_bd hf
    by_cases h0 : j = 2
    · rw [if_pos h0] at hf
      subst h0
      obtain rfl := Option.some.inj hf
      exact h_line_T2 mz_SC_k l hT n x1 x2 t () hj
    · rw [if_neg h0] at hf
      by_cases h1 : j = 0
      · rw [if_pos h1] at hf
        subst h1
        obtain rfl := Option.some.inj hf
        exact h_line_T0 mz_SC_k l hT n x1 x2 t () hj
      · rw [if_neg h1] at hf
        exact nomatch hf
def h_constant (n : Nat) (x1 : Int32) (x2 : Int32) (t : mz_St) : Option (Int32 × Option Int64 × mz_St) := match f_MH_constant n x1 x2 t with
  | some r => some (0, some r.1.toInt64, r.2)
  | none => (f_MH_constant_T n x1 x2 t).bind fun j => if j = 2 then some (1, none, t) else if j = 0 then some (2, none, t) else none
theorem ch_constant {dC : Nat → ClassId} {dI : Nat → Nat → Nat} {ad en adK adV : Nat → Nat} {tA tS : Nat} {oF : Option Nat} {ca : Nat → ClassId} {o : Nat} {g : Nat → Int64} (l : Launch) (hT : ∀ e, l.admits e → e.platform.stackTraces = false) (n : Nat) (x1 : Int32) (x2 : Int32) (t : mz_St) (q : Int32 × Option Int64 × mz_St) (hf : h_constant n x1 x2 t = some q) : lh_C (lh_S ad en adK adV tA tS oF) (lh_X ad o en adK adV tA tS oF) dC dI ad en ca l y_LA_constant method_7_code 5 hh_constant r_LA_constant [.ref (ad 0), .int x1, .int x2, .ref o] o g t q.1 (lh_g g q.2.1) q.2.2 := by
  unfold h_constant at hf
  cases h : f_MH_constant n x1 x2 t with
  | some r =>
    rw [h] at hf
    obtain rfl := Option.some.inj hf
    exact h_constant_N mz_SC_k l hT n x1 x2 t r h
  | none =>
    rw [h] at hf
    obtain ⟨j, hj, hf⟩ := mz_bd hf
    by_cases h0 : j = 2
    · rw [if_pos h0] at hf
      subst h0
      obtain rfl := Option.some.inj hf
      exact h_constant_T2 mz_SC_k l hT n x1 x2 t () hj
    · rw [if_neg h0] at hf
      by_cases h1 : j = 0
      · rw [if_pos h1] at hf
        subst h1
        obtain rfl := Option.some.inj hf
        exact h_constant_T0 mz_SC_k l hT n x1 x2 t () hj
      · rw [if_neg h1] at hf
        exact nomatch hf
def h_macro (n : Nat) (x1 : Int32) (x2 : Int32) (t : mz_St) : Option (Int32 × Option Int64 × mz_St) := match f_MH_macro n x1 x2 t with
  | some r => some (0, some r.1.toInt64, r.2)
  | none => (f_MH_macro_T n x1 x2 t).bind fun j => if j = 2 then some (1, none, t) else if j = 0 then some (2, none, t) else none
theorem ch_macro {dC : Nat → ClassId} {dI : Nat → Nat → Nat} {ad en adK adV : Nat → Nat} {tA tS : Nat} {oF : Option Nat} {ca : Nat → ClassId} {o : Nat} {g : Nat → Int64} (l : Launch) (hT : ∀ e, l.admits e → e.platform.stackTraces = false) (n : Nat) (x1 : Int32) (x2 : Int32) (t : mz_St) (q : Int32 × Option Int64 × mz_St) (hf : h_macro n x1 x2 t = some q) : lh_C (lh_S ad en adK adV tA tS oF) (lh_X ad o en adK adV tA tS oF) dC dI ad en ca l y_LA_macro method_8_code 5 hh_macro r_LA_macro [.ref (ad 0), .int x1, .int x2, .ref o] o g t q.1 (lh_g g q.2.1) q.2.2 := by
  unfold h_macro at hf
  cases h : f_MH_macro n x1 x2 t with
  | some r =>
    rw [h] at hf
    obtain rfl := Option.some.inj hf
    exact h_macro_N mz_SC_k l hT n x1 x2 t r h
  | none =>
    rw [h] at hf
    obtain ⟨j, hj, hf⟩ := mz_bd hf
    by_cases h0 : j = 2
    · rw [if_pos h0] at hf
      subst h0
      obtain rfl := Option.some.inj hf
      exact h_macro_T2 mz_SC_k l hT n x1 x2 t () hj
    · rw [if_neg h0] at hf
      by_cases h1 : j = 0
      · rw [if_pos h1] at hf
        subst h1
        obtain rfl := Option.some.inj hf
        exact h_macro_T0 mz_SC_k l hT n x1 x2 t () hj
      · rw [if_neg h1] at hf
        exact nomatch hf
theorem d_LA_law_0 : decode code 0 = .ok (.new 8, 3) := by decide +kernel
theorem d_LA_law_3 : decode code 3 = .ok (.dup, 1) := by decide +kernel
theorem d_LA_law_4 : decode code 4 = .ok (.invokespecial 36, 3) := by decide +kernel
theorem d_LA_law_7 : decode code 7 = .ok (.astore_n 1, 1) := by decide +kernel
theorem d_LA_law_8 : decode code 8 = .ok (.new 37, 3) := by decide +kernel
theorem d_LA_law_11 : decode code 11 = .ok (.dup, 1) := by decide +kernel
theorem d_LA_law_12 : decode code 12 = .ok (.invokespecial 39, 3) := by decide +kernel
theorem d_LA_law_15 : decode code 15 = .ok (.astore_n 2, 1) := by decide +kernel
theorem d_LA_law_16 : decode code 16 = .ok (.iconst 1, 1) := by decide +kernel
theorem d_LA_law_17 : decode code 17 = .ok (.newarray .long, 2) := by decide +kernel
theorem d_LA_law_19 : decode code 19 = .ok (.astore_n 3, 1) := by decide +kernel
theorem d_LA_law_20 : decode code 20 = .ok (.iconst 0, 1) := by decide +kernel
theorem d_LA_law_21 : decode code 21 = .ok (.istore 4, 2) := by decide +kernel
theorem d_LA_law_23 : decode code 23 = .ok (.iload 4, 2) := by decide +kernel
theorem d_LA_law_25 : decode code 25 = .ok (.aload_n 0, 1) := by decide +kernel
theorem d_LA_law_26 : decode code 26 = .ok (.arraylength, 1) := by decide +kernel
theorem d_LA_law_27 : decode code 27 = .ok (.iconst 3, 1) := by decide +kernel
theorem d_LA_law_28 : decode code 28 = .ok (.isub, 1) := by decide +kernel
theorem d_LA_law_29 : decode code 29 = .ok (.if_icmp .gt 299, 3) := by decide +kernel
theorem d_LA_law_32 : decode code 32 = .ok (.aload_n 0, 1) := by decide +kernel
theorem d_LA_law_33 : decode code 33 = .ok (.iload 4, 2) := by decide +kernel
theorem d_LA_law_35 : decode code 35 = .ok (.iaload, 1) := by decide +kernel
theorem d_LA_law_36 : decode code 36 = .ok (.bipush 7, 2) := by decide +kernel
theorem d_LA_law_38 : decode code 38 = .ok (.iand, 1) := by decide +kernel
theorem d_LA_law_39 : decode code 39 = .ok (.tableswitch 283 0 6 #[41, 97, 122, 135, 163, 203, 243], 41) := by decide +kernel
theorem d_LA_law_80 : decode code 80 = .ok (.aload_n 1, 1) := by decide +kernel
theorem d_LA_law_81 : decode code 81 = .ok (.aload_n 0, 1) := by decide +kernel
theorem d_LA_law_82 : decode code 82 = .ok (.iload 4, 2) := by decide +kernel
theorem d_LA_law_84 : decode code 84 = .ok (.iconst 1, 1) := by decide +kernel
theorem d_LA_law_85 : decode code 85 = .ok (.iadd, 1) := by decide +kernel
theorem d_LA_law_86 : decode code 86 = .ok (.iaload, 1) := by decide +kernel
theorem d_LA_law_87 : decode code 87 = .ok (.aload_n 3, 1) := by decide +kernel
theorem d_LA_law_88 : decode code 88 = .ok (.invokestatic 40, 3) := by decide +kernel
theorem d_LA_law_91 : decode code 91 = .ok (.istore 5, 2) := by decide +kernel
theorem d_LA_law_93 : decode code 93 = .ok (.aload_n 2, 1) := by decide +kernel
theorem d_LA_law_94 : decode code 94 = .ok (.aload_n 0, 1) := by decide +kernel
theorem d_LA_law_95 : decode code 95 = .ok (.iload 4, 2) := by decide +kernel
theorem d_LA_law_97 : decode code 97 = .ok (.iconst 1, 1) := by decide +kernel
theorem d_LA_law_98 : decode code 98 = .ok (.iadd, 1) := by decide +kernel
theorem d_LA_law_99 : decode code 99 = .ok (.iaload, 1) := by decide +kernel
theorem d_LA_law_100 : decode code 100 = .ok (.invokevirtual 45, 3) := by decide +kernel
theorem d_LA_law_103 : decode code 103 = .ok (.istore 6, 2) := by decide +kernel
theorem d_LA_law_105 : decode code 105 = .ok (.aload_n 2, 1) := by decide +kernel
theorem d_LA_law_106 : decode code 106 = .ok (.invokevirtual 46, 3) := by decide +kernel
theorem d_LA_law_109 : decode code 109 = .ok (.iload 5, 2) := by decide +kernel
theorem d_LA_law_111 : decode code 111 = .ok (.if_icmp .eq 5, 3) := by decide +kernel
theorem d_LA_law_114 : decode code 114 = .ok (.iconst 0, 1) := by decide +kernel
theorem d_LA_law_115 : decode code 115 = .ok (.ireturn, 1) := by decide +kernel
theorem d_LA_law_116 : decode code 116 = .ok (.iload 5, 2) := by decide +kernel
theorem d_LA_law_118 : decode code 118 = .ok (.ifCond .ne 15, 3) := by decide +kernel
theorem d_LA_law_121 : decode code 121 = .ok (.aload_n 3, 1) := by decide +kernel
theorem d_LA_law_122 : decode code 122 = .ok (.iconst 0, 1) := by decide +kernel
theorem d_LA_law_123 : decode code 123 = .ok (.laload, 1) := by decide +kernel
theorem d_LA_law_124 : decode code 124 = .ok (.iload 6, 2) := by decide +kernel
theorem d_LA_law_126 : decode code 126 = .ok (.i2l, 1) := by decide +kernel
theorem d_LA_law_127 : decode code 127 = .ok (.lcmp, 1) := by decide +kernel
theorem d_LA_law_128 : decode code 128 = .ok (.ifCond .eq 5, 3) := by decide +kernel
theorem d_LA_law_131 : decode code 131 = .ok (.iconst 0, 1) := by decide +kernel
theorem d_LA_law_132 : decode code 132 = .ok (.ireturn, 1) := by decide +kernel
theorem d_LA_law_133 : decode code 133 = .ok (.goto 189, 3) := by decide +kernel
theorem d_LA_law_136 : decode code 136 = .ok (.aload_n 1, 1) := by decide +kernel
theorem d_LA_law_137 : decode code 137 = .ok (.aload_n 0, 1) := by decide +kernel
theorem d_LA_law_138 : decode code 138 = .ok (.iload 4, 2) := by decide +kernel
theorem d_LA_law_140 : decode code 140 = .ok (.iconst 1, 1) := by decide +kernel
theorem d_LA_law_141 : decode code 141 = .ok (.iadd, 1) := by decide +kernel
theorem d_LA_law_142 : decode code 142 = .ok (.iaload, 1) := by decide +kernel
theorem d_LA_law_143 : decode code 143 = .ok (.invokestatic 50, 3) := by decide +kernel
theorem d_LA_law_146 : decode code 146 = .ok (.istore 5, 2) := by decide +kernel
theorem d_LA_law_148 : decode code 148 = .ok (.aload_n 2, 1) := by decide +kernel
theorem d_LA_law_149 : decode code 149 = .ok (.aload_n 0, 1) := by decide +kernel
theorem d_LA_law_150 : decode code 150 = .ok (.iload 4, 2) := by decide +kernel
theorem d_LA_law_152 : decode code 152 = .ok (.iconst 1, 1) := by decide +kernel
theorem d_LA_law_153 : decode code 153 = .ok (.iadd, 1) := by decide +kernel
theorem d_LA_law_154 : decode code 154 = .ok (.iaload, 1) := by decide +kernel
theorem d_LA_law_155 : decode code 155 = .ok (.invokevirtual 53, 3) := by decide +kernel
theorem d_LA_law_158 : decode code 158 = .ok (.goto 164, 3) := by decide +kernel
theorem d_LA_law_161 : decode code 161 = .ok (.aload_n 1, 1) := by decide +kernel
theorem d_LA_law_162 : decode code 162 = .ok (.invokevirtual 54, 3) := by decide +kernel
theorem d_LA_law_165 : decode code 165 = .ok (.pop, 1) := by decide +kernel
theorem d_LA_law_166 : decode code 166 = .ok (.aload_n 2, 1) := by decide +kernel
theorem d_LA_law_167 : decode code 167 = .ok (.invokevirtual 57, 3) := by decide +kernel
theorem d_LA_law_170 : decode code 170 = .ok (.pop, 1) := by decide +kernel
theorem d_LA_law_171 : decode code 171 = .ok (.goto 151, 3) := by decide +kernel
theorem d_LA_law_174 : decode code 174 = .ok (.aload_n 1, 1) := by decide +kernel
theorem d_LA_law_175 : decode code 175 = .ok (.aload_n 0, 1) := by decide +kernel
theorem d_LA_law_176 : decode code 176 = .ok (.iload 4, 2) := by decide +kernel
theorem d_LA_law_178 : decode code 178 = .ok (.iconst 1, 1) := by decide +kernel
theorem d_LA_law_179 : decode code 179 = .ok (.iadd, 1) := by decide +kernel
theorem d_LA_law_180 : decode code 180 = .ok (.iaload, 1) := by decide +kernel
theorem d_LA_law_181 : decode code 181 = .ok (.aload_n 3, 1) := by decide +kernel
theorem d_LA_law_182 : decode code 182 = .ok (.invokestatic 58, 3) := by decide +kernel
theorem d_LA_law_185 : decode code 185 = .ok (.istore 5, 2) := by decide +kernel
theorem d_LA_law_187 : decode code 187 = .ok (.aload_n 2, 1) := by decide +kernel
theorem d_LA_law_188 : decode code 188 = .ok (.aload_n 0, 1) := by decide +kernel
theorem d_LA_law_189 : decode code 189 = .ok (.iload 4, 2) := by decide +kernel
theorem d_LA_law_191 : decode code 191 = .ok (.iconst 1, 1) := by decide +kernel
theorem d_LA_law_192 : decode code 192 = .ok (.iadd, 1) := by decide +kernel
theorem d_LA_law_193 : decode code 193 = .ok (.iaload, 1) := by decide +kernel
theorem d_LA_law_194 : decode code 194 = .ok (.invokevirtual 60, 3) := by decide +kernel
theorem d_LA_law_197 : decode code 197 = .ok (.istore 6, 2) := by decide +kernel
theorem d_LA_law_199 : decode code 199 = .ok (.goto 123, 3) := by decide +kernel
theorem d_LA_law_202 : decode code 202 = .ok (.aload_n 1, 1) := by decide +kernel
theorem d_LA_law_203 : decode code 203 = .ok (.aload_n 0, 1) := by decide +kernel
theorem d_LA_law_204 : decode code 204 = .ok (.iload 4, 2) := by decide +kernel
theorem d_LA_law_206 : decode code 206 = .ok (.iconst 1, 1) := by decide +kernel
theorem d_LA_law_207 : decode code 207 = .ok (.iadd, 1) := by decide +kernel
theorem d_LA_law_208 : decode code 208 = .ok (.iaload, 1) := by decide +kernel
theorem d_LA_law_209 : decode code 209 = .ok (.aload_n 0, 1) := by decide +kernel
theorem d_LA_law_210 : decode code 210 = .ok (.iload 4, 2) := by decide +kernel
theorem d_LA_law_212 : decode code 212 = .ok (.iconst 2, 1) := by decide +kernel
theorem d_LA_law_213 : decode code 213 = .ok (.iadd, 1) := by decide +kernel
theorem d_LA_law_214 : decode code 214 = .ok (.iaload, 1) := by decide +kernel
theorem d_LA_law_215 : decode code 215 = .ok (.aload_n 3, 1) := by decide +kernel
theorem d_LA_law_216 : decode code 216 = .ok (.invokestatic 61, 3) := by decide +kernel
theorem d_LA_law_219 : decode code 219 = .ok (.istore 5, 2) := by decide +kernel
theorem d_LA_law_221 : decode code 221 = .ok (.aload_n 2, 1) := by decide +kernel
theorem d_LA_law_222 : decode code 222 = .ok (.aload_n 0, 1) := by decide +kernel
theorem d_LA_law_223 : decode code 223 = .ok (.iload 4, 2) := by decide +kernel
theorem d_LA_law_225 : decode code 225 = .ok (.iconst 1, 1) := by decide +kernel
theorem d_LA_law_226 : decode code 226 = .ok (.iadd, 1) := by decide +kernel
theorem d_LA_law_227 : decode code 227 = .ok (.iaload, 1) := by decide +kernel
theorem d_LA_law_228 : decode code 228 = .ok (.aload_n 0, 1) := by decide +kernel
theorem d_LA_law_229 : decode code 229 = .ok (.iload 4, 2) := by decide +kernel
theorem d_LA_law_231 : decode code 231 = .ok (.iconst 2, 1) := by decide +kernel
theorem d_LA_law_232 : decode code 232 = .ok (.iadd, 1) := by decide +kernel
theorem d_LA_law_233 : decode code 233 = .ok (.iaload, 1) := by decide +kernel
theorem d_LA_law_234 : decode code 234 = .ok (.invokevirtual 64, 3) := by decide +kernel
theorem d_LA_law_237 : decode code 237 = .ok (.istore 6, 2) := by decide +kernel
theorem d_LA_law_239 : decode code 239 = .ok (.goto 83, 3) := by decide +kernel
theorem d_LA_law_242 : decode code 242 = .ok (.aload_n 1, 1) := by decide +kernel
theorem d_LA_law_243 : decode code 243 = .ok (.aload_n 0, 1) := by decide +kernel
theorem d_LA_law_244 : decode code 244 = .ok (.iload 4, 2) := by decide +kernel
theorem d_LA_law_246 : decode code 246 = .ok (.iconst 1, 1) := by decide +kernel
theorem d_LA_law_247 : decode code 247 = .ok (.iadd, 1) := by decide +kernel
theorem d_LA_law_248 : decode code 248 = .ok (.iaload, 1) := by decide +kernel
theorem d_LA_law_249 : decode code 249 = .ok (.aload_n 0, 1) := by decide +kernel
theorem d_LA_law_250 : decode code 250 = .ok (.iload 4, 2) := by decide +kernel
theorem d_LA_law_252 : decode code 252 = .ok (.iconst 2, 1) := by decide +kernel
theorem d_LA_law_253 : decode code 253 = .ok (.iadd, 1) := by decide +kernel
theorem d_LA_law_254 : decode code 254 = .ok (.iaload, 1) := by decide +kernel
theorem d_LA_law_255 : decode code 255 = .ok (.aload_n 3, 1) := by decide +kernel
theorem d_LA_law_256 : decode code 256 = .ok (.invokestatic 65, 3) := by decide +kernel
theorem d_LA_law_259 : decode code 259 = .ok (.istore 5, 2) := by decide +kernel
theorem d_LA_law_261 : decode code 261 = .ok (.aload_n 2, 1) := by decide +kernel
theorem d_LA_law_262 : decode code 262 = .ok (.aload_n 0, 1) := by decide +kernel
theorem d_LA_law_263 : decode code 263 = .ok (.iload 4, 2) := by decide +kernel
theorem d_LA_law_265 : decode code 265 = .ok (.iconst 1, 1) := by decide +kernel
theorem d_LA_law_266 : decode code 266 = .ok (.iadd, 1) := by decide +kernel
theorem d_LA_law_267 : decode code 267 = .ok (.iaload, 1) := by decide +kernel
theorem d_LA_law_268 : decode code 268 = .ok (.aload_n 0, 1) := by decide +kernel
theorem d_LA_law_269 : decode code 269 = .ok (.iload 4, 2) := by decide +kernel
theorem d_LA_law_271 : decode code 271 = .ok (.iconst 2, 1) := by decide +kernel
theorem d_LA_law_272 : decode code 272 = .ok (.iadd, 1) := by decide +kernel
theorem d_LA_law_273 : decode code 273 = .ok (.iaload, 1) := by decide +kernel
theorem d_LA_law_274 : decode code 274 = .ok (.invokevirtual 67, 3) := by decide +kernel
theorem d_LA_law_277 : decode code 277 = .ok (.istore 6, 2) := by decide +kernel
theorem d_LA_law_279 : decode code 279 = .ok (.goto 43, 3) := by decide +kernel
theorem d_LA_law_282 : decode code 282 = .ok (.aload_n 1, 1) := by decide +kernel
theorem d_LA_law_283 : decode code 283 = .ok (.aload_n 0, 1) := by decide +kernel
theorem d_LA_law_284 : decode code 284 = .ok (.iload 4, 2) := by decide +kernel
theorem d_LA_law_286 : decode code 286 = .ok (.iconst 1, 1) := by decide +kernel
theorem d_LA_law_287 : decode code 287 = .ok (.iadd, 1) := by decide +kernel
theorem d_LA_law_288 : decode code 288 = .ok (.iaload, 1) := by decide +kernel
theorem d_LA_law_289 : decode code 289 = .ok (.aload_n 0, 1) := by decide +kernel
theorem d_LA_law_290 : decode code 290 = .ok (.iload 4, 2) := by decide +kernel
theorem d_LA_law_292 : decode code 292 = .ok (.iconst 2, 1) := by decide +kernel
theorem d_LA_law_293 : decode code 293 = .ok (.iadd, 1) := by decide +kernel
theorem d_LA_law_294 : decode code 294 = .ok (.iaload, 1) := by decide +kernel
theorem d_LA_law_295 : decode code 295 = .ok (.aload_n 3, 1) := by decide +kernel
theorem d_LA_law_296 : decode code 296 = .ok (.invokestatic 68, 3) := by decide +kernel
theorem d_LA_law_299 : decode code 299 = .ok (.istore 5, 2) := by decide +kernel
theorem d_LA_law_301 : decode code 301 = .ok (.aload_n 2, 1) := by decide +kernel
theorem d_LA_law_302 : decode code 302 = .ok (.aload_n 0, 1) := by decide +kernel
theorem d_LA_law_303 : decode code 303 = .ok (.iload 4, 2) := by decide +kernel
theorem d_LA_law_305 : decode code 305 = .ok (.iconst 1, 1) := by decide +kernel
theorem d_LA_law_306 : decode code 306 = .ok (.iadd, 1) := by decide +kernel
theorem d_LA_law_307 : decode code 307 = .ok (.iaload, 1) := by decide +kernel
theorem d_LA_law_308 : decode code 308 = .ok (.aload_n 0, 1) := by decide +kernel
theorem d_LA_law_309 : decode code 309 = .ok (.iload 4, 2) := by decide +kernel
theorem d_LA_law_311 : decode code 311 = .ok (.iconst 2, 1) := by decide +kernel
theorem d_LA_law_312 : decode code 312 = .ok (.iadd, 1) := by decide +kernel
theorem d_LA_law_313 : decode code 313 = .ok (.iaload, 1) := by decide +kernel
theorem d_LA_law_314 : decode code 314 = .ok (.invokevirtual 70, 3) := by decide +kernel
theorem d_LA_law_317 : decode code 317 = .ok (.istore 6, 2) := by decide +kernel
theorem d_LA_law_319 : decode code 319 = .ok (.goto 3, 3) := by decide +kernel
theorem d_LA_law_322 : decode code 322 = .ok (.iinc 4 3, 3) := by decide +kernel
theorem d_LA_law_325 : decode code 325 = .ok (.goto (-302), 3) := by decide +kernel
theorem d_LA_law_328 : decode code 328 = .ok (.iconst 1, 1) := by decide +kernel
theorem d_LA_law_329 : decode code 329 = .ok (.ireturn, 1) := by decide +kernel
def f_law (n : Nat) (xs : Nat → Int32) (L : Nat) : Nat → Int32 → mz_St → mz_St → (Nat → Int64) → Option Unit
  | 0, _, _, _, _ => none
  | k + 1, i, tC, tM, g => if ((Int32.ofNat L) - (3 : Int32)) < i then (some ()) else (if ¬ (i < 0 ∨ L ≤ i.toNatClampNeg) then (if ((xs i.toNatClampNeg) &&& (7 : Int32)) = (0 : Int32) then (if ¬ ((i + (1 : Int32)) < 0 ∨ L ≤ (i + (1 : Int32)).toNatClampNeg) then ((h_put n (xs (i + (1 : Int32)).toNatClampNeg) tC).bind fun q5 => if ¬ ((i + (1 : Int32)) < 0 ∨ L ≤ (i + (1 : Int32)).toNatClampNeg) then ((f_MO_put n (xs (i + (1 : Int32)).toNatClampNeg) tM).bind fun q8 => (f_MO_thrown n q8.2).bind fun q10 => if q10.1 = q5.1 then (if q5.1 = 0 then (if (lg_cmp ((lh_g g q5.2.1) 0) q8.1.toInt64) = 0 then (f_law n xs L k (i + (3 : Int32)) q5.2.2 q10.2 (lh_g g q5.2.1)) else none) else (f_law n xs L k (i + (3 : Int32)) q5.2.2 q10.2 (lh_g g q5.2.1))) else none) else none) else none) else (if ((xs i.toNatClampNeg) &&& (7 : Int32)) = (1 : Int32) then (if ¬ ((i + (1 : Int32)) < 0 ∨ L ≤ (i + (1 : Int32)).toNatClampNeg) then ((h_end n (xs (i + (1 : Int32)).toNatClampNeg) tC).bind fun q17 => if ¬ ((i + (1 : Int32)) < 0 ∨ L ≤ (i + (1 : Int32)).toNatClampNeg) then ((f_MO_end n (xs (i + (1 : Int32)).toNatClampNeg) tM).bind fun q20 => f_law n xs L k (i + (3 : Int32)) q17.2.2 q20 (lh_g g q17.2.1)) else none) else none) else (if ((xs i.toNatClampNeg) &&& (7 : Int32)) = (2 : Int32) then ((f_MH_expand n tC).bind fun q23 => (f_MO_expand n tM).bind fun q25 => f_law n xs L k (i + (3 : Int32)) q23.2 q25.2 g) else (if ((xs i.toNatClampNeg) &&& (7 : Int32)) = (3 : Int32) then (if ¬ ((i + (1 : Int32)) < 0 ∨ L ≤ (i + (1 : Int32)).toNatClampNeg) then ((h_about n (xs (i + (1 : Int32)).toNatClampNeg) tC).bind fun q29 => if ¬ ((i + (1 : Int32)) < 0 ∨ L ≤ (i + (1 : Int32)).toNatClampNeg) then ((f_MO_about n (xs (i + (1 : Int32)).toNatClampNeg) tM).bind fun q32 => f_law n xs L k (i + (3 : Int32)) q29.2.2 q32.2 (lh_g g q29.2.1)) else none) else none) else (if ((xs i.toNatClampNeg) &&& (7 : Int32)) = (4 : Int32) then (if ¬ ((i + (1 : Int32)) < 0 ∨ L ≤ (i + (1 : Int32)).toNatClampNeg) then (if ¬ ((i + (2 : Int32)) < 0 ∨ L ≤ (i + (2 : Int32)).toNatClampNeg) then ((h_line n (xs (i + (1 : Int32)).toNatClampNeg) (xs (i + (2 : Int32)).toNatClampNeg) tC).bind fun q37 => if ¬ ((i + (1 : Int32)) < 0 ∨ L ≤ (i + (1 : Int32)).toNatClampNeg) then (if ¬ ((i + (2 : Int32)) < 0 ∨ L ≤ (i + (2 : Int32)).toNatClampNeg) then ((f_MO_line n (xs (i + (1 : Int32)).toNatClampNeg) (xs (i + (2 : Int32)).toNatClampNeg) tM).bind fun q41 => f_law n xs L k (i + (3 : Int32)) q37.2.2 q41.2 (lh_g g q37.2.1)) else none) else none) else none) else none) else (if ((xs i.toNatClampNeg) &&& (7 : Int32)) = (5 : Int32) then (if ¬ ((i + (1 : Int32)) < 0 ∨ L ≤ (i + (1 : Int32)).toNatClampNeg) then (if ¬ ((i + (2 : Int32)) < 0 ∨ L ≤ (i + (2 : Int32)).toNatClampNeg) then ((h_constant n (xs (i + (1 : Int32)).toNatClampNeg) (xs (i + (2 : Int32)).toNatClampNeg) tC).bind fun q46 => if ¬ ((i + (1 : Int32)) < 0 ∨ L ≤ (i + (1 : Int32)).toNatClampNeg) then (if ¬ ((i + (2 : Int32)) < 0 ∨ L ≤ (i + (2 : Int32)).toNatClampNeg) then ((f_MO_constant n (xs (i + (1 : Int32)).toNatClampNeg) (xs (i + (2 : Int32)).toNatClampNeg) tM).bind fun q50 => f_law n xs L k (i + (3 : Int32)) q46.2.2 q50.2 (lh_g g q46.2.1)) else none) else none) else none) else none) else (if ((xs i.toNatClampNeg) &&& (7 : Int32)) = (6 : Int32) then (if ¬ ((i + (1 : Int32)) < 0 ∨ L ≤ (i + (1 : Int32)).toNatClampNeg) then (if ¬ ((i + (2 : Int32)) < 0 ∨ L ≤ (i + (2 : Int32)).toNatClampNeg) then ((h_macro n (xs (i + (1 : Int32)).toNatClampNeg) (xs (i + (2 : Int32)).toNatClampNeg) tC).bind fun q55 => if ¬ ((i + (1 : Int32)) < 0 ∨ L ≤ (i + (1 : Int32)).toNatClampNeg) then (if ¬ ((i + (2 : Int32)) < 0 ∨ L ≤ (i + (2 : Int32)).toNatClampNeg) then ((f_MO_macro n (xs (i + (1 : Int32)).toNatClampNeg) (xs (i + (2 : Int32)).toNatClampNeg) tM).bind fun q59 => f_law n xs L k (i + (3 : Int32)) q55.2.2 q59.2 (lh_g g q55.2.1)) else none) else none) else none) else none) else (f_law n xs L k (i + (3 : Int32)) tC tM g)))))))) else none)
set_option maxRecDepth 100000 in
set_option maxHeartbeats 8000000 in
theorem law_loop {dC : Nat → ClassId} {dI : Nat → Nat → Nat} {ca : Nat → ClassId} {en adK adV : Nat → Nat} {tA tS : Nat} {oF : Option Nat} {adC adM : Nat → Nat} {o : Nat} {p : Program} {l : Launch} {e : Env} {s : State} {m : MethodId} {below : List Frame} {meth : Method} {c : Code} {b L : Nat} {xs : Nat → Int32} (E : lw_En dC dI ca en adK adV tA tS oF adC adM o p s m c code 7) (hr : meth.sig.returnType = ret) (hlocks : meth.locks = false) (hX : va_X b L xs s s.heap) (hbl : b < s.heap.size) (hT : ∀ e, l.admits e → e.platform.stackTraces = false) (n : Nat) : ∀ (k : Nat) (i : Int32) (tC tM : mz_St) (g : Nat → Int64), f_law n xs L k i tC tM g = some () → ∀ cells slots, cells + k ≤ 601024 → slots + 6 * k ≤ 7293034 → ∀ (H : Heap) (locs : List Loc) (ls : Array Slot), lw_W dC dI ca en adC adM o s tC tM g H locs → lv_has ls 7 [(0, .ref b), (1, .ref (adC 0)), (2, .ref (adM 0)), (3, .ref o), (4, .int i)] → W p l e room_1 s m #[Value.ref b] below meth c H locs cells slots (lw_Z below #[Value.ref b] s) (F0 m 23 ls []) := by
  obtain ⟨hx, hb, hml, hown, hcx, hK, -⟩ := id E
  have hbA : ¬ (fun q : Nat => s.heap.size ≤ q) b := Nat.not_le.mpr hbl
  intro k
  induction k with
  | zero => intro i tC tM g hf; exact nomatch hf
  | succ k ih =>
    intro i tC tM g hf cells slots hce hsl H locs ls w hl
    unfold f_law at hf
    refine lv_iload hx hb d_LA_law_23 (lv_at hl 4 rfl) ?_
    refine lv_aload_n hx hb d_LA_law_25 rfl (lv_at hl 0 rfl) ?_
    refine va_slen hx hb hX hbl hbA w.2.2.2 d_LA_law_26 ?_
    refine lv_iconst (v := (3 : Int32)) hx hb d_LA_law_27 (by decide) ?_
    refine lv_isub hx hb d_LA_law_28 ?_
    refine lv_icmp_gt (tgt := 328) hx hb d_LA_law_29 (by decide) (fun hc1 => ?_) (fun hc1 => ?_)
    · have hf := mz_t hc1 hf
      refine lv_iconst (v := (1 : Int32)) hx hb d_LA_law_328 (by decide) ?_
      refine va_forget w.2.2.2.2.2 ?_
      refine W.widen (k := 601024) (n := 7293034) (by omega) (by omega) ?_
      exact lw_ret hx hb hr hlocks d_LA_law_329
    · have hf := mz_f hc1 hf
      refine lv_aload_n hx hb d_LA_law_32 rfl (lv_at hl 0 rfl) ?_
      refine lv_iload hx hb d_LA_law_33 (lv_at hl 4 rfl) ?_
      obtain ⟨hi2, hf⟩ := mz_gd hf
      refine va_sld hx hb hX hbl hbA w.2.2.2 hi2 d_LA_law_35 ?_
      refine lv_bipush (v := (7 : Int32)) hx hb d_LA_law_36 (by decide) ?_
      refine lv_iand hx hb d_LA_law_38 ?_
      by_cases hc3 : ((xs i.toNatClampNeg) &&& (7 : Int32)) = (0 : Int32)
      · have hf := mz_t hc3 hf
        refine lv_tableIn (off := 41) (tgt := 80) hx hb d_LA_law_39 (by rw [hc3]; decide) (by rw [hc3]; decide) (by rw [hc3]; rfl) (by decide) ?_
        refine lv_aload_n hx hb d_LA_law_80 rfl (lv_at hl 1 rfl) ?_
        refine lv_aload_n hx hb d_LA_law_81 rfl (lv_at hl 0 rfl) ?_
        refine lv_iload hx hb d_LA_law_82 (lv_at hl 4 rfl) ?_
        refine lv_iconst (v := (1 : Int32)) hx hb d_LA_law_84 (by decide) ?_
        refine lv_iadd hx hb d_LA_law_85 ?_
        obtain ⟨hi4, hf⟩ := mz_gd hf
        refine va_sld hx hb hX hbl hbA w.2.2.2 hi4 d_LA_law_86 ?_
        refine lv_aload_n hx hb d_LA_law_87 rfl (lv_at hl 3 rfl) ?_
        obtain ⟨q5, hq6, hf⟩ := mz_bd hf
        refine lw_help (As := [.ref (adC 0), .int (xs (i + (1 : Int32)).toNatClampNeg), .ref o]) (rest := []) E w (ch_put l hT n (xs (i + (1 : Int32)).toNatClampNeg) tC q5 hq6) lk_put k_0 k_1008 k_1009 (n := 3) (by decide +kernel) ⟨⟨rfl, rfl⟩, (Nat.le_of_ble_eq_true rfl), (Nat.le_of_ble_eq_true rfl)⟩ rfl hl.1 rfl (Nat.le_of_ble_eq_true rfl) d_LA_law_88 ⟨by show _ + 1 ≤ 601024; omega, by show _ + 6 ≤ 7293034; omega⟩ (fun H locs w => ?_)
        refine lv_istore (lv' := [(5, .int q5.1), (0, .ref b), (1, .ref (adC 0)), (2, .ref (adM 0)), (3, .ref o), (4, .int i)]) hx hb d_LA_law_91 hl (by decide) rfl (fun ls hl => ?_)
        refine lv_aload_n hx hb d_LA_law_93 rfl (lv_at hl 3 rfl) ?_
        refine lv_aload_n hx hb d_LA_law_94 rfl (lv_at hl 1 rfl) ?_
        refine lv_iload hx hb d_LA_law_95 (lv_at hl 5 rfl) ?_
        refine lv_iconst (v := (1 : Int32)) hx hb d_LA_law_97 (by decide) ?_
        refine lv_iadd hx hb d_LA_law_98 ?_
        obtain ⟨hi7, hf⟩ := mz_gd hf
        refine va_sld hx hb hX hbl hbA w.2.2.2 hi7 d_LA_law_99 ?_
        obtain ⟨q8, hq9, hf⟩ := mz_bd hf
        refine lw_callM (As := [.int (xs (i + (1 : Int32)).toNatClampNeg)]) (rest := []) E w (c_MO_put (fun _ _ _ _ _ _ => trivial) l n (xs (i + (1 : Int32)).toNatClampNeg) tM q8 hq9) rfl rfl k_1432 k_15 k_1429 k_1430 k_1431 hm_MO_put ⟨⟨rfl, rfl⟩, (Nat.le_of_ble_eq_true rfl), (Nat.le_of_ble_eq_true rfl)⟩ rfl hl.1 rfl (Nat.le_of_ble_eq_true rfl) d_LA_law_100 ⟨by show _ ≤ 601024; omega, by show _ ≤ 7293034; omega⟩ (st1 := [.int q8.1]) rfl (fun H locs w => ?_)
        refine lv_istore (lv' := [(6, .int q8.1), (5, .int q5.1), (0, .ref b), (1, .ref (adC 0)), (2, .ref (adM 0)), (3, .ref o), (4, .int i)]) hx hb d_LA_law_103 hl (by decide) rfl (fun ls hl => ?_)
        refine lv_aload_n hx hb d_LA_law_105 rfl (lv_at hl 4 rfl) ?_
        obtain ⟨q10, hq11, hf⟩ := mz_bd hf
        refine lw_callM (As := []) (rest := []) E w (c_MO_thrown (fun _ _ _ _ _ _ => trivial) l n q8.2 q10 hq11) rfl rfl k_1428 k_15 k_1425 k_1426 k_1427 hm_MO_thrown ⟨⟨rfl, rfl⟩, (Nat.le_of_ble_eq_true rfl), (Nat.le_of_ble_eq_true rfl)⟩ rfl hl.1 rfl (Nat.le_of_ble_eq_true rfl) d_LA_law_106 ⟨by show _ ≤ 601024; omega, by show _ ≤ 7293034; omega⟩ (st1 := [.int q10.1]) rfl (fun H locs w => ?_)
        refine lv_iload hx hb d_LA_law_109 (lv_at hl 1 rfl) ?_
        refine lv_icmp_eq (tgt := 116) hx hb d_LA_law_111 (by decide) (fun hc12 => ?_) (fun hc12 => ?_)
        · have hf := mz_t hc12 hf
          refine lv_iload hx hb d_LA_law_116 (lv_at hl 1 rfl) ?_
          refine lv_if_ne (tgt := 133) hx hb d_LA_law_118 (by decide) (fun hc13 => ?_) (fun hc13 => ?_)
          · have hf := mz_f hc13 hf
            refine lv_goto (tgt := 322) hx hb d_LA_law_133 (by decide) ?_
            refine lv_iinc (v := (i + (3 : Int32))) (lv' := [(4, .int (i + (3 : Int32))), (6, .int q8.1), (5, .int q5.1), (0, .ref b), (1, .ref (adC 0)), (2, .ref (adM 0)), (3, .ref o)]) hx hb d_LA_law_322 hl (k := 6) rfl rfl (by decide) rfl (fun ls hl => ?_)
            refine lv_goto (tgt := 23) hx hb d_LA_law_325 (by decide) ?_
            exact ih (i + (3 : Int32)) q5.2.2 q10.2 (lh_g g q5.2.1) hf _ _ (by omega) (by omega) _ _ _ w (lv_sub hl [3, 4, 5, 6, 0] rfl)
          · have hf := mz_t hc13 hf
            refine lv_aload_n hx hb d_LA_law_121 rfl (lv_at hl 5 rfl) ?_
            refine lv_iconst (v := (0 : Int32)) hx hb d_LA_law_122 (by decide) ?_
            refine lw_ld (own := "") hx hb hK w d_LA_law_123 ?_
            refine lv_iload hx hb d_LA_law_124 (lv_at hl 0 rfl) ?_
            refine lv_i2l (v := q8.1.toInt64) hx hb d_LA_law_126 rfl ?_
            refine W.lcmp hx hb d_LA_law_127 ?_
            refine lv_if_eq (tgt := 133) hx hb d_LA_law_128 (by decide) (fun hc14 => ?_) (fun hc14 => ?_)
            · have hf := mz_t hc14 hf
              refine lv_goto (tgt := 322) hx hb d_LA_law_133 (by decide) ?_
              refine lv_iinc (v := (i + (3 : Int32))) (lv' := [(4, .int (i + (3 : Int32))), (6, .int q8.1), (5, .int q5.1), (0, .ref b), (1, .ref (adC 0)), (2, .ref (adM 0)), (3, .ref o)]) hx hb d_LA_law_322 hl (k := 6) rfl rfl (by decide) rfl (fun ls hl => ?_)
              refine lv_goto (tgt := 23) hx hb d_LA_law_325 (by decide) ?_
              exact ih (i + (3 : Int32)) q5.2.2 q10.2 (lh_g g q5.2.1) hf _ _ (by omega) (by omega) _ _ _ w (lv_sub hl [3, 4, 5, 6, 0] rfl)
            · have hf := mz_f hc14 hf
              refine lv_iconst (v := (0 : Int32)) hx hb d_LA_law_131 (by decide) ?_
              exact nomatch hf
        · have hf := mz_f hc12 hf
          refine lv_iconst (v := (0 : Int32)) hx hb d_LA_law_114 (by decide) ?_
          exact nomatch hf
      · have hf := mz_f hc3 hf
        by_cases hc15 : ((xs i.toNatClampNeg) &&& (7 : Int32)) = (1 : Int32)
        · have hf := mz_t hc15 hf
          refine lv_tableIn (off := 97) (tgt := 136) hx hb d_LA_law_39 (by rw [hc15]; decide) (by rw [hc15]; decide) (by rw [hc15]; rfl) (by decide) ?_
          refine lv_aload_n hx hb d_LA_law_136 rfl (lv_at hl 1 rfl) ?_
          refine lv_aload_n hx hb d_LA_law_137 rfl (lv_at hl 0 rfl) ?_
          refine lv_iload hx hb d_LA_law_138 (lv_at hl 4 rfl) ?_
          refine lv_iconst (v := (1 : Int32)) hx hb d_LA_law_140 (by decide) ?_
          refine lv_iadd hx hb d_LA_law_141 ?_
          obtain ⟨hi16, hf⟩ := mz_gd hf
          refine va_sld hx hb hX hbl hbA w.2.2.2 hi16 d_LA_law_142 ?_
          obtain ⟨q17, hq18, hf⟩ := mz_bd hf
          refine lw_help (As := [.ref (adC 0), .int (xs (i + (1 : Int32)).toNatClampNeg)]) (rest := []) E w (ch_end l hT n (xs (i + (1 : Int32)).toNatClampNeg) tC q17 hq18) lk_end k_0 k_1104 k_1105 (n := 2) (by decide +kernel) ⟨⟨rfl, rfl⟩, (Nat.le_of_ble_eq_true rfl), (Nat.le_of_ble_eq_true rfl)⟩ rfl hl.1 rfl (Nat.le_of_ble_eq_true rfl) d_LA_law_143 ⟨by show _ + 1 ≤ 601024; omega, by show _ + 6 ≤ 7293034; omega⟩ (fun H locs w => ?_)
          refine lv_istore (lv' := [(5, .int q17.1), (0, .ref b), (1, .ref (adC 0)), (2, .ref (adM 0)), (3, .ref o), (4, .int i)]) hx hb d_LA_law_146 hl (by decide) rfl (fun ls hl => ?_)
          refine lv_aload_n hx hb d_LA_law_148 rfl (lv_at hl 3 rfl) ?_
          refine lv_aload_n hx hb d_LA_law_149 rfl (lv_at hl 1 rfl) ?_
          refine lv_iload hx hb d_LA_law_150 (lv_at hl 5 rfl) ?_
          refine lv_iconst (v := (1 : Int32)) hx hb d_LA_law_152 (by decide) ?_
          refine lv_iadd hx hb d_LA_law_153 ?_
          obtain ⟨hi19, hf⟩ := mz_gd hf
          refine va_sld hx hb hX hbl hbA w.2.2.2 hi19 d_LA_law_154 ?_
          obtain ⟨q20, hq21, hf⟩ := mz_bd hf
          refine lw_callM (As := [.int (xs (i + (1 : Int32)).toNatClampNeg)]) (rest := []) E w (c_MO_end (fun _ _ _ _ _ _ => trivial) l n (xs (i + (1 : Int32)).toNatClampNeg) tM q20 hq21) rfl rfl k_1443 k_15 k_1440 k_1441 k_1442 hm_MO_end ⟨⟨rfl, rfl⟩, (Nat.le_of_ble_eq_true rfl), (Nat.le_of_ble_eq_true rfl)⟩ rfl hl.1 rfl (Nat.le_of_ble_eq_true rfl) d_LA_law_155 ⟨by show _ ≤ 601024; omega, by show _ ≤ 7293034; omega⟩ (st1 := []) rfl (fun H locs w => ?_)
          refine lv_goto (tgt := 322) hx hb d_LA_law_158 (by decide) ?_
          refine lv_iinc (v := (i + (3 : Int32))) (lv' := [(4, .int (i + (3 : Int32))), (5, .int q17.1), (0, .ref b), (1, .ref (adC 0)), (2, .ref (adM 0)), (3, .ref o)]) hx hb d_LA_law_322 hl (k := 5) rfl rfl (by decide) rfl (fun ls hl => ?_)
          refine lv_goto (tgt := 23) hx hb d_LA_law_325 (by decide) ?_
          exact ih (i + (3 : Int32)) q17.2.2 q20 (lh_g g q17.2.1) hf _ _ (by omega) (by omega) _ _ _ w (lv_sub hl [2, 3, 4, 5, 0] rfl)
        · have hf := mz_f hc15 hf
          by_cases hc22 : ((xs i.toNatClampNeg) &&& (7 : Int32)) = (2 : Int32)
          · have hf := mz_t hc22 hf
            refine lv_tableIn (off := 122) (tgt := 161) hx hb d_LA_law_39 (by rw [hc22]; decide) (by rw [hc22]; decide) (by rw [hc22]; rfl) (by decide) ?_
            refine lv_aload_n hx hb d_LA_law_161 rfl (lv_at hl 1 rfl) ?_
            obtain ⟨q23, hq24, hf⟩ := mz_bd hf
            refine lw_callC (As := []) (rest := []) E w (c_MH_expand mz_SC_k l n tC q23 hq24) rfl rfl k_434 k_1 k_431 k_432 k_433 hm_MH_expand ⟨⟨rfl, rfl⟩, (Nat.le_of_ble_eq_true rfl), (Nat.le_of_ble_eq_true rfl)⟩ rfl hl.1 rfl (Nat.le_of_ble_eq_true rfl) d_LA_law_162 ⟨by show _ ≤ 601024; omega, by show _ ≤ 7293034; omega⟩ (st1 := [.int q23.1]) rfl (fun H locs w => ?_)
            refine lv_pop hx hb d_LA_law_165 rfl ?_
            refine lv_aload_n hx hb d_LA_law_166 rfl (lv_at hl 2 rfl) ?_
            obtain ⟨q25, hq26, hf⟩ := mz_bd hf
            refine lw_callM (As := []) (rest := []) E w (c_MO_expand (fun _ _ _ _ _ _ => trivial) l n tM q25 hq26) rfl rfl k_1447 k_15 k_1444 k_1445 k_1446 hm_MO_expand ⟨⟨rfl, rfl⟩, (Nat.le_of_ble_eq_true rfl), (Nat.le_of_ble_eq_true rfl)⟩ rfl hl.1 rfl (Nat.le_of_ble_eq_true rfl) d_LA_law_167 ⟨by show _ ≤ 601024; omega, by show _ ≤ 7293034; omega⟩ (st1 := [.int q25.1]) rfl (fun H locs w => ?_)
            refine lv_pop hx hb d_LA_law_170 rfl ?_
            refine lv_goto (tgt := 322) hx hb d_LA_law_171 (by decide) ?_
            refine lv_iinc (v := (i + (3 : Int32))) (lv' := [(4, .int (i + (3 : Int32))), (0, .ref b), (1, .ref (adC 0)), (2, .ref (adM 0)), (3, .ref o)]) hx hb d_LA_law_322 hl (k := 4) rfl rfl (by decide) rfl (fun ls hl => ?_)
            refine lv_goto (tgt := 23) hx hb d_LA_law_325 (by decide) ?_
            exact ih (i + (3 : Int32)) q23.2 q25.2 g hf _ _ (by omega) (by omega) _ _ _ w (lv_sub hl [1, 2, 3, 4, 0] rfl)
          · have hf := mz_f hc22 hf
            by_cases hc27 : ((xs i.toNatClampNeg) &&& (7 : Int32)) = (3 : Int32)
            · have hf := mz_t hc27 hf
              refine lv_tableIn (off := 135) (tgt := 174) hx hb d_LA_law_39 (by rw [hc27]; decide) (by rw [hc27]; decide) (by rw [hc27]; rfl) (by decide) ?_
              refine lv_aload_n hx hb d_LA_law_174 rfl (lv_at hl 1 rfl) ?_
              refine lv_aload_n hx hb d_LA_law_175 rfl (lv_at hl 0 rfl) ?_
              refine lv_iload hx hb d_LA_law_176 (lv_at hl 4 rfl) ?_
              refine lv_iconst (v := (1 : Int32)) hx hb d_LA_law_178 (by decide) ?_
              refine lv_iadd hx hb d_LA_law_179 ?_
              obtain ⟨hi28, hf⟩ := mz_gd hf
              refine va_sld hx hb hX hbl hbA w.2.2.2 hi28 d_LA_law_180 ?_
              refine lv_aload_n hx hb d_LA_law_181 rfl (lv_at hl 3 rfl) ?_
              obtain ⟨q29, hq30, hf⟩ := mz_bd hf
              refine lw_help (As := [.ref (adC 0), .int (xs (i + (1 : Int32)).toNatClampNeg), .ref o]) (rest := []) E w (ch_about l hT n (xs (i + (1 : Int32)).toNatClampNeg) tC q29 hq30) lk_about k_0 k_1112 k_1113 (n := 3) (by decide +kernel) ⟨⟨rfl, rfl⟩, (Nat.le_of_ble_eq_true rfl), (Nat.le_of_ble_eq_true rfl)⟩ rfl hl.1 rfl (Nat.le_of_ble_eq_true rfl) d_LA_law_182 ⟨by show _ + 1 ≤ 601024; omega, by show _ + 6 ≤ 7293034; omega⟩ (fun H locs w => ?_)
              refine lv_istore (lv' := [(5, .int q29.1), (0, .ref b), (1, .ref (adC 0)), (2, .ref (adM 0)), (3, .ref o), (4, .int i)]) hx hb d_LA_law_185 hl (by decide) rfl (fun ls hl => ?_)
              refine lv_aload_n hx hb d_LA_law_187 rfl (lv_at hl 3 rfl) ?_
              refine lv_aload_n hx hb d_LA_law_188 rfl (lv_at hl 1 rfl) ?_
              refine lv_iload hx hb d_LA_law_189 (lv_at hl 5 rfl) ?_
              refine lv_iconst (v := (1 : Int32)) hx hb d_LA_law_191 (by decide) ?_
              refine lv_iadd hx hb d_LA_law_192 ?_
              obtain ⟨hi31, hf⟩ := mz_gd hf
              refine va_sld hx hb hX hbl hbA w.2.2.2 hi31 d_LA_law_193 ?_
              obtain ⟨q32, hq33, hf⟩ := mz_bd hf
              refine lw_callM (As := [.int (xs (i + (1 : Int32)).toNatClampNeg)]) (rest := []) E w (c_MO_about (fun _ _ _ _ _ _ => trivial) l n (xs (i + (1 : Int32)).toNatClampNeg) tM q32 hq33) rfl rfl k_1680 k_15 k_1677 k_1678 k_1679 hm_MO_about ⟨⟨rfl, rfl⟩, (Nat.le_of_ble_eq_true rfl), (Nat.le_of_ble_eq_true rfl)⟩ rfl hl.1 rfl (Nat.le_of_ble_eq_true rfl) d_LA_law_194 ⟨by show _ ≤ 601024; omega, by show _ ≤ 7293034; omega⟩ (st1 := [.int q32.1]) rfl (fun H locs w => ?_)
              refine lv_istore (lv' := [(6, .int q32.1), (5, .int q29.1), (0, .ref b), (1, .ref (adC 0)), (2, .ref (adM 0)), (3, .ref o), (4, .int i)]) hx hb d_LA_law_197 hl (by decide) rfl (fun ls hl => ?_)
              refine lv_goto (tgt := 322) hx hb d_LA_law_199 (by decide) ?_
              refine lv_iinc (v := (i + (3 : Int32))) (lv' := [(4, .int (i + (3 : Int32))), (6, .int q32.1), (5, .int q29.1), (0, .ref b), (1, .ref (adC 0)), (2, .ref (adM 0)), (3, .ref o)]) hx hb d_LA_law_322 hl (k := 6) rfl rfl (by decide) rfl (fun ls hl => ?_)
              refine lv_goto (tgt := 23) hx hb d_LA_law_325 (by decide) ?_
              exact ih (i + (3 : Int32)) q29.2.2 q32.2 (lh_g g q29.2.1) hf _ _ (by omega) (by omega) _ _ _ w (lv_sub hl [3, 4, 5, 6, 0] rfl)
            · have hf := mz_f hc27 hf
              by_cases hc34 : ((xs i.toNatClampNeg) &&& (7 : Int32)) = (4 : Int32)
              · have hf := mz_t hc34 hf
                refine lv_tableIn (off := 163) (tgt := 202) hx hb d_LA_law_39 (by rw [hc34]; decide) (by rw [hc34]; decide) (by rw [hc34]; rfl) (by decide) ?_
                refine lv_aload_n hx hb d_LA_law_202 rfl (lv_at hl 1 rfl) ?_
                refine lv_aload_n hx hb d_LA_law_203 rfl (lv_at hl 0 rfl) ?_
                refine lv_iload hx hb d_LA_law_204 (lv_at hl 4 rfl) ?_
                refine lv_iconst (v := (1 : Int32)) hx hb d_LA_law_206 (by decide) ?_
                refine lv_iadd hx hb d_LA_law_207 ?_
                obtain ⟨hi35, hf⟩ := mz_gd hf
                refine va_sld hx hb hX hbl hbA w.2.2.2 hi35 d_LA_law_208 ?_
                refine lv_aload_n hx hb d_LA_law_209 rfl (lv_at hl 0 rfl) ?_
                refine lv_iload hx hb d_LA_law_210 (lv_at hl 4 rfl) ?_
                refine lv_iconst (v := (2 : Int32)) hx hb d_LA_law_212 (by decide) ?_
                refine lv_iadd hx hb d_LA_law_213 ?_
                obtain ⟨hi36, hf⟩ := mz_gd hf
                refine va_sld hx hb hX hbl hbA w.2.2.2 hi36 d_LA_law_214 ?_
                refine lv_aload_n hx hb d_LA_law_215 rfl (lv_at hl 3 rfl) ?_
                obtain ⟨q37, hq38, hf⟩ := mz_bd hf
                refine lw_help (As := [.ref (adC 0), .int (xs (i + (1 : Int32)).toNatClampNeg), .int (xs (i + (2 : Int32)).toNatClampNeg), .ref o]) (rest := []) E w (ch_line l hT n (xs (i + (1 : Int32)).toNatClampNeg) (xs (i + (2 : Int32)).toNatClampNeg) tC q37 hq38) lk_line k_0 k_1120 k_1121 (n := 4) (by decide +kernel) ⟨⟨rfl, rfl⟩, (Nat.le_of_ble_eq_true rfl), (Nat.le_of_ble_eq_true rfl)⟩ rfl hl.1 rfl (Nat.le_of_ble_eq_true rfl) d_LA_law_216 ⟨by show _ + 1 ≤ 601024; omega, by show _ + 6 ≤ 7293034; omega⟩ (fun H locs w => ?_)
                refine lv_istore (lv' := [(5, .int q37.1), (0, .ref b), (1, .ref (adC 0)), (2, .ref (adM 0)), (3, .ref o), (4, .int i)]) hx hb d_LA_law_219 hl (by decide) rfl (fun ls hl => ?_)
                refine lv_aload_n hx hb d_LA_law_221 rfl (lv_at hl 3 rfl) ?_
                refine lv_aload_n hx hb d_LA_law_222 rfl (lv_at hl 1 rfl) ?_
                refine lv_iload hx hb d_LA_law_223 (lv_at hl 5 rfl) ?_
                refine lv_iconst (v := (1 : Int32)) hx hb d_LA_law_225 (by decide) ?_
                refine lv_iadd hx hb d_LA_law_226 ?_
                obtain ⟨hi39, hf⟩ := mz_gd hf
                refine va_sld hx hb hX hbl hbA w.2.2.2 hi39 d_LA_law_227 ?_
                refine lv_aload_n hx hb d_LA_law_228 rfl (lv_at hl 1 rfl) ?_
                refine lv_iload hx hb d_LA_law_229 (lv_at hl 5 rfl) ?_
                refine lv_iconst (v := (2 : Int32)) hx hb d_LA_law_231 (by decide) ?_
                refine lv_iadd hx hb d_LA_law_232 ?_
                obtain ⟨hi40, hf⟩ := mz_gd hf
                refine va_sld hx hb hX hbl hbA w.2.2.2 hi40 d_LA_law_233 ?_
                obtain ⟨q41, hq42, hf⟩ := mz_bd hf
                refine lw_callM (As := [.int (xs (i + (1 : Int32)).toNatClampNeg), .int (xs (i + (2 : Int32)).toNatClampNeg)]) (rest := []) E w (c_MO_line (fun _ _ _ _ _ _ => trivial) l n (xs (i + (1 : Int32)).toNatClampNeg) (xs (i + (2 : Int32)).toNatClampNeg) tM q41 hq42) rfl rfl k_1684 k_15 k_1681 k_1682 k_1683 hm_MO_line ⟨⟨rfl, rfl⟩, (Nat.le_of_ble_eq_true rfl), (Nat.le_of_ble_eq_true rfl)⟩ rfl hl.1 rfl (Nat.le_of_ble_eq_true rfl) d_LA_law_234 ⟨by show _ ≤ 601024; omega, by show _ ≤ 7293034; omega⟩ (st1 := [.int q41.1]) rfl (fun H locs w => ?_)
                refine lv_istore (lv' := [(6, .int q41.1), (5, .int q37.1), (0, .ref b), (1, .ref (adC 0)), (2, .ref (adM 0)), (3, .ref o), (4, .int i)]) hx hb d_LA_law_237 hl (by decide) rfl (fun ls hl => ?_)
                refine lv_goto (tgt := 322) hx hb d_LA_law_239 (by decide) ?_
                refine lv_iinc (v := (i + (3 : Int32))) (lv' := [(4, .int (i + (3 : Int32))), (6, .int q41.1), (5, .int q37.1), (0, .ref b), (1, .ref (adC 0)), (2, .ref (adM 0)), (3, .ref o)]) hx hb d_LA_law_322 hl (k := 6) rfl rfl (by decide) rfl (fun ls hl => ?_)
                refine lv_goto (tgt := 23) hx hb d_LA_law_325 (by decide) ?_
                exact ih (i + (3 : Int32)) q37.2.2 q41.2 (lh_g g q37.2.1) hf _ _ (by omega) (by omega) _ _ _ w (lv_sub hl [3, 4, 5, 6, 0] rfl)
              · have hf := mz_f hc34 hf
                by_cases hc43 : ((xs i.toNatClampNeg) &&& (7 : Int32)) = (5 : Int32)
                · have hf := mz_t hc43 hf
                  refine lv_tableIn (off := 203) (tgt := 242) hx hb d_LA_law_39 (by rw [hc43]; decide) (by rw [hc43]; decide) (by rw [hc43]; rfl) (by decide) ?_
                  refine lv_aload_n hx hb d_LA_law_242 rfl (lv_at hl 1 rfl) ?_
                  refine lv_aload_n hx hb d_LA_law_243 rfl (lv_at hl 0 rfl) ?_
                  refine lv_iload hx hb d_LA_law_244 (lv_at hl 4 rfl) ?_
                  refine lv_iconst (v := (1 : Int32)) hx hb d_LA_law_246 (by decide) ?_
                  refine lv_iadd hx hb d_LA_law_247 ?_
                  obtain ⟨hi44, hf⟩ := mz_gd hf
                  refine va_sld hx hb hX hbl hbA w.2.2.2 hi44 d_LA_law_248 ?_
                  refine lv_aload_n hx hb d_LA_law_249 rfl (lv_at hl 0 rfl) ?_
                  refine lv_iload hx hb d_LA_law_250 (lv_at hl 4 rfl) ?_
                  refine lv_iconst (v := (2 : Int32)) hx hb d_LA_law_252 (by decide) ?_
                  refine lv_iadd hx hb d_LA_law_253 ?_
                  obtain ⟨hi45, hf⟩ := mz_gd hf
                  refine va_sld hx hb hX hbl hbA w.2.2.2 hi45 d_LA_law_254 ?_
                  refine lv_aload_n hx hb d_LA_law_255 rfl (lv_at hl 3 rfl) ?_
                  obtain ⟨q46, hq47, hf⟩ := mz_bd hf
                  refine lw_help (As := [.ref (adC 0), .int (xs (i + (1 : Int32)).toNatClampNeg), .int (xs (i + (2 : Int32)).toNatClampNeg), .ref o]) (rest := []) E w (ch_constant l hT n (xs (i + (1 : Int32)).toNatClampNeg) (xs (i + (2 : Int32)).toNatClampNeg) tC q46 hq47) lk_constant k_0 k_1153 k_1154 (n := 4) (by decide +kernel) ⟨⟨rfl, rfl⟩, (Nat.le_of_ble_eq_true rfl), (Nat.le_of_ble_eq_true rfl)⟩ rfl hl.1 rfl (Nat.le_of_ble_eq_true rfl) d_LA_law_256 ⟨by show _ + 1 ≤ 601024; omega, by show _ + 6 ≤ 7293034; omega⟩ (fun H locs w => ?_)
                  refine lv_istore (lv' := [(5, .int q46.1), (0, .ref b), (1, .ref (adC 0)), (2, .ref (adM 0)), (3, .ref o), (4, .int i)]) hx hb d_LA_law_259 hl (by decide) rfl (fun ls hl => ?_)
                  refine lv_aload_n hx hb d_LA_law_261 rfl (lv_at hl 3 rfl) ?_
                  refine lv_aload_n hx hb d_LA_law_262 rfl (lv_at hl 1 rfl) ?_
                  refine lv_iload hx hb d_LA_law_263 (lv_at hl 5 rfl) ?_
                  refine lv_iconst (v := (1 : Int32)) hx hb d_LA_law_265 (by decide) ?_
                  refine lv_iadd hx hb d_LA_law_266 ?_
                  obtain ⟨hi48, hf⟩ := mz_gd hf
                  refine va_sld hx hb hX hbl hbA w.2.2.2 hi48 d_LA_law_267 ?_
                  refine lv_aload_n hx hb d_LA_law_268 rfl (lv_at hl 1 rfl) ?_
                  refine lv_iload hx hb d_LA_law_269 (lv_at hl 5 rfl) ?_
                  refine lv_iconst (v := (2 : Int32)) hx hb d_LA_law_271 (by decide) ?_
                  refine lv_iadd hx hb d_LA_law_272 ?_
                  obtain ⟨hi49, hf⟩ := mz_gd hf
                  refine va_sld hx hb hX hbl hbA w.2.2.2 hi49 d_LA_law_273 ?_
                  obtain ⟨q50, hq51, hf⟩ := mz_bd hf
                  refine lw_callM (As := [.int (xs (i + (1 : Int32)).toNatClampNeg), .int (xs (i + (2 : Int32)).toNatClampNeg)]) (rest := []) E w (c_MO_constant (fun _ _ _ _ _ _ => trivial) l n (xs (i + (1 : Int32)).toNatClampNeg) (xs (i + (2 : Int32)).toNatClampNeg) tM q50 hq51) rfl rfl k_1688 k_15 k_1685 k_1686 k_1687 hm_MO_constant ⟨⟨rfl, rfl⟩, (Nat.le_of_ble_eq_true rfl), (Nat.le_of_ble_eq_true rfl)⟩ rfl hl.1 rfl (Nat.le_of_ble_eq_true rfl) d_LA_law_274 ⟨by show _ ≤ 601024; omega, by show _ ≤ 7293034; omega⟩ (st1 := [.int q50.1]) rfl (fun H locs w => ?_)
                  refine lv_istore (lv' := [(6, .int q50.1), (5, .int q46.1), (0, .ref b), (1, .ref (adC 0)), (2, .ref (adM 0)), (3, .ref o), (4, .int i)]) hx hb d_LA_law_277 hl (by decide) rfl (fun ls hl => ?_)
                  refine lv_goto (tgt := 322) hx hb d_LA_law_279 (by decide) ?_
                  refine lv_iinc (v := (i + (3 : Int32))) (lv' := [(4, .int (i + (3 : Int32))), (6, .int q50.1), (5, .int q46.1), (0, .ref b), (1, .ref (adC 0)), (2, .ref (adM 0)), (3, .ref o)]) hx hb d_LA_law_322 hl (k := 6) rfl rfl (by decide) rfl (fun ls hl => ?_)
                  refine lv_goto (tgt := 23) hx hb d_LA_law_325 (by decide) ?_
                  exact ih (i + (3 : Int32)) q46.2.2 q50.2 (lh_g g q46.2.1) hf _ _ (by omega) (by omega) _ _ _ w (lv_sub hl [3, 4, 5, 6, 0] rfl)
                · have hf := mz_f hc43 hf
                  by_cases hc52 : ((xs i.toNatClampNeg) &&& (7 : Int32)) = (6 : Int32)
                  · have hf := mz_t hc52 hf
                    refine lv_tableIn (off := 243) (tgt := 282) hx hb d_LA_law_39 (by rw [hc52]; decide) (by rw [hc52]; decide) (by rw [hc52]; rfl) (by decide) ?_
                    refine lv_aload_n hx hb d_LA_law_282 rfl (lv_at hl 1 rfl) ?_
                    refine lv_aload_n hx hb d_LA_law_283 rfl (lv_at hl 0 rfl) ?_
                    refine lv_iload hx hb d_LA_law_284 (lv_at hl 4 rfl) ?_
                    refine lv_iconst (v := (1 : Int32)) hx hb d_LA_law_286 (by decide) ?_
                    refine lv_iadd hx hb d_LA_law_287 ?_
                    obtain ⟨hi53, hf⟩ := mz_gd hf
                    refine va_sld hx hb hX hbl hbA w.2.2.2 hi53 d_LA_law_288 ?_
                    refine lv_aload_n hx hb d_LA_law_289 rfl (lv_at hl 0 rfl) ?_
                    refine lv_iload hx hb d_LA_law_290 (lv_at hl 4 rfl) ?_
                    refine lv_iconst (v := (2 : Int32)) hx hb d_LA_law_292 (by decide) ?_
                    refine lv_iadd hx hb d_LA_law_293 ?_
                    obtain ⟨hi54, hf⟩ := mz_gd hf
                    refine va_sld hx hb hX hbl hbA w.2.2.2 hi54 d_LA_law_294 ?_
                    refine lv_aload_n hx hb d_LA_law_295 rfl (lv_at hl 3 rfl) ?_
                    obtain ⟨q55, hq56, hf⟩ := mz_bd hf
                    refine lw_help (As := [.ref (adC 0), .int (xs (i + (1 : Int32)).toNatClampNeg), .int (xs (i + (2 : Int32)).toNatClampNeg), .ref o]) (rest := []) E w (ch_macro l hT n (xs (i + (1 : Int32)).toNatClampNeg) (xs (i + (2 : Int32)).toNatClampNeg) tC q55 hq56) lk_macro k_0 k_1163 k_1164 (n := 4) (by decide +kernel) ⟨⟨rfl, rfl⟩, (Nat.le_of_ble_eq_true rfl), (Nat.le_of_ble_eq_true rfl)⟩ rfl hl.1 rfl (Nat.le_of_ble_eq_true rfl) d_LA_law_296 ⟨by show _ + 1 ≤ 601024; omega, by show _ + 6 ≤ 7293034; omega⟩ (fun H locs w => ?_)
                    refine lv_istore (lv' := [(5, .int q55.1), (0, .ref b), (1, .ref (adC 0)), (2, .ref (adM 0)), (3, .ref o), (4, .int i)]) hx hb d_LA_law_299 hl (by decide) rfl (fun ls hl => ?_)
                    refine lv_aload_n hx hb d_LA_law_301 rfl (lv_at hl 3 rfl) ?_
                    refine lv_aload_n hx hb d_LA_law_302 rfl (lv_at hl 1 rfl) ?_
                    refine lv_iload hx hb d_LA_law_303 (lv_at hl 5 rfl) ?_
                    refine lv_iconst (v := (1 : Int32)) hx hb d_LA_law_305 (by decide) ?_
                    refine lv_iadd hx hb d_LA_law_306 ?_
                    obtain ⟨hi57, hf⟩ := mz_gd hf
                    refine va_sld hx hb hX hbl hbA w.2.2.2 hi57 d_LA_law_307 ?_
                    refine lv_aload_n hx hb d_LA_law_308 rfl (lv_at hl 1 rfl) ?_
                    refine lv_iload hx hb d_LA_law_309 (lv_at hl 5 rfl) ?_
                    refine lv_iconst (v := (2 : Int32)) hx hb d_LA_law_311 (by decide) ?_
                    refine lv_iadd hx hb d_LA_law_312 ?_
                    obtain ⟨hi58, hf⟩ := mz_gd hf
                    refine va_sld hx hb hX hbl hbA w.2.2.2 hi58 d_LA_law_313 ?_
                    obtain ⟨q59, hq60, hf⟩ := mz_bd hf
                    refine lw_callM (As := [.int (xs (i + (1 : Int32)).toNatClampNeg), .int (xs (i + (2 : Int32)).toNatClampNeg)]) (rest := []) E w (c_MO_macro (fun _ _ _ _ _ _ => trivial) l n (xs (i + (1 : Int32)).toNatClampNeg) (xs (i + (2 : Int32)).toNatClampNeg) tM q59 hq60) rfl rfl k_1696 k_15 k_1693 k_1694 k_1695 hm_MO_macro ⟨⟨rfl, rfl⟩, (Nat.le_of_ble_eq_true rfl), (Nat.le_of_ble_eq_true rfl)⟩ rfl hl.1 rfl (Nat.le_of_ble_eq_true rfl) d_LA_law_314 ⟨by show _ ≤ 601024; omega, by show _ ≤ 7293034; omega⟩ (st1 := [.int q59.1]) rfl (fun H locs w => ?_)
                    refine lv_istore (lv' := [(6, .int q59.1), (5, .int q55.1), (0, .ref b), (1, .ref (adC 0)), (2, .ref (adM 0)), (3, .ref o), (4, .int i)]) hx hb d_LA_law_317 hl (by decide) rfl (fun ls hl => ?_)
                    refine lv_goto (tgt := 322) hx hb d_LA_law_319 (by decide) ?_
                    refine lv_iinc (v := (i + (3 : Int32))) (lv' := [(4, .int (i + (3 : Int32))), (6, .int q59.1), (5, .int q55.1), (0, .ref b), (1, .ref (adC 0)), (2, .ref (adM 0)), (3, .ref o)]) hx hb d_LA_law_322 hl (k := 6) rfl rfl (by decide) rfl (fun ls hl => ?_)
                    refine lv_goto (tgt := 23) hx hb d_LA_law_325 (by decide) ?_
                    exact ih (i + (3 : Int32)) q55.2.2 q59.2 (lh_g g q55.2.1) hf _ _ (by omega) (by omega) _ _ _ w (lv_sub hl [3, 4, 5, 6, 0] rfl)
                  · have hf := mz_f hc52 hf
                    refine lv_tableOut (tgt := 322) hx hb d_LA_law_39 (by have := lv_neT (a := 0) hc3 rfl; have := lv_neT (a := 1) hc15 rfl; have := lv_neT (a := 2) hc22 rfl; have := lv_neT (a := 3) hc27 rfl; have := lv_neT (a := 4) hc34 rfl; have := lv_neT (a := 5) hc43 rfl; have := lv_neT (a := 6) hc52 rfl; omega) (by decide) ?_
                    refine lv_iinc (v := (i + (3 : Int32))) (lv' := [(4, .int (i + (3 : Int32))), (0, .ref b), (1, .ref (adC 0)), (2, .ref (adM 0)), (3, .ref o)]) hx hb d_LA_law_322 hl (k := 4) rfl rfl (by decide) rfl (fun ls hl => ?_)
                    refine lv_goto (tgt := 23) hx hb d_LA_law_325 (by decide) ?_
                    exact ih (i + (3 : Int32)) tC tM g hf _ _ (by omega) (by omega) _ _ _ w (lv_sub hl [1, 2, 3, 4, 0] rfl)
