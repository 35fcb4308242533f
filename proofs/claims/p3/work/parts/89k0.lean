/-! TOTAL: written by vcg.py -/
set_option maxRecDepth 4000 in
set_option maxHeartbeats 8000000 in
theorem s_MO_direct {n : Nat} {L : Int32} (hn : 8589934592 ≤ n) {x1 : Int32} {x2 : Int32} {t : mz_St}  (ci : HI L t) (i0 : (((mz_gI t 0 34).toInt ≤ 1 ∧ (mz_gI t 0 48).toInt ≤ 0) ∨ (2 ≤ (mz_gI t 0 34).toInt ∧ (mz_gI t 0 48).toInt ≤ 2390 + 310 * (mz_gI t 0 34).toInt))) (i1 : (((mz_gI t 0 34).toInt ≤ 1 ∧ (mz_gI t 0 51).toInt ≤ 0) ∨ (2 ≤ (mz_gI t 0 34).toInt ∧ (mz_gI t 0 51).toInt ≤ 3310 * (mz_gI t 0 34).toInt - 610))) (i2 : 1 ≤ (mz_gI t 0 34).toInt) (i3 : (¬ (mz_gI t 0 34).toInt = 1 ∨ (mz_gI t 0 60).toInt ≤ 3000)) (i4 : ((mz_gI t 0 34).toInt ≤ 1 ∨ (mz_gI t 0 60).toInt ≤ 300)) (i5 : (mz_gI t 0 61).toInt ≤ (mz_gI t 0 60).toInt) (i6 : (¬ (mz_gI t 0 34).toInt = 1 ∨ (mz_gI t 0 60).toInt ≤ (mz_gI t 3 x2.toNatClampNeg).toInt - (mz_gI t 2 x2.toNatClampNeg).toInt)) (i7 : 0 ≤ x2.toInt) (i8 : x2.toInt ≤ 3000) : Tp (f_MO_direct n x1 x2 t) (fun r => HI L r ∧ (0 < (mz_gI r 0 6).toInt ∨ (((mz_gI r 0 34).toInt ≤ 1 ∧ (mz_gI r 0 48).toInt ≤ 0) ∨ (2 ≤ (mz_gI r 0 34).toInt ∧ (mz_gI r 0 48).toInt ≤ 2390 + 310 * (mz_gI r 0 34).toInt))) ∧ (0 < (mz_gI r 0 6).toInt ∨ (((mz_gI r 0 34).toInt ≤ 1 ∧ (mz_gI r 0 51).toInt ≤ 0) ∨ (2 ≤ (mz_gI r 0 34).toInt ∧ (mz_gI r 0 51).toInt ≤ 3310 * (mz_gI r 0 34).toInt - 610))) ∧ (0 < (mz_gI r 0 6).toInt ∨ (mz_gI t 0 8).toInt ≤ (mz_gI r 0 8).toInt)) := by
  unfold f_MO_direct
  have b1931 := FX_0_34 (HI_FX ci)
  have b1932 := FX_0_48 (HI_FX ci)
  have b1933 := FX_0_51 (HI_FX ci)
  have b1934 := HI_g23 ci (c := 0) (p := 60) rfl
  have b1935 := HI_g24 ci (c := 0) (p := 61) rfl
  have b1936 := FX_3 (HI_FX ci) x2.toNatClampNeg
  have b1937 := FX_l (HI_FX ci) x2.toNatClampNeg
  have b1938 := FX_2 (HI_FX ci) x2.toNatClampNeg
  have b1939 := FX_0_8 (HI_FX ci)
  refine Tp_if (fun h1940 => ?_) (fun h1940 => ?_)
  · have g1941 := ti_q h1940
    have i1942 := ti_rg x1
    have l1943 : ((1 : Int32)).toInt = 1 := rfl
    refine Tp_bi (s_MO_setConstant hn (HI_MI ci) (by omega) (t := t)) (fun q1944 h1945 => ?_)
    have mi1947 := h1945
    have ci1946 := HI_tr ci mi1947
    refine Tp_so ?_
    have b1948 := HI_g29 ci1946 (c := 0) (p := 6) rfl
    have b1949 := HI_g29 ci (c := 0) (p := 6) rfl
    have b1950 := FX_0_8 (HI_FX ci1946)
    have e1951 : (mz_gI q1944 0 8).toInt = (mz_gI t 0 8).toInt := MI_13 mi1947 rfl
    have b1952 := FX_0_34 (HI_FX ci1946)
    have e1953 : (mz_gI q1944 0 34).toInt = (mz_gI t 0 34).toInt := MI_13 mi1947 rfl
    have b1954 := FX_0_48 (HI_FX ci1946)
    have e1955 : (mz_gI q1944 0 48).toInt = (mz_gI t 0 48).toInt := MI_13 mi1947 rfl
    have b1956 := FX_0_51 (HI_FX ci1946)
    have e1957 : (mz_gI q1944 0 51).toInt = (mz_gI t 0 51).toInt := MI_13 mi1947 rfl
    refine ⟨ci1946, ?_, ?_, ?_⟩
    · (try dsimp only) <;> first | omega | assumption
    · (try dsimp only) <;> first | omega | assumption
    · (try dsimp only) <;> first | omega | assumption
  · have g1958 := ti_nq h1940
    have i1959 := ti_rg x1
    have l1960 : ((1 : Int32)).toInt = 1 := rfl
    refine Tp_if (fun h1961 => ?_) (fun h1961 => ?_)
    · have g1962 := ti_q h1961
      have l1963 : ((2 : Int32)).toInt = 2 := rfl
      refine Tp_bi (s_MO_forgetConstant hn (HI_MI ci)  (t := t)) (fun q1964 h1965 => ?_)
      have mi1967 := h1965
      have ci1966 := HI_tr ci mi1967
      refine Tp_so ?_
      have b1968 := HI_g29 ci1966 (c := 0) (p := 6) rfl
      have b1969 := HI_g29 ci (c := 0) (p := 6) rfl
      have b1970 := FX_0_8 (HI_FX ci1966)
      have e1971 : (mz_gI q1964 0 8).toInt = (mz_gI t 0 8).toInt := MI_13 mi1967 rfl
      have b1972 := FX_0_34 (HI_FX ci1966)
      have e1973 : (mz_gI q1964 0 34).toInt = (mz_gI t 0 34).toInt := MI_13 mi1967 rfl
      have b1974 := FX_0_48 (HI_FX ci1966)
      have e1975 : (mz_gI q1964 0 48).toInt = (mz_gI t 0 48).toInt := MI_13 mi1967 rfl
      have b1976 := FX_0_51 (HI_FX ci1966)
      have e1977 : (mz_gI q1964 0 51).toInt = (mz_gI t 0 51).toInt := MI_13 mi1967 rfl
      refine ⟨ci1966, ?_, ?_, ?_⟩
      · (try dsimp only) <;> first | omega | assumption
      · (try dsimp only) <;> first | omega | assumption
      · (try dsimp only) <;> first | omega | assumption
    · have g1978 := ti_nq h1961
      have l1979 : ((2 : Int32)).toInt = 2 := rfl
      refine Tp_if (fun h1980 => ?_) (fun h1980 => ?_)
      · have g1981 := ti_q h1980
        have l1982 : ((3 : Int32)).toInt = 3 := rfl
        have b1985 := HI_g2 ci (c := 0) (p := 62) rfl
        refine Tp_bi (s_MO_wholeValue hn (HI_MI ci) (by omega) (t := t)) (fun q1983 h1984 => ?_)
        have mi1987 := h1984
        have ci1986 := HI_tr ci mi1987
        refine Tp_if (fun h1988 => ?_) (fun h1988 => ?_)
        · have g1989 := ti_q h1988
          have b1990 := HI_g29 ci1986 (c := 0) (p := 6) rfl
          have l1991 : (0 : Int32).toInt = 0 := rfl
          refine Tp_if (fun h1992 => ?_) (fun h1992 => ?_)
          · have g1993 := ti_q h1992
            have i1994 := ti_rg q1983.1
            unfold f_MO_direct_108
            have l1997 : ((0 : Int32)).toInt = 0 := rfl
            have b1998 := FX_0_34 (HI_FX ci1986)
            have e1999 : (mz_gI q1983.2 0 34).toInt = (mz_gI t 0 34).toInt := MI_13 mi1987 rfl
            have b2000 := FX_0_48 (HI_FX ci1986)
            have e2001 : (mz_gI q1983.2 0 48).toInt = (mz_gI t 0 48).toInt := MI_13 mi1987 rfl
            have b2002 := FX_0_51 (HI_FX ci1986)
            have e2003 : (mz_gI q1983.2 0 51).toInt = (mz_gI t 0 51).toInt := MI_13 mi1987 rfl
            refine Tp_bi (s_MO_openIf hn ci1986 (by omega) (by omega) (by omega) (t := q1983.2) (x1 := (0 : Int32)) (x2 := (0 : Int32))) (fun q1995 h1996 => ?_)
            obtain ⟨ci2004, p2005, p2006, p2007⟩ := h1996
            have b2008 := FX_0_8 (HI_FX ci1986)
            have e2009 : (mz_gI q1983.2 0 8).toInt = (mz_gI t 0 8).toInt := MI_13 mi1987 rfl
            have b2010 := HI_g29 ci2004 (c := 0) (p := 6) rfl
            have b2011 := FX_0_8 (HI_FX ci2004)
            have b2012 := FX_0_34 (HI_FX ci2004)
            have b2013 := FX_0_48 (HI_FX ci2004)
            have b2014 := FX_0_51 (HI_FX ci2004)
            refine Tp_so ?_
            have b2015 := HI_g29 ci (c := 0) (p := 6) rfl
            refine ⟨ci2004, ?_, ?_, ?_⟩
            · (try dsimp only) <;> first | omega | assumption
            · (try dsimp only) <;> first | omega | assumption
            · (try dsimp only) <;> first | omega | assumption
          · have g2016 := ti_nq h1992
            have i2017 := ti_rg q1983.1
            unfold f_MO_direct_108
            have l2020 : ((0 : Int32)).toInt = 0 := rfl
            have b2021 := FX_0_34 (HI_FX ci1986)
            have e2022 : (mz_gI q1983.2 0 34).toInt = (mz_gI t 0 34).toInt := MI_13 mi1987 rfl
            have b2023 := FX_0_48 (HI_FX ci1986)
            have e2024 : (mz_gI q1983.2 0 48).toInt = (mz_gI t 0 48).toInt := MI_13 mi1987 rfl
            have b2025 := FX_0_51 (HI_FX ci1986)
            have e2026 : (mz_gI q1983.2 0 51).toInt = (mz_gI t 0 51).toInt := MI_13 mi1987 rfl
            refine Tp_bi (s_MO_openIf hn ci1986 (by omega) (by omega) (by omega) (t := q1983.2) (x1 := (1 : Int32)) (x2 := (0 : Int32))) (fun q2018 h2019 => ?_)
            obtain ⟨ci2027, p2028, p2029, p2030⟩ := h2019
            have b2031 := FX_0_8 (HI_FX ci1986)
            have e2032 : (mz_gI q1983.2 0 8).toInt = (mz_gI t 0 8).toInt := MI_13 mi1987 rfl
            have b2033 := HI_g29 ci2027 (c := 0) (p := 6) rfl
            have b2034 := FX_0_8 (HI_FX ci2027)
            have b2035 := FX_0_34 (HI_FX ci2027)
            have b2036 := FX_0_48 (HI_FX ci2027)
            have b2037 := FX_0_51 (HI_FX ci2027)
            refine Tp_so ?_
            have b2038 := HI_g29 ci (c := 0) (p := 6) rfl
            refine ⟨ci2027, ?_, ?_, ?_⟩
            · (try dsimp only) <;> first | omega | assumption
            · (try dsimp only) <;> first | omega | assumption
            · (try dsimp only) <;> first | omega | assumption
        · have g2039 := ti_nq h1988
          have b2040 := HI_g29 ci1986 (c := 0) (p := 6) rfl
          have l2041 : (0 : Int32).toInt = 0 := rfl
          refine Tp_so ?_
          have b2042 := HI_g29 ci (c := 0) (p := 6) rfl
          have b2043 := FX_0_8 (HI_FX ci1986)
          have e2044 : (mz_gI q1983.2 0 8).toInt = (mz_gI t 0 8).toInt := MI_13 mi1987 rfl
          have b2045 := FX_0_34 (HI_FX ci1986)
          have e2046 : (mz_gI q1983.2 0 34).toInt = (mz_gI t 0 34).toInt := MI_13 mi1987 rfl
          have b2047 := FX_0_48 (HI_FX ci1986)
          have e2048 : (mz_gI q1983.2 0 48).toInt = (mz_gI t 0 48).toInt := MI_13 mi1987 rfl
          have b2049 := FX_0_51 (HI_FX ci1986)
          have e2050 : (mz_gI q1983.2 0 51).toInt = (mz_gI t 0 51).toInt := MI_13 mi1987 rfl
          refine ⟨ci1986, ?_, ?_, ?_⟩
          · (try dsimp only) <;> first | omega | assumption
          · (try dsimp only) <;> first | omega | assumption
          · (try dsimp only) <;> first | omega | assumption
      · have g2051 := ti_nq h1980
        have l2052 : ((3 : Int32)).toInt = 3 := rfl
        refine Tp_if (fun h2053 => ?_) (fun h2053 => ?_)
        · have g2054 := ti_q h2053
          have l2055 : ((4 : Int32)).toInt = 4 := rfl
          refine Tp_bi (s_MO_ifSame hn ci (by omega) (by omega) (by omega) (by omega) (by omega) (by omega) (t := t)) (fun q2056 h2057 => ?_)
          obtain ⟨ci2058, p2059, p2060, p2061⟩ := h2057
          have b2062 := HI_g29 ci2058 (c := 0) (p := 6) rfl
          have b2063 := HI_g29 ci (c := 0) (p := 6) rfl
          have b2064 := FX_0_8 (HI_FX ci2058)
          have b2065 := FX_0_34 (HI_FX ci2058)
          have b2066 := FX_0_48 (HI_FX ci2058)
          have b2067 := FX_0_51 (HI_FX ci2058)
          refine Tp_so ?_
          refine ⟨ci2058, ?_, ?_, ?_⟩
          · (try dsimp only) <;> first | omega | assumption
          · (try dsimp only) <;> first | omega | assumption
          · (try dsimp only) <;> first | omega | assumption
        · have g2068 := ti_nq h2053
          have l2069 : ((4 : Int32)).toInt = 4 := rfl
          refine Tp_if (fun h2070 => ?_) (fun h2070 => ?_)
          · have g2071 := ti_q h2070
            have l2072 : ((5 : Int32)).toInt = 5 := rfl
            unfold f_MO_direct_164
            have i2075 := ti_rg (mz_gI t 0 63)
            refine Tp_bi (s_MO_failL hn ci (by omega) (t := t) (x1 := (5 : Int32)) (x2 := mz_gI t 0 63)) (fun q2073 h2074 => ?_)
            obtain ⟨ci2076, E2077, p2078, p2079⟩ := h2074
            have b2080 := HI_g29 ci2076 (c := 0) (p := 6) rfl
            have b2081 := FX_0_8 (HI_FX ci2076)
            have b2082 := HI_g29 ci (c := 0) (p := 6) rfl
            have b2083 := HI_g23 ci2076 (c := 0) (p := 60) rfl
            have e2084 : (mz_gI q2073 0 60).toInt = (mz_gI t 0 60).toInt := by rw [E2077 _ _ (by simp)]
            refine Tp_so ?_
            have b2085 := FX_0_34 (HI_FX ci2076)
            have e2086 : (mz_gI q2073 0 34).toInt = (mz_gI t 0 34).toInt := by rw [E2077 _ _ (by simp)]
            have b2087 := FX_0_48 (HI_FX ci2076)
            have e2088 : (mz_gI q2073 0 48).toInt = (mz_gI t 0 48).toInt := by rw [E2077 _ _ (by simp)]
            have b2089 := FX_0_51 (HI_FX ci2076)
            have e2090 : (mz_gI q2073 0 51).toInt = (mz_gI t 0 51).toInt := by rw [E2077 _ _ (by simp)]
            refine ⟨ci2076, ?_, ?_, ?_⟩
            · (try dsimp only) <;> first | omega | assumption
            · (try dsimp only) <;> first | omega | assumption
            · (try dsimp only) <;> first | omega | assumption
          · have g2091 := ti_nq h2070
            have l2092 : ((5 : Int32)).toInt = 5 := rfl
            refine Tp_if (fun h2093 => ?_) (fun h2093 => ?_)
            · have g2094 := ti_q h2093
              have l2095 : ((6 : Int32)).toInt = 6 := rfl
              unfold f_MO_direct_164
              have i2098 := ti_rg (mz_gI t 0 63)
              refine Tp_bi (s_MO_failL hn ci (by omega) (t := t) (x1 := (5 : Int32)) (x2 := mz_gI t 0 63)) (fun q2096 h2097 => ?_)
              obtain ⟨ci2099, E2100, p2101, p2102⟩ := h2097
              have b2103 := HI_g29 ci2099 (c := 0) (p := 6) rfl
              have b2104 := FX_0_8 (HI_FX ci2099)
              have b2105 := HI_g29 ci (c := 0) (p := 6) rfl
              have b2106 := HI_g23 ci2099 (c := 0) (p := 60) rfl
              have e2107 : (mz_gI q2096 0 60).toInt = (mz_gI t 0 60).toInt := by rw [E2100 _ _ (by simp)]
              refine Tp_so ?_
              have b2108 := FX_0_34 (HI_FX ci2099)
              have e2109 : (mz_gI q2096 0 34).toInt = (mz_gI t 0 34).toInt := by rw [E2100 _ _ (by simp)]
              have b2110 := FX_0_48 (HI_FX ci2099)
              have e2111 : (mz_gI q2096 0 48).toInt = (mz_gI t 0 48).toInt := by rw [E2100 _ _ (by simp)]
              have b2112 := FX_0_51 (HI_FX ci2099)
              have e2113 : (mz_gI q2096 0 51).toInt = (mz_gI t 0 51).toInt := by rw [E2100 _ _ (by simp)]
              refine ⟨ci2099, ?_, ?_, ?_⟩
              · (try dsimp only) <;> first | omega | assumption
              · (try dsimp only) <;> first | omega | assumption
              · (try dsimp only) <;> first | omega | assumption
            · have g2114 := ti_nq h2093
              have l2115 : ((6 : Int32)).toInt = 6 := rfl
              refine Tp_if (fun h2116 => ?_) (fun h2116 => ?_)
              · have g2117 := ti_q h2116
                have l2118 : ((7 : Int32)).toInt = 7 := rfl
                unfold f_MO_direct_164
                have i2121 := ti_rg (mz_gI t 0 63)
                refine Tp_bi (s_MO_failL hn ci (by omega) (t := t) (x1 := (5 : Int32)) (x2 := mz_gI t 0 63)) (fun q2119 h2120 => ?_)
                obtain ⟨ci2122, E2123, p2124, p2125⟩ := h2120
                have b2126 := HI_g29 ci2122 (c := 0) (p := 6) rfl
                have b2127 := FX_0_8 (HI_FX ci2122)
                have b2128 := HI_g29 ci (c := 0) (p := 6) rfl
                have b2129 := HI_g23 ci2122 (c := 0) (p := 60) rfl
                have e2130 : (mz_gI q2119 0 60).toInt = (mz_gI t 0 60).toInt := by rw [E2123 _ _ (by simp)]
                refine Tp_so ?_
                have b2131 := FX_0_34 (HI_FX ci2122)
                have e2132 : (mz_gI q2119 0 34).toInt = (mz_gI t 0 34).toInt := by rw [E2123 _ _ (by simp)]
                have b2133 := FX_0_48 (HI_FX ci2122)
                have e2134 : (mz_gI q2119 0 48).toInt = (mz_gI t 0 48).toInt := by rw [E2123 _ _ (by simp)]
                have b2135 := FX_0_51 (HI_FX ci2122)
                have e2136 : (mz_gI q2119 0 51).toInt = (mz_gI t 0 51).toInt := by rw [E2123 _ _ (by simp)]
                refine ⟨ci2122, ?_, ?_, ?_⟩
                · (try dsimp only) <;> first | omega | assumption
                · (try dsimp only) <;> first | omega | assumption
                · (try dsimp only) <;> first | omega | assumption
              · have g2137 := ti_nq h2116
                have l2138 : ((7 : Int32)).toInt = 7 := rfl
                refine Tp_if (fun h2139 => ?_) (fun h2139 => ?_)
                · have g2140 := ti_q h2139
                  have l2141 : ((8 : Int32)).toInt = 8 := rfl
                  have i2144 := ti_rg x2
                  refine Tp_bi (s_MO_define hn ci (by omega) (by omega) (by omega) (by omega) (by omega) (by omega) (by omega) (t := t) (x1 := x2)) (fun q2142 h2143 => ?_)
                  obtain ⟨ci2145, p2146, p2147, p2148⟩ := h2143
                  have b2149 := HI_g29 ci2145 (c := 0) (p := 6) rfl
                  have b2150 := HI_g29 ci (c := 0) (p := 6) rfl
                  have b2151 := FX_0_8 (HI_FX ci2145)
                  have b2152 := FX_0_34 (HI_FX ci2145)
                  have b2153 := FX_0_48 (HI_FX ci2145)
                  have b2154 := FX_0_51 (HI_FX ci2145)
                  refine Tp_so ?_
                  refine ⟨ci2145, ?_, ?_, ?_⟩
                  · (try dsimp only) <;> first | omega | assumption
                  · (try dsimp only) <;> first | omega | assumption
                  · (try dsimp only) <;> first | omega | assumption
                · have g2155 := ti_nq h2139
                  have l2156 : ((8 : Int32)).toInt = 8 := rfl
                  refine Tp_if (fun h2157 => ?_) (fun h2157 => ?_)
                  · have g2158 := ti_q h2157
                    have l2159 : ((9 : Int32)).toInt = 9 := rfl
                    unfold f_MO_direct_164
                    have i2162 := ti_rg (mz_gI t 0 63)
                    refine Tp_bi (s_MO_failL hn ci (by omega) (t := t) (x1 := (5 : Int32)) (x2 := mz_gI t 0 63)) (fun q2160 h2161 => ?_)
                    obtain ⟨ci2163, E2164, p2165, p2166⟩ := h2161
                    have b2167 := HI_g29 ci2163 (c := 0) (p := 6) rfl
                    have b2168 := FX_0_8 (HI_FX ci2163)
                    have b2169 := HI_g29 ci (c := 0) (p := 6) rfl
                    have b2170 := HI_g23 ci2163 (c := 0) (p := 60) rfl
                    have e2171 : (mz_gI q2160 0 60).toInt = (mz_gI t 0 60).toInt := by rw [E2164 _ _ (by simp)]
                    refine Tp_so ?_
                    have b2172 := FX_0_34 (HI_FX ci2163)
                    have e2173 : (mz_gI q2160 0 34).toInt = (mz_gI t 0 34).toInt := by rw [E2164 _ _ (by simp)]
                    have b2174 := FX_0_48 (HI_FX ci2163)
                    have e2175 : (mz_gI q2160 0 48).toInt = (mz_gI t 0 48).toInt := by rw [E2164 _ _ (by simp)]
                    have b2176 := FX_0_51 (HI_FX ci2163)
                    have e2177 : (mz_gI q2160 0 51).toInt = (mz_gI t 0 51).toInt := by rw [E2164 _ _ (by simp)]
                    refine ⟨ci2163, ?_, ?_, ?_⟩
                    · (try dsimp only) <;> first | omega | assumption
                    · (try dsimp only) <;> first | omega | assumption
                    · (try dsimp only) <;> first | omega | assumption
                  · have g2178 := ti_nq h2157
                    have l2179 : ((9 : Int32)).toInt = 9 := rfl
                    refine Tp_if (fun h2180 => ?_) (fun h2180 => ?_)
                    · have g2181 := ti_q h2180
                      have l2182 : ((10 : Int32)).toInt = 10 := rfl
                      have b2185 := HI_g2 ci (c := 0) (p := 62) rfl
                      refine Tp_bi (s_MO_repeat hn ci (by omega) (by omega) (by omega) (by omega) (t := t)) (fun q2183 h2184 => ?_)
                      obtain ⟨ci2186, p2187, p2188, p2189⟩ := h2184
                      have b2190 := HI_g29 ci2186 (c := 0) (p := 6) rfl
                      have b2191 := HI_g29 ci (c := 0) (p := 6) rfl
                      have b2192 := FX_0_8 (HI_FX ci2186)
                      have b2193 := FX_0_34 (HI_FX ci2186)
                      have b2194 := FX_0_48 (HI_FX ci2186)
                      have b2195 := FX_0_51 (HI_FX ci2186)
                      refine Tp_so ?_
                      refine ⟨ci2186, ?_, ?_, ?_⟩
                      · (try dsimp only) <;> first | omega | assumption
                      · (try dsimp only) <;> first | omega | assumption
                      · (try dsimp only) <;> first | omega | assumption
                    · have g2196 := ti_nq h2180
                      have l2197 : ((10 : Int32)).toInt = 10 := rfl
                      refine Tp_if (fun h2198 => ?_) (fun h2198 => ?_)
                      · have g2199 := ti_q h2198
                        have l2200 : ((11 : Int32)).toInt = 11 := rfl
                        refine Tp_bi (s_MO_each hn ci (by omega) (by omega) (by omega) (by omega) (by omega) (by omega) (t := t)) (fun q2201 h2202 => ?_)
                        obtain ⟨ci2203, p2204, p2205, p2206⟩ := h2202
                        have b2207 := HI_g29 ci2203 (c := 0) (p := 6) rfl
                        have b2208 := HI_g29 ci (c := 0) (p := 6) rfl
                        have b2209 := FX_0_8 (HI_FX ci2203)
                        have b2210 := FX_0_34 (HI_FX ci2203)
                        have b2211 := FX_0_48 (HI_FX ci2203)
                        have b2212 := FX_0_51 (HI_FX ci2203)
                        refine Tp_so ?_
                        refine ⟨ci2203, ?_, ?_, ?_⟩
                        · (try dsimp only) <;> first | omega | assumption
                        · (try dsimp only) <;> first | omega | assumption
                        · (try dsimp only) <;> first | omega | assumption
                      · have g2213 := ti_nq h2198
                        have l2214 : ((11 : Int32)).toInt = 11 := rfl
                        refine Tp_if (fun h2215 => ?_) (fun h2215 => ?_)
                        · have g2216 := ti_q h2215
                          have l2217 : ((12 : Int32)).toInt = 12 := rfl
                          unfold f_MO_direct_164
                          have i2220 := ti_rg (mz_gI t 0 63)
                          refine Tp_bi (s_MO_failL hn ci (by omega) (t := t) (x1 := (5 : Int32)) (x2 := mz_gI t 0 63)) (fun q2218 h2219 => ?_)
                          obtain ⟨ci2221, E2222, p2223, p2224⟩ := h2219
                          have b2225 := HI_g29 ci2221 (c := 0) (p := 6) rfl
                          have b2226 := FX_0_8 (HI_FX ci2221)
                          have b2227 := HI_g29 ci (c := 0) (p := 6) rfl
                          have b2228 := HI_g23 ci2221 (c := 0) (p := 60) rfl
                          have e2229 : (mz_gI q2218 0 60).toInt = (mz_gI t 0 60).toInt := by rw [E2222 _ _ (by simp)]
                          refine Tp_so ?_
                          have b2230 := FX_0_34 (HI_FX ci2221)
                          have e2231 : (mz_gI q2218 0 34).toInt = (mz_gI t 0 34).toInt := by rw [E2222 _ _ (by simp)]
                          have b2232 := FX_0_48 (HI_FX ci2221)
                          have e2233 : (mz_gI q2218 0 48).toInt = (mz_gI t 0 48).toInt := by rw [E2222 _ _ (by simp)]
                          have b2234 := FX_0_51 (HI_FX ci2221)
                          have e2235 : (mz_gI q2218 0 51).toInt = (mz_gI t 0 51).toInt := by rw [E2222 _ _ (by simp)]
                          refine ⟨ci2221, ?_, ?_, ?_⟩
                          · (try dsimp only) <;> first | omega | assumption
                          · (try dsimp only) <;> first | omega | assumption
                          · (try dsimp only) <;> first | omega | assumption
                        · have g2236 := ti_nq h2215
                          have l2237 : ((12 : Int32)).toInt = 12 := rfl
                          refine Tp_if (fun h2238 => ?_) (fun h2238 => ?_)
                          · have g2239 := ti_q h2238
                            have l2240 : ((13 : Int32)).toInt = 13 := rfl
                            refine Tp_bi (s_MO_leave hn ci (by omega) (by omega) (by omega) (t := t)) (fun q2241 h2242 => ?_)
                            obtain ⟨ci2243, p2244, p2245, p2246⟩ := h2242
                            have b2247 := HI_g29 ci2243 (c := 0) (p := 6) rfl
                            have b2248 := HI_g29 ci (c := 0) (p := 6) rfl
                            have b2249 := FX_0_8 (HI_FX ci2243)
                            have b2250 := FX_0_34 (HI_FX ci2243)
                            have b2251 := FX_0_48 (HI_FX ci2243)
                            have b2252 := FX_0_51 (HI_FX ci2243)
                            refine Tp_so ?_
                            refine ⟨ci2243, ?_, ?_, ?_⟩
                            · (try dsimp only) <;> first | omega | assumption
                            · (try dsimp only) <;> first | omega | assumption
                            · (try dsimp only) <;> first | omega | assumption
                          · have g2253 := ti_nq h2238
                            have l2254 : ((13 : Int32)).toInt = 13 := rfl
                            refine Tp_if (fun h2255 => ?_) (fun h2255 => ?_)
                            · have g2256 := ti_q h2255
                              have l2257 : ((14 : Int32)).toInt = 14 := rfl
                              have i2260 := ti_rg (mz_gI t 0 63)
                              refine Tp_bi (s_MO_failL hn ci (by omega) (t := t) (x1 := (7 : Int32)) (x2 := mz_gI t 0 63)) (fun q2258 h2259 => ?_)
                              obtain ⟨ci2261, E2262, p2263, p2264⟩ := h2259
                              have b2265 := HI_g29 ci2261 (c := 0) (p := 6) rfl
                              have b2266 := FX_0_8 (HI_FX ci2261)
                              have b2267 := HI_g29 ci (c := 0) (p := 6) rfl
                              have b2268 := HI_g23 ci2261 (c := 0) (p := 60) rfl
                              have e2269 : (mz_gI q2258 0 60).toInt = (mz_gI t 0 60).toInt := by rw [E2262 _ _ (by simp)]
                              refine Tp_so ?_
                              have b2270 := FX_0_34 (HI_FX ci2261)
                              have e2271 : (mz_gI q2258 0 34).toInt = (mz_gI t 0 34).toInt := by rw [E2262 _ _ (by simp)]
                              have b2272 := FX_0_48 (HI_FX ci2261)
                              have e2273 : (mz_gI q2258 0 48).toInt = (mz_gI t 0 48).toInt := by rw [E2262 _ _ (by simp)]
                              have b2274 := FX_0_51 (HI_FX ci2261)
                              have e2275 : (mz_gI q2258 0 51).toInt = (mz_gI t 0 51).toInt := by rw [E2262 _ _ (by simp)]
                              refine ⟨ci2261, ?_, ?_, ?_⟩
                              · (try dsimp only) <;> first | omega | assumption
                              · (try dsimp only) <;> first | omega | assumption
                              · (try dsimp only) <;> first | omega | assumption
                            · have g2276 := ti_nq h2255
                              have l2277 : ((14 : Int32)).toInt = 14 := rfl
                              unfold f_MO_direct_164
                              have i2280 := ti_rg (mz_gI t 0 63)
                              refine Tp_bi (s_MO_failL hn ci (by omega) (t := t) (x1 := (5 : Int32)) (x2 := mz_gI t 0 63)) (fun q2278 h2279 => ?_)
                              obtain ⟨ci2281, E2282, p2283, p2284⟩ := h2279
                              have b2285 := HI_g29 ci2281 (c := 0) (p := 6) rfl
                              have b2286 := FX_0_8 (HI_FX ci2281)
                              have b2287 := HI_g29 ci (c := 0) (p := 6) rfl
                              have b2288 := HI_g23 ci2281 (c := 0) (p := 60) rfl
                              have e2289 : (mz_gI q2278 0 60).toInt = (mz_gI t 0 60).toInt := by rw [E2282 _ _ (by simp)]
                              refine Tp_so ?_
                              have b2290 := FX_0_34 (HI_FX ci2281)
                              have e2291 : (mz_gI q2278 0 34).toInt = (mz_gI t 0 34).toInt := by rw [E2282 _ _ (by simp)]
                              have b2292 := FX_0_48 (HI_FX ci2281)
                              have e2293 : (mz_gI q2278 0 48).toInt = (mz_gI t 0 48).toInt := by rw [E2282 _ _ (by simp)]
                              have b2294 := FX_0_51 (HI_FX ci2281)
                              have e2295 : (mz_gI q2278 0 51).toInt = (mz_gI t 0 51).toInt := by rw [E2282 _ _ (by simp)]
                              refine ⟨ci2281, ?_, ?_, ?_⟩
                              · (try dsimp only) <;> first | omega | assumption
                              · (try dsimp only) <;> first | omega | assumption
                              · (try dsimp only) <;> first | omega | assumption
