/-! TOTAL: written by vcg.py -/
set_option maxRecDepth 4000 in
set_option maxHeartbeats 8000000 in
theorem s_CO_isBehindElse {n : Nat} {L : Int32} (hn : 8589934592 ≤ n) {t : mz_St}  (ci : CI L t)  : Tp (f_CO_isBehindElse n t) (fun r => CI L r.2 ∧ r.2 = t ∧ 0 ≤ (r.1).toInt ∧ (r.1).toInt ≤ 1) := by
  unfold f_CO_isBehindElse
  refine Tp_bi (s_CO_isAny hn ci  (t := t)) (fun q1936 h1937 => ?_)
  obtain ⟨ci1938, E1939, p1940, p1941, p1942⟩ := h1937
  have i1943 := ti_rg (mz_gI t 7 5)
  try rw [E1939]
  refine Tp_if (fun h1944 => ?_) (fun h1944 => ?_)
  · have g1945 := ti_q h1944
    have i1946 := ti_rg q1936.1
    have l1947 : (0 : Int32).toInt = 0 := rfl
    refine Tp_so ?_
    have l1948 : ((0 : Int32)).toInt = 0 := rfl
    refine ⟨ci, rfl, ?_, ?_⟩
    · (try dsimp only) <;> first | omega | assumption
    · (try dsimp only) <;> first | omega | assumption
  · have g1949 := ti_nq h1944
    have i1950 := ti_rg q1936.1
    have l1951 : (0 : Int32).toInt = 0 := rfl
    have l1952 : ((1 : Int32)).toInt = 1 := rfl
    first | (have a1953 : ((mz_gI t 7 5) - (1 : Int32)).toInt = (mz_gI t 7 5).toInt - ((1 : Int32)).toInt := ti_sub (by omega) (by omega)) | (have a1954 := ti_rg ((mz_gI t 7 5) - (1 : Int32)))
    refine Tp_gd (ti_ix (by omega) (by omega)) ?_
    refine Tp_if (fun h1955 => ?_) (fun h1955 => ?_)
    · have g1956 := ti_q h1955
      have b1957 := CI_g2 ci (c := 11) (p := ((mz_gI t 7 5) - (1 : Int32)).toNatClampNeg) rfl
      refine Tp_so ?_
      have l1958 : ((0 : Int32)).toInt = 0 := rfl
      refine ⟨ci, rfl, ?_, ?_⟩
      · (try dsimp only) <;> first | omega | assumption
      · (try dsimp only) <;> first | omega | assumption
    · have g1959 := ti_nq h1955
      have b1960 := CI_g2 ci (c := 11) (p := ((mz_gI t 7 5) - (1 : Int32)).toNatClampNeg) rfl
      refine Tp_so ?_
      refine ⟨ci, rfl, ?_, ?_⟩
      · (try dsimp only) <;> first | omega | assumption
      · (try dsimp only) <;> first | omega | assumption
set_option maxRecDepth 4000 in
set_option maxHeartbeats 8000000 in
theorem s_CO_nextPart {n : Nat} {L : Int32} (hn : 8589934592 ≤ n) {x1 : Int32} {t : mz_St}  (ci : CI L t) (i0 : 0 ≤ x1.toInt) (i1 : x1.toInt ≤ 1) : Tp (f_CO_nextPart n x1 t) (fun r => CI L r) := by
  unfold f_CO_nextPart
  refine Tp_bi (s_CO_isAny hn ci  (t := t)) (fun q1961 h1962 => ?_)
  obtain ⟨ci1963, E1964, p1965, p1966, p1967⟩ := h1962
  have i1968 := ti_rg (mz_gI t 7 5)
  try rw [E1964]
  refine Tp_if (fun h1969 => ?_) (fun h1969 => ?_)
  · have g1970 := ti_q h1969
    have i1971 := ti_rg q1961.1
    have l1972 : (0 : Int32).toInt = 0 := rfl
    refine Tp_so ?_
    exact ci
  · have g1973 := ti_nq h1969
    have i1974 := ti_rg q1961.1
    have l1975 : (0 : Int32).toInt = 0 := rfl
    refine Tp_if (fun h1976 => ?_) (fun h1976 => ?_)
    · have g1977 := ti_q h1976
      have i1978 := ti_rg x1
      unfold f_CO_nextPart_32
      unfold f_CO_nextPart_33
      have l1979 : ((1 : Int32)).toInt = 1 := rfl
      first | (have a1980 : ((mz_gI t 7 5) - (1 : Int32)).toInt = (mz_gI t 7 5).toInt - ((1 : Int32)).toInt := ti_sub (by omega) (by omega)) | (have a1981 := ti_rg ((mz_gI t 7 5) - (1 : Int32)))
      refine Tp_gd (ti_ix (by omega) (by omega)) ?_
      have b1984 := ti_nb (0 : Int32)
      refine Tp_le (fun t1982 E1983 => ?_)
      have k1986 := ti_cl ((mz_gI t 7 5) - (1 : Int32))
      have ci1985 := CI_p2 ci E1983 rfl (by omega) (by omega)
      have i1987 := ti_rg (mz_gI t1982 7 5)
      have e1988 : (mz_gI t1982 7 5).toInt = (mz_gI t 7 5).toInt := by rw [E1983, gI_oth _ _ (by simp)]
      first | (have a1989 : ((mz_gI t1982 7 5) - (1 : Int32)).toInt = (mz_gI t1982 7 5).toInt - ((1 : Int32)).toInt := ti_sub (by omega) (by omega)) | (have a1990 := ti_rg ((mz_gI t1982 7 5) - (1 : Int32)))
      refine Tp_gd (ti_ix (by omega) (by omega)) ?_
      refine Tp_if (fun h1991 => ?_) (fun h1991 => ?_)
      · have g1992 := ti_q h1991
        have b1993 := CI_g2 ci1985 (c := 10) (p := ((mz_gI t1982 7 5) - (1 : Int32)).toNatClampNeg) rfl
        have e1994 : (mz_gI t1982 10 ((mz_gI t1982 7 5) - (1 : Int32)).toNatClampNeg).toInt = (mz_gI t 10 ((mz_gI t1982 7 5) - (1 : Int32)).toNatClampNeg).toInt := by rw [E1983, gI_oth _ _ (by simp)]
        have b1995 := CI_g2 ci (c := 10) (p := ((mz_gI t1982 7 5) - (1 : Int32)).toNatClampNeg) rfl
        refine Tp_gd (ti_ix (by omega) (by omega)) ?_
        refine Tp_if (fun h1996 => ?_) (fun h1996 => ?_)
        · have g1997 := ti_q h1996
          have b1998 := CI_g2 ci1985 (c := 9) (p := ((mz_gI t1982 7 5) - (1 : Int32)).toNatClampNeg) rfl
          refine Tp_gd (ti_ix (by omega) (by omega)) ?_
          refine Tp_le (fun t1999 E2000 => ?_)
          have k2002 := ti_cl ((mz_gI t1982 7 5) - (1 : Int32))
          have ci2001 := CI_p2 ci1985 E2000 rfl (by omega) (by omega)
          refine Tp_so ?_
          exact ci2001
        · have g2003 := ti_nq h1996
          have b2004 := CI_g2 ci1985 (c := 9) (p := ((mz_gI t1982 7 5) - (1 : Int32)).toNatClampNeg) rfl
          unfold f_CO_nextPart_72
          refine Tp_gd (ti_ix (by omega) (by omega)) ?_
          have b2007 := ti_nb (1 : Int32)
          refine Tp_le (fun t2005 E2006 => ?_)
          have k2009 := ti_cl ((mz_gI t1982 7 5) - (1 : Int32))
          have ci2008 := CI_p2 ci1985 E2006 rfl (by omega) (by omega)
          refine Tp_so ?_
          exact ci2008
      · have g2010 := ti_nq h1991
        have b2011 := CI_g2 ci1985 (c := 10) (p := ((mz_gI t1982 7 5) - (1 : Int32)).toNatClampNeg) rfl
        have e2012 : (mz_gI t1982 10 ((mz_gI t1982 7 5) - (1 : Int32)).toNatClampNeg).toInt = (mz_gI t 10 ((mz_gI t1982 7 5) - (1 : Int32)).toNatClampNeg).toInt := by rw [E1983, gI_oth _ _ (by simp)]
        have b2013 := CI_g2 ci (c := 10) (p := ((mz_gI t1982 7 5) - (1 : Int32)).toNatClampNeg) rfl
        unfold f_CO_nextPart_72
        refine Tp_gd (ti_ix (by omega) (by omega)) ?_
        have b2016 := ti_nb (1 : Int32)
        refine Tp_le (fun t2014 E2015 => ?_)
        have k2018 := ti_cl ((mz_gI t1982 7 5) - (1 : Int32))
        have ci2017 := CI_p2 ci1985 E2015 rfl (by omega) (by omega)
        refine Tp_so ?_
        exact ci2017
    · have g2019 := ti_nq h1976
      have i2020 := ti_rg x1
      refine Tp_bi (s_CO_waits hn ci  (t := t)) (fun q2021 h2022 => ?_)
      obtain ⟨ci2023, E2024, p2025, p2026⟩ := h2022
      try rw [E2024]
      refine Tp_if (fun h2027 => ?_) (fun h2027 => ?_)
      · have g2028 := ti_q h2027
        have i2029 := ti_rg q2021.1
        unfold f_CO_nextPart_32
        unfold f_CO_nextPart_33
        have l2030 : ((1 : Int32)).toInt = 1 := rfl
        first | (have a2031 : ((mz_gI t 7 5) - (1 : Int32)).toInt = (mz_gI t 7 5).toInt - ((1 : Int32)).toInt := ti_sub (by omega) (by omega)) | (have a2032 := ti_rg ((mz_gI t 7 5) - (1 : Int32)))
        refine Tp_gd (ti_ix (by omega) (by omega)) ?_
        have b2035 := ti_nb (0 : Int32)
        refine Tp_le (fun t2033 E2034 => ?_)
        have k2037 := ti_cl ((mz_gI t 7 5) - (1 : Int32))
        have ci2036 := CI_p2 ci E2034 rfl (by omega) (by omega)
        have i2038 := ti_rg (mz_gI t2033 7 5)
        have e2039 : (mz_gI t2033 7 5).toInt = (mz_gI t 7 5).toInt := by rw [E2034, gI_oth _ _ (by simp)]
        first | (have a2040 : ((mz_gI t2033 7 5) - (1 : Int32)).toInt = (mz_gI t2033 7 5).toInt - ((1 : Int32)).toInt := ti_sub (by omega) (by omega)) | (have a2041 := ti_rg ((mz_gI t2033 7 5) - (1 : Int32)))
        refine Tp_gd (ti_ix (by omega) (by omega)) ?_
        refine Tp_if (fun h2042 => ?_) (fun h2042 => ?_)
        · have g2043 := ti_q h2042
          have b2044 := CI_g2 ci2036 (c := 10) (p := ((mz_gI t2033 7 5) - (1 : Int32)).toNatClampNeg) rfl
          have e2045 : (mz_gI t2033 10 ((mz_gI t2033 7 5) - (1 : Int32)).toNatClampNeg).toInt = (mz_gI t 10 ((mz_gI t2033 7 5) - (1 : Int32)).toNatClampNeg).toInt := by rw [E2034, gI_oth _ _ (by simp)]
          have b2046 := CI_g2 ci (c := 10) (p := ((mz_gI t2033 7 5) - (1 : Int32)).toNatClampNeg) rfl
          refine Tp_gd (ti_ix (by omega) (by omega)) ?_
          refine Tp_if (fun h2047 => ?_) (fun h2047 => ?_)
          · have g2048 := ti_q h2047
            have b2049 := CI_g2 ci2036 (c := 9) (p := ((mz_gI t2033 7 5) - (1 : Int32)).toNatClampNeg) rfl
            refine Tp_gd (ti_ix (by omega) (by omega)) ?_
            refine Tp_le (fun t2050 E2051 => ?_)
            have k2053 := ti_cl ((mz_gI t2033 7 5) - (1 : Int32))
            have ci2052 := CI_p2 ci2036 E2051 rfl (by omega) (by omega)
            refine Tp_so ?_
            exact ci2052
          · have g2054 := ti_nq h2047
            have b2055 := CI_g2 ci2036 (c := 9) (p := ((mz_gI t2033 7 5) - (1 : Int32)).toNatClampNeg) rfl
            unfold f_CO_nextPart_72
            refine Tp_gd (ti_ix (by omega) (by omega)) ?_
            have b2058 := ti_nb (1 : Int32)
            refine Tp_le (fun t2056 E2057 => ?_)
            have k2060 := ti_cl ((mz_gI t2033 7 5) - (1 : Int32))
            have ci2059 := CI_p2 ci2036 E2057 rfl (by omega) (by omega)
            refine Tp_so ?_
            exact ci2059
        · have g2061 := ti_nq h2042
          have b2062 := CI_g2 ci2036 (c := 10) (p := ((mz_gI t2033 7 5) - (1 : Int32)).toNatClampNeg) rfl
          have e2063 : (mz_gI t2033 10 ((mz_gI t2033 7 5) - (1 : Int32)).toNatClampNeg).toInt = (mz_gI t 10 ((mz_gI t2033 7 5) - (1 : Int32)).toNatClampNeg).toInt := by rw [E2034, gI_oth _ _ (by simp)]
          have b2064 := CI_g2 ci (c := 10) (p := ((mz_gI t2033 7 5) - (1 : Int32)).toNatClampNeg) rfl
          unfold f_CO_nextPart_72
          refine Tp_gd (ti_ix (by omega) (by omega)) ?_
          have b2067 := ti_nb (1 : Int32)
          refine Tp_le (fun t2065 E2066 => ?_)
          have k2069 := ti_cl ((mz_gI t2033 7 5) - (1 : Int32))
          have ci2068 := CI_p2 ci2036 E2066 rfl (by omega) (by omega)
          refine Tp_so ?_
          exact ci2068
      · have g2070 := ti_nq h2027
        have i2071 := ti_rg q2021.1
        unfold f_CO_nextPart_33
        have l2072 : ((1 : Int32)).toInt = 1 := rfl
        first | (have a2073 : ((mz_gI t 7 5) - (1 : Int32)).toInt = (mz_gI t 7 5).toInt - ((1 : Int32)).toInt := ti_sub (by omega) (by omega)) | (have a2074 := ti_rg ((mz_gI t 7 5) - (1 : Int32)))
        refine Tp_gd (ti_ix (by omega) (by omega)) ?_
        have b2077 := ti_nb (1 : Int32)
        refine Tp_le (fun t2075 E2076 => ?_)
        have k2079 := ti_cl ((mz_gI t 7 5) - (1 : Int32))
        have ci2078 := CI_p2 ci E2076 rfl (by omega) (by omega)
        have i2080 := ti_rg (mz_gI t2075 7 5)
        have e2081 : (mz_gI t2075 7 5).toInt = (mz_gI t 7 5).toInt := by rw [E2076, gI_oth _ _ (by simp)]
        first | (have a2082 : ((mz_gI t2075 7 5) - (1 : Int32)).toInt = (mz_gI t2075 7 5).toInt - ((1 : Int32)).toInt := ti_sub (by omega) (by omega)) | (have a2083 := ti_rg ((mz_gI t2075 7 5) - (1 : Int32)))
        refine Tp_gd (ti_ix (by omega) (by omega)) ?_
        refine Tp_if (fun h2084 => ?_) (fun h2084 => ?_)
        · have g2085 := ti_q h2084
          have b2086 := CI_g2 ci2078 (c := 10) (p := ((mz_gI t2075 7 5) - (1 : Int32)).toNatClampNeg) rfl
          have e2087 : (mz_gI t2075 10 ((mz_gI t2075 7 5) - (1 : Int32)).toNatClampNeg).toInt = (mz_gI t 10 ((mz_gI t2075 7 5) - (1 : Int32)).toNatClampNeg).toInt := by rw [E2076, gI_oth _ _ (by simp)]
          have b2088 := CI_g2 ci (c := 10) (p := ((mz_gI t2075 7 5) - (1 : Int32)).toNatClampNeg) rfl
          refine Tp_gd (ti_ix (by omega) (by omega)) ?_
          refine Tp_if (fun h2089 => ?_) (fun h2089 => ?_)
          · have g2090 := ti_q h2089
            have b2091 := CI_g2 ci2078 (c := 9) (p := ((mz_gI t2075 7 5) - (1 : Int32)).toNatClampNeg) rfl
            refine Tp_gd (ti_ix (by omega) (by omega)) ?_
            have b2094 := ti_nb (0 : Int32)
            refine Tp_le (fun t2092 E2093 => ?_)
            have k2096 := ti_cl ((mz_gI t2075 7 5) - (1 : Int32))
            have ci2095 := CI_p2 ci2078 E2093 rfl (by omega) (by omega)
            refine Tp_so ?_
            exact ci2095
          · have g2097 := ti_nq h2089
            have b2098 := CI_g2 ci2078 (c := 9) (p := ((mz_gI t2075 7 5) - (1 : Int32)).toNatClampNeg) rfl
            unfold f_CO_nextPart_72
            refine Tp_gd (ti_ix (by omega) (by omega)) ?_
            refine Tp_le (fun t2099 E2100 => ?_)
            have k2102 := ti_cl ((mz_gI t2075 7 5) - (1 : Int32))
            have ci2101 := CI_p2 ci2078 E2100 rfl (by omega) (by omega)
            refine Tp_so ?_
            exact ci2101
        · have g2103 := ti_nq h2084
          have b2104 := CI_g2 ci2078 (c := 10) (p := ((mz_gI t2075 7 5) - (1 : Int32)).toNatClampNeg) rfl
          have e2105 : (mz_gI t2075 10 ((mz_gI t2075 7 5) - (1 : Int32)).toNatClampNeg).toInt = (mz_gI t 10 ((mz_gI t2075 7 5) - (1 : Int32)).toNatClampNeg).toInt := by rw [E2076, gI_oth _ _ (by simp)]
          have b2106 := CI_g2 ci (c := 10) (p := ((mz_gI t2075 7 5) - (1 : Int32)).toNatClampNeg) rfl
          unfold f_CO_nextPart_72
          refine Tp_gd (ti_ix (by omega) (by omega)) ?_
          refine Tp_le (fun t2107 E2108 => ?_)
          have k2110 := ti_cl ((mz_gI t2075 7 5) - (1 : Int32))
          have ci2109 := CI_p2 ci2078 E2108 rfl (by omega) (by omega)
          refine Tp_so ?_
          exact ci2109
set_option maxRecDepth 4000 in
set_option maxHeartbeats 8000000 in
theorem s_CO_lastPart {n : Nat} {L : Int32} (hn : 8589934592 ≤ n) {t : mz_St}  (ci : CI L t)  : Tp (f_CO_lastPart n t) (fun r => CI L r) := by
  unfold f_CO_lastPart
  have l2113 : ((1 : Int32)).toInt = 1 := rfl
  refine Tp_bi (s_CO_nextPart hn ci (by omega) (by omega) (t := t) (x1 := (1 : Int32))) (fun q2111 h2112 => ?_)
  have ci2114 := h2112
  refine Tp_bi (s_CO_isAny hn ci2114  (t := q2111)) (fun q2115 h2116 => ?_)
  obtain ⟨ci2117, E2118, p2119, p2120, p2121⟩ := h2116
  have i2122 := ti_rg (mz_gI q2111 7 5)
  try rw [E2118]
  refine Tp_if (fun h2123 => ?_) (fun h2123 => ?_)
  · have g2124 := ti_q h2123
    have i2125 := ti_rg q2115.1
    have l2126 : (0 : Int32).toInt = 0 := rfl
    refine Tp_so ?_
    exact ci2114
  · have g2127 := ti_nq h2123
    have i2128 := ti_rg q2115.1
    have l2129 : (0 : Int32).toInt = 0 := rfl
    first | (have a2130 : ((mz_gI q2111 7 5) - (1 : Int32)).toInt = (mz_gI q2111 7 5).toInt - ((1 : Int32)).toInt := ti_sub (by omega) (by omega)) | (have a2131 := ti_rg ((mz_gI q2111 7 5) - (1 : Int32)))
    refine Tp_gd (ti_ix (by omega) (by omega)) ?_
    have b2134 := ti_nb (1 : Int32)
    refine Tp_le (fun t2132 E2133 => ?_)
    have k2136 := ti_cl ((mz_gI q2111 7 5) - (1 : Int32))
    have ci2135 := CI_p2 ci2114 E2133 rfl (by omega) (by omega)
    refine Tp_so ?_
    exact ci2135
set_option maxRecDepth 4000 in
set_option maxHeartbeats 8000000 in
theorem s_FR_begin {n : Nat} {L : Int32} (hn : 8589934592 ≤ n) {x0 : Nat} {x1 : Int32} {x2 : Int32} {x3 : Int32} {x4 : Int32} {x5 : Int32} {t : mz_St}  (ci : CI L t) (i0 : mz_fr x0) (i1 : 0 ≤ x1.toInt) (i2 : x1.toInt ≤ 15) : Tp (f_FR_begin n x0 x1 x2 x3 x4 x5 t) (fun r => CI L r) := by
  unfold f_FR_begin
  refine Tp_gd (by omega) ?_
  have i2139 := ti_rg x1
  refine Tp_le (fun t2137 E2138 => ?_)
  have l2141 : (0 : Int32).toInt = 0 := rfl
  have ci2140 := CI_p3 ci E2138 (bxK_f0 (by omega)) (by omega) (by omega)
  have i2144 := ti_rg x2
  refine Tp_le (fun t2142 E2143 => ?_)
  have ci2145 := CI_p0 ci2140 E2143 (bxK_f1 (by omega) (by decide) (by decide))
  have i2148 := ti_rg x3
  refine Tp_le (fun t2146 E2147 => ?_)
  have ci2149 := CI_p0 ci2145 E2147 (bxK_f1 (by omega) (by decide) (by decide))
  refine Tp_le (fun t2150 E2151 => ?_)
  have ci2152 := CI_p0 ci2149 E2151 (bxK_f1 (by omega) (by decide) (by decide))
  have i2155 := ti_rg x4
  refine Tp_le (fun t2153 E2154 => ?_)
  have ci2156 := CI_p0 ci2152 E2154 (bxK_f1 (by omega) (by decide) (by decide))
  have l2159 : ((0 : Int32)).toInt = 0 := rfl
  refine Tp_le (fun t2157 E2158 => ?_)
  have ci2160 := CI_p0 ci2156 E2158 (bxK_f1 (by omega) (by decide) (by decide))
  have i2163 := ti_rg x5
  refine Tp_le (fun t2161 E2162 => ?_)
  have ci2164 := CI_p0 ci2160 E2162 (bxK_f1 (by omega) (by decide) (by decide))
  refine Tp_so ?_
  exact ci2164
set_option maxRecDepth 4000 in
set_option maxHeartbeats 8000000 in
theorem s_FR_setArgument {n : Nat} {L : Int32} (hn : 8589934592 ≤ n) {x0 : Nat} {x1 : Int32} {x2 : Int32} {x3 : Int32} {t : mz_St}  (ci : CI L t) (i0 : mz_fr x0) (i1 : -1 ≤ x2.toInt) (i2 : x2.toInt ≤ 7000) (i3 : -1 ≤ x3.toInt) (i4 : x3.toInt ≤ 7000) : Tp (f_FR_setArgument n x0 x1 x2 x3 t) (fun r => CI L r) := by
  unfold f_FR_setArgument
  refine Tp_gd (by omega) ?_
  refine Tp_if (fun h2165 => ?_) (fun h2165 => ?_)
  · have g2166 := ti_l h2165
    have i2167 := ti_rg x1
    have l2168 : (0 : Int32).toInt = 0 := rfl
    refine Tp_so ?_
    exact ci
  · have g2169 := ti_nl h2165
    have i2170 := ti_rg x1
    have l2171 : (0 : Int32).toInt = 0 := rfl
    refine Tp_if (fun h2172 => ?_) (fun h2172 => ?_)
    · have g2173 := ti_e h2172
      have l2174 : ((6 : Int32)).toInt = 6 := rfl
      refine Tp_so ?_
      exact ci
    · have g2175 := ti_ne h2172
      have l2176 : ((6 : Int32)).toInt = 6 := rfl
      refine Tp_if (fun h2177 => ?_) (fun h2177 => ?_)
      · have g2178 := ti_e h2177
        refine Tp_so ?_
        exact ci
      · have g2179 := ti_ne h2177
        refine Tp_gd (ti_ix (by omega) (by omega)) ?_
        have i2182 := ti_rg x2
        refine Tp_le (fun t2180 E2181 => ?_)
        have k2184 := ti_cl x1
        have ci2183 := CI_p1 ci E2181 (bxK_a14 (by omega)) (by omega) (by omega)
        refine Tp_gd (ti_ix (by omega) (by omega)) ?_
        have i2187 := ti_rg x3
        refine Tp_le (fun t2185 E2186 => ?_)
        have ci2188 := CI_p1 ci2183 E2186 (bxK_a28 (by omega)) (by omega) (by omega)
        refine Tp_so ?_
        exact ci2188
set_option maxRecDepth 4000 in
set_option maxHeartbeats 8000000 in
theorem s_FR_repeats {n : Nat} {L : Int32} (hn : 8589934592 ≤ n) {x0 : Nat} {t : mz_St}  (ci : CI L t) (i0 : mz_fr x0) : Tp (f_FR_repeats n x0 t) (fun r => CI L r.2 ∧ r.2 = t ∧ 0 ≤ (r.1).toInt ∧ (r.1).toInt ≤ 1) := by
  unfold f_FR_repeats
  refine Tp_gd (by omega) ?_
  have b2189 := CI_g3 ci (c := x0) (p := 0) (bxK_f0 (by omega))
  refine Tp_gd ⟨ti_c16 (by decide) (by omega), by decide⟩ ?_
  refine Tp_if (fun h2190 => ?_) (fun h2190 => ?_)
  · skip
    unfold f_FR_repeats_20
    refine Tp_so ?_
    have l2191 : ((1 : Int32)).toInt = 1 := rfl
    refine ⟨ci, rfl, ?_, ?_⟩
    · (try dsimp only) <;> first | omega | assumption
    · (try dsimp only) <;> first | omega | assumption
  · skip
    refine Tp_gd ⟨ti_c16 (by decide) (by omega), by decide⟩ ?_
    refine Tp_if (fun h2192 => ?_) (fun h2192 => ?_)
    · skip
      unfold f_FR_repeats_20
      refine Tp_so ?_
      have l2193 : ((1 : Int32)).toInt = 1 := rfl
      refine ⟨ci, rfl, ?_, ?_⟩
      · (try dsimp only) <;> first | omega | assumption
      · (try dsimp only) <;> first | omega | assumption
    · skip
      refine Tp_so ?_
      have l2194 : ((0 : Int32)).toInt = 0 := rfl
      refine ⟨ci, rfl, ?_, ?_⟩
      · (try dsimp only) <;> first | omega | assumption
      · (try dsimp only) <;> first | omega | assumption
set_option maxRecDepth 4000 in
set_option maxHeartbeats 8000000 in
theorem s_FR_argumentStart {n : Nat} {L : Int32} (hn : 8589934592 ≤ n) {x0 : Nat} {x1 : Int32} {t : mz_St}  (ci : CI L t) (i0 : mz_fr x0) : Tp (f_FR_argumentStart n x0 x1 t) (fun r => CI L r.2 ∧ r.2 = t ∧ -1 ≤ (r.1).toInt ∧ (r.1).toInt ≤ 7000) := by
  unfold f_FR_argumentStart
  refine Tp_gd (by omega) ?_
  refine Tp_if (fun h2195 => ?_) (fun h2195 => ?_)
  · have g2196 := ti_l h2195
    have i2197 := ti_rg x1
    have l2198 : (0 : Int32).toInt = 0 := rfl
    refine Tp_so ?_
    have l2199 : ((0 : Int32)).toInt = 0 := rfl
    refine ⟨ci, rfl, ?_, ?_⟩
    · (try dsimp only) <;> first | omega | assumption
    · (try dsimp only) <;> first | omega | assumption
  · have g2200 := ti_nl h2195
    have i2201 := ti_rg x1
    have l2202 : (0 : Int32).toInt = 0 := rfl
    refine Tp_if (fun h2203 => ?_) (fun h2203 => ?_)
    · have g2204 := ti_e h2203
      have l2205 : ((6 : Int32)).toInt = 6 := rfl
      refine Tp_so ?_
      have l2206 : ((0 : Int32)).toInt = 0 := rfl
      refine ⟨ci, rfl, ?_, ?_⟩
      · (try dsimp only) <;> first | omega | assumption
      · (try dsimp only) <;> first | omega | assumption
    · have g2207 := ti_ne h2203
      have l2208 : ((6 : Int32)).toInt = 6 := rfl
      refine Tp_gd (ti_ix (by omega) (by omega)) ?_
      refine Tp_so ?_
      have b2209 := CI_g1 ci (c := x0 + 14) (p := x1.toNatClampNeg) (bxK_a14 (by omega))
      refine ⟨ci, rfl, ?_, ?_⟩
      · (try dsimp only) <;> first | omega | assumption
      · (try dsimp only) <;> first | omega | assumption
set_option maxRecDepth 4000 in
set_option maxHeartbeats 8000000 in
theorem s_FR_argumentStop {n : Nat} {L : Int32} (hn : 8589934592 ≤ n) {x0 : Nat} {x1 : Int32} {t : mz_St}  (ci : CI L t) (i0 : mz_fr x0) : Tp (f_FR_argumentStop n x0 x1 t) (fun r => CI L r.2 ∧ r.2 = t ∧ -1 ≤ (r.1).toInt ∧ (r.1).toInt ≤ 7000) := by
  unfold f_FR_argumentStop
  refine Tp_gd (by omega) ?_
  refine Tp_if (fun h2210 => ?_) (fun h2210 => ?_)
  · have g2211 := ti_l h2210
    have i2212 := ti_rg x1
    have l2213 : (0 : Int32).toInt = 0 := rfl
    refine Tp_so ?_
    have l2214 : ((0 : Int32)).toInt = 0 := rfl
    refine ⟨ci, rfl, ?_, ?_⟩
    · (try dsimp only) <;> first | omega | assumption
    · (try dsimp only) <;> first | omega | assumption
  · have g2215 := ti_nl h2210
    have i2216 := ti_rg x1
    have l2217 : (0 : Int32).toInt = 0 := rfl
    refine Tp_if (fun h2218 => ?_) (fun h2218 => ?_)
    · have g2219 := ti_e h2218
      have l2220 : ((6 : Int32)).toInt = 6 := rfl
      refine Tp_so ?_
      have l2221 : ((0 : Int32)).toInt = 0 := rfl
      refine ⟨ci, rfl, ?_, ?_⟩
      · (try dsimp only) <;> first | omega | assumption
      · (try dsimp only) <;> first | omega | assumption
    · have g2222 := ti_ne h2218
      have l2223 : ((6 : Int32)).toInt = 6 := rfl
      refine Tp_gd (ti_ix (by omega) (by omega)) ?_
      refine Tp_so ?_
      have b2224 := CI_g1 ci (c := x0 + 28) (p := x1.toNatClampNeg) (bxK_a28 (by omega))
      refine ⟨ci, rfl, ?_, ?_⟩
      · (try dsimp only) <;> first | omega | assumption
      · (try dsimp only) <;> first | omega | assumption
set_option maxRecDepth 4000 in
set_option maxHeartbeats 8000000 in
theorem s_OU_clear {n : Nat} {L : Int32} (hn : 8589934592 ≤ n) {t : mz_St}  (ci : CI L t)  : Tp (f_OU_clear n t) (fun r => CI L r) := by
  unfold f_OU_clear
  have l2227 : ((0 : Int32)).toInt = 0 := rfl
  refine Tp_le (fun t2225 E2226 => ?_)
  have l2229 : (5 : Int32).toInt = 5 := rfl
  have ci2228 := CI_p7 ci E2226 rfl (by omega) (by omega)
  refine Tp_le (fun t2230 E2231 => ?_)
  have l2233 : (6 : Int32).toInt = 6 := rfl
  have ci2232 := CI_p8 ci2228 E2231 rfl (by omega) (by omega)
  refine Tp_so ?_
  exact ci2232
set_option maxRecDepth 4000 in
set_option maxHeartbeats 8000000 in
theorem l_OU_add_49 {n : Nat} {L : Int32} (hn : 8589934592 ≤ n)  : ∀ (k : Nat) (x3 : Int32) (x4 : Int32) (x5 : Int32) (x6 : Int32) (t : mz_St), CI L t → ((mz_gI t 32 5).toInt < 1000) → (2147483648 - x6.toInt).toNat < k → Tp (f_OU_add_49 n k x3 x4 x5 x6 t) (fun r => CI L r.2 ∧ 0 ≤ (r.1).toInt ∧ (r.1).toInt ≤ 1) := by
  intro k
  induction k with
  | zero => intros; omega
  | succ k ih =>
    intro x3 x4 x5 x6 t ci i0 hm
    unfold f_OU_add_49
    have b2234 := CI_g7 ci (c := 32) (p := 5) rfl
    refine Tp_if (fun h2235 => ?_) (fun h2235 => ?_)
    · have g2236 := ti_e h2235
      have i2237 := ti_rg x3
      have i2238 := ti_rg x6
      unfold f_OU_add_106
      refine Tp_gd (ti_ix (by omega) (by omega)) ?_
      have b2241 := CI_g8 ci (c := 32) (p := 6) rfl
      refine Tp_le (fun t2239 E2240 => ?_)
      have k2243 := ti_cl (mz_gI t 32 5)
      have ci2242 := CI_p8 ci E2240 rfl (by omega) (by omega)
      have b2244 := CI_g7 ci2242 (c := 32) (p := 5) rfl
      have e2245 : (mz_gI t2239 32 5).toInt = (mz_gI t 32 5).toInt := by rw [E2240, gI_oth _ _ (by simp)]
      refine Tp_gd (ti_ix (by omega) (by omega)) ?_
      have i2248 := ti_rg x4
      refine Tp_le (fun t2246 E2247 => ?_)
      have ci2249 := CI_p0 ci2242 E2247 rfl
      have b2250 := CI_g7 ci2249 (c := 32) (p := 5) rfl
      have e2251 : (mz_gI t2246 32 5).toInt = (mz_gI t2239 32 5).toInt := by rw [E2247, gI_oth _ _ (by simp)]
      refine Tp_gd (ti_ix (by omega) (by omega)) ?_
      have i2254 := ti_rg x5
      refine Tp_le (fun t2252 E2253 => ?_)
      have ci2255 := CI_p0 ci2249 E2253 rfl
      have b2258 := CI_g7 ci2255 (c := 32) (p := 5) rfl
      have e2259 : (mz_gI t2252 32 5).toInt = (mz_gI t2246 32 5).toInt := by rw [E2253, gI_oth _ _ (by simp)]
      have l2260 : ((1 : Int32)).toInt = 1 := rfl
      first | (have a2261 : ((mz_gI t2252 32 5) + (1 : Int32)).toInt = (mz_gI t2252 32 5).toInt + ((1 : Int32)).toInt := ti_add (by omega) (by omega)) | (have a2262 := ti_rg ((mz_gI t2252 32 5) + (1 : Int32)))
      refine Tp_le (fun t2256 E2257 => ?_)
      have l2264 : (5 : Int32).toInt = 5 := rfl
      have ci2263 := CI_p7 ci2255 E2257 rfl (by omega) (by omega)
      refine Tp_so ?_
      refine ⟨ci2263, ?_, ?_⟩
      · (try dsimp only) <;> first | omega | assumption
      · (try dsimp only) <;> first | omega | assumption
    · have g2265 := ti_ne h2235
      have i2266 := ti_rg x3
      have i2267 := ti_rg x6
      refine Tp_if (fun h2268 => ?_) (fun h2268 => ?_)
      · have g2269 := ti_l h2268
        have b2270 := CI_g8 ci (c := 32) (p := 6) rfl
        have l2271 : (0 : Int32).toInt = 0 := rfl
        unfold f_OU_add_106
        refine Tp_gd (ti_ix (by omega) (by omega)) ?_
        refine Tp_le (fun t2272 E2273 => ?_)
        have k2275 := ti_cl (mz_gI t 32 5)
        have ci2274 := CI_p8 ci E2273 rfl (by omega) (by omega)
        have b2276 := CI_g7 ci2274 (c := 32) (p := 5) rfl
        have e2277 : (mz_gI t2272 32 5).toInt = (mz_gI t 32 5).toInt := by rw [E2273, gI_oth _ _ (by simp)]
        refine Tp_gd (ti_ix (by omega) (by omega)) ?_
        have i2280 := ti_rg x4
        refine Tp_le (fun t2278 E2279 => ?_)
        have ci2281 := CI_p0 ci2274 E2279 rfl
        have b2282 := CI_g7 ci2281 (c := 32) (p := 5) rfl
        have e2283 : (mz_gI t2278 32 5).toInt = (mz_gI t2272 32 5).toInt := by rw [E2279, gI_oth _ _ (by simp)]
        refine Tp_gd (ti_ix (by omega) (by omega)) ?_
        have i2286 := ti_rg x5
        refine Tp_le (fun t2284 E2285 => ?_)
        have ci2287 := CI_p0 ci2281 E2285 rfl
        have b2290 := CI_g7 ci2287 (c := 32) (p := 5) rfl
        have e2291 : (mz_gI t2284 32 5).toInt = (mz_gI t2278 32 5).toInt := by rw [E2285, gI_oth _ _ (by simp)]
        have l2292 : ((1 : Int32)).toInt = 1 := rfl
        first | (have a2293 : ((mz_gI t2284 32 5) + (1 : Int32)).toInt = (mz_gI t2284 32 5).toInt + ((1 : Int32)).toInt := ti_add (by omega) (by omega)) | (have a2294 := ti_rg ((mz_gI t2284 32 5) + (1 : Int32)))
        refine Tp_le (fun t2288 E2289 => ?_)
        have l2296 : (5 : Int32).toInt = 5 := rfl
        have ci2295 := CI_p7 ci2287 E2289 rfl (by omega) (by omega)
        refine Tp_so ?_
        refine ⟨ci2295, ?_, ?_⟩
        · (try dsimp only) <;> first | omega | assumption
        · (try dsimp only) <;> first | omega | assumption
      · have g2297 := ti_nl h2268
        have b2298 := CI_g8 ci (c := 32) (p := 6) rfl
        have l2299 : (0 : Int32).toInt = 0 := rfl
        refine Tp_if (fun h2300 => ?_) (fun h2300 => ?_)
        · have g2301 := ti_e h2300
          have l2302 : ((12000 : Int32)).toInt = 12000 := rfl
          unfold f_OU_add_106
          refine Tp_gd (ti_ix (by omega) (by omega)) ?_
          refine Tp_le (fun t2303 E2304 => ?_)
          have k2306 := ti_cl (mz_gI t 32 5)
          have ci2305 := CI_p8 ci E2304 rfl (by omega) (by omega)
          have b2307 := CI_g7 ci2305 (c := 32) (p := 5) rfl
          have e2308 : (mz_gI t2303 32 5).toInt = (mz_gI t 32 5).toInt := by rw [E2304, gI_oth _ _ (by simp)]
          refine Tp_gd (ti_ix (by omega) (by omega)) ?_
          have i2311 := ti_rg x4
          refine Tp_le (fun t2309 E2310 => ?_)
          have ci2312 := CI_p0 ci2305 E2310 rfl
          have b2313 := CI_g7 ci2312 (c := 32) (p := 5) rfl
          have e2314 : (mz_gI t2309 32 5).toInt = (mz_gI t2303 32 5).toInt := by rw [E2310, gI_oth _ _ (by simp)]
          refine Tp_gd (ti_ix (by omega) (by omega)) ?_
          have i2317 := ti_rg x5
          refine Tp_le (fun t2315 E2316 => ?_)
          have ci2318 := CI_p0 ci2312 E2316 rfl
          have b2321 := CI_g7 ci2318 (c := 32) (p := 5) rfl
          have e2322 : (mz_gI t2315 32 5).toInt = (mz_gI t2309 32 5).toInt := by rw [E2316, gI_oth _ _ (by simp)]
          have l2323 : ((1 : Int32)).toInt = 1 := rfl
          first | (have a2324 : ((mz_gI t2315 32 5) + (1 : Int32)).toInt = (mz_gI t2315 32 5).toInt + ((1 : Int32)).toInt := ti_add (by omega) (by omega)) | (have a2325 := ti_rg ((mz_gI t2315 32 5) + (1 : Int32)))
          refine Tp_le (fun t2319 E2320 => ?_)
          have l2327 : (5 : Int32).toInt = 5 := rfl
          have ci2326 := CI_p7 ci2318 E2320 rfl (by omega) (by omega)
          refine Tp_so ?_
          refine ⟨ci2326, ?_, ?_⟩
          · (try dsimp only) <;> first | omega | assumption
          · (try dsimp only) <;> first | omega | assumption
        · have g2328 := ti_ne h2300
          have l2329 : ((12000 : Int32)).toInt = 12000 := rfl
          refine Tp_bi (s_SI_at hn ci  (t := t) (x1 := x6)) (fun q2330 h2331 => ?_)
          obtain ⟨ci2332, E2333⟩ := h2331
          try rw [E2333]
          refine Tp_gd (ti_ix (by omega) (by omega)) ?_
          refine Tp_le (fun t2334 E2335 => ?_)
          have ci2336 := CI_p0 ci E2335 rfl
          have b2339 := CI_g8 ci2336 (c := 32) (p := 6) rfl
          have e2340 : (mz_gI t2334 32 6).toInt = (mz_gI t 32 6).toInt := by rw [E2335, gI_oth _ _ (by simp)]
          have l2341 : ((1 : Int32)).toInt = 1 := rfl
          first | (have a2342 : ((mz_gI t2334 32 6) + (1 : Int32)).toInt = (mz_gI t2334 32 6).toInt + ((1 : Int32)).toInt := ti_add (by omega) (by omega)) | (have a2343 := ti_rg ((mz_gI t2334 32 6) + (1 : Int32)))
          refine Tp_le (fun t2337 E2338 => ?_)
          have l2345 : (6 : Int32).toInt = 6 := rfl
          have ci2344 := CI_p8 ci2336 E2338 rfl (by omega) (by omega)
          have i2346 := ti_rg x4
          have i2347 := ti_rg x5
          first | (have a2348 : (x6 + (1 : Int32)).toInt = (x6).toInt + ((1 : Int32)).toInt := ti_add (by omega) (by omega)) | (have a2349 := ti_rg (x6 + (1 : Int32)))
          have b2350 := CI_g7 ci2344 (c := 32) (p := 5) rfl
          have e2351 : (mz_gI t2337 32 5).toInt = (mz_gI t2334 32 5).toInt := by rw [E2338, gI_oth _ _ (by simp)]
          have b2352 := CI_g7 ci2336 (c := 32) (p := 5) rfl
          have e2353 : (mz_gI t2334 32 5).toInt = (mz_gI t 32 5).toInt := by rw [E2335, gI_oth _ _ (by simp)]
          exact ih x3 x4 x5 (x6 + (1 : Int32)) t2337 ci2344 (by omega) (by omega)
set_option maxRecDepth 4000 in
set_option maxHeartbeats 8000000 in
theorem s_OU_add {n : Nat} {L : Int32} (hn : 8589934592 ≤ n) {x2 : Int32} {x3 : Int32} {x4 : Int32} {x5 : Int32} {t : mz_St}  (ci : CI L t)  : Tp (f_OU_add n x2 x3 x4 x5 t) (fun r => CI L r.2 ∧ 0 ≤ (r.1).toInt ∧ (r.1).toInt ≤ 1) := by
  unfold f_OU_add
  refine Tp_if (fun h2354 => ?_) (fun h2354 => ?_)
  · have g2355 := ti_l h2354
    have b2356 := CI_g7 ci (c := 32) (p := 5) rfl
    have l2357 : (0 : Int32).toInt = 0 := rfl
    refine Tp_so ?_
    have l2358 : ((0 : Int32)).toInt = 0 := rfl
    refine ⟨ci, ?_, ?_⟩
    · (try dsimp only) <;> first | omega | assumption
    · (try dsimp only) <;> first | omega | assumption
  · have g2359 := ti_nl h2354
    have b2360 := CI_g7 ci (c := 32) (p := 5) rfl
    have l2361 : (0 : Int32).toInt = 0 := rfl
    refine Tp_if (fun h2362 => ?_) (fun h2362 => ?_)
    · have g2363 := ti_e h2362
      have l2364 : ((1000 : Int32)).toInt = 1000 := rfl
      refine Tp_so ?_
      have l2365 : ((0 : Int32)).toInt = 0 := rfl
      refine ⟨ci, ?_, ?_⟩
      · (try dsimp only) <;> first | omega | assumption
      · (try dsimp only) <;> first | omega | assumption
    · have g2366 := ti_ne h2362
      have l2367 : ((1000 : Int32)).toInt = 1000 := rfl
      refine Tp_if (fun h2368 => ?_) (fun h2368 => ?_)
      · have g2369 := ti_e h2368
        have b2370 := CI_g8 ci (c := 32) (p := 6) rfl
        have i2371 := ti_rg x3
        have i2372 := ti_rg x2
        first | (have a2373 : (x3 - x2).toInt = (x3).toInt - (x2).toInt := ti_sub (by omega) (by omega)) | (have a2374 := ti_rg (x3 - x2))
        first | (have a2375 : ((mz_gI t 32 6) + (x3 - x2)).toInt = (mz_gI t 32 6).toInt + (x3 - x2).toInt := ti_add (by omega) (by omega)) | (have a2376 := ti_rg ((mz_gI t 32 6) + (x3 - x2)))
        have l2377 : ((12000 : Int32)).toInt = 12000 := rfl
        refine Tp_gd (ti_ix (by omega) (by omega)) ?_
        refine Tp_le (fun t2378 E2379 => ?_)
        have k2381 := ti_cl (mz_gI t 32 5)
        have ci2380 := CI_p8 ci E2379 rfl (by omega) (by omega)
        have i2382 := ti_rg x4
        have i2383 := ti_rg x5
        have b2384 := CI_g7 ci2380 (c := 32) (p := 5) rfl
        have e2385 : (mz_gI t2378 32 5).toInt = (mz_gI t 32 5).toInt := by rw [E2379, gI_oth _ _ (by simp)]
        refine Tp_mo (l_OU_add_49 hn  n x3 x4 x5 x2 t2378 ci2380 (by omega) (by omega)) (fun q2386 h2387 => ?_)
        obtain ⟨ci2388, p2389, p2390⟩ := h2387
        have i2391 := ti_rg q2386.1
        refine ⟨ci2388, ?_, ?_⟩
        · (try dsimp only) <;> first | omega | assumption
        · (try dsimp only) <;> first | omega | assumption
      · have g2392 := ti_ne h2368
        have b2393 := CI_g8 ci (c := 32) (p := 6) rfl
        have i2394 := ti_rg x3
        have i2395 := ti_rg x2
        first | (have a2396 : (x3 - x2).toInt = (x3).toInt - (x2).toInt := ti_sub (by omega) (by omega)) | (have a2397 := ti_rg (x3 - x2))
        first | (have a2398 : ((mz_gI t 32 6) + (x3 - x2)).toInt = (mz_gI t 32 6).toInt + (x3 - x2).toInt := ti_add (by omega) (by omega)) | (have a2399 := ti_rg ((mz_gI t 32 6) + (x3 - x2)))
        have l2400 : ((12000 : Int32)).toInt = 12000 := rfl
        refine Tp_so ?_
        have l2401 : ((0 : Int32)).toInt = 0 := rfl
        refine ⟨ci, ?_, ?_⟩
        · (try dsimp only) <;> first | omega | assumption
        · (try dsimp only) <;> first | omega | assumption
set_option maxRecDepth 4000 in
set_option maxHeartbeats 8000000 in
theorem s_OU_sign {n : Nat} {L : Int32} (hn : 8589934592 ≤ n) {x1 : Int32} {x2 : Int32} {x3 : Int32} {t : mz_St}  (ci : CI L t) (i0 : 0 ≤ x1.toInt) (i1 : x1.toInt ≤ 12000) (i2 : 0 ≤ x2.toInt) (i3 : x2.toInt ≤ 12000) : Tp (f_OU_sign n x1 x2 x3 t) (fun r => CI L r.2 ∧ r.2 = t) := by
  unfold f_OU_sign
  refine Tp_if (fun h2402 => ?_) (fun h2402 => ?_)
  · have g2403 := ti_l h2402
    have i2404 := ti_rg x3
    have l2405 : (0 : Int32).toInt = 0 := rfl
    refine Tp_so ?_
    have l2406 : ((-1 : Int32)).toInt = -1 := rfl
    exact ⟨ci, rfl⟩
  · have g2407 := ti_nl h2402
    have i2408 := ti_rg x3
    have l2409 : (0 : Int32).toInt = 0 := rfl
    refine Tp_if (fun h2410 => ?_) (fun h2410 => ?_)
    · have g2411 := ti_e h2410
      have i2412 := ti_rg x2
      have i2413 := ti_rg x1
      first | (have a2414 : (x2 - x1).toInt = (x2).toInt - (x1).toInt := ti_sub (by omega) (by omega)) | (have a2415 := ti_rg (x2 - x1))
      refine Tp_so ?_
      have l2416 : ((-1 : Int32)).toInt = -1 := rfl
      exact ⟨ci, rfl⟩
    · have g2417 := ti_ne h2410
      have i2418 := ti_rg x2
      have i2419 := ti_rg x1
      first | (have a2420 : (x2 - x1).toInt = (x2).toInt - (x1).toInt := ti_sub (by omega) (by omega)) | (have a2421 := ti_rg (x2 - x1))
      refine Tp_if (fun h2422 => ?_) (fun h2422 => ?_)
      · have g2423 := ti_l h2422
        refine Tp_so ?_
        have l2424 : ((-1 : Int32)).toInt = -1 := rfl
        exact ⟨ci, rfl⟩
      · have g2425 := ti_nl h2422
        refine Tp_if (fun h2426 => ?_) (fun h2426 => ?_)
        · have g2427 := ti_l h2426
          first | (have a2428 : (x1 + x3).toInt = (x1).toInt + (x3).toInt := ti_add (by omega) (by omega)) | (have a2429 := ti_rg (x1 + x3))
          have l2430 : ((12000 : Int32)).toInt = 12000 := rfl
          refine Tp_gd (ti_ix (by omega) (by omega)) ?_
          refine Tp_so ?_
          have i2431 := ti_rg (mz_gI t 33 (x1 + x3).toNatClampNeg)
          exact ⟨ci, rfl⟩
        · have g2432 := ti_nl h2426
          first | (have a2433 : (x1 + x3).toInt = (x1).toInt + (x3).toInt := ti_add (by omega) (by omega)) | (have a2434 := ti_rg (x1 + x3))
          have l2435 : ((12000 : Int32)).toInt = 12000 := rfl
          refine Tp_so ?_
          have l2436 : ((-1 : Int32)).toInt = -1 := rfl
          exact ⟨ci, rfl⟩
set_option maxRecDepth 4000 in
set_option maxHeartbeats 8000000 in
theorem s_OU_tell {n : Nat} {L : Int32} (hn : 8589934592 ≤ n) {x1 : Int32} {x2 : Int32} {t : mz_St}  (ci : CI L t)  : Tp (f_OU_tell n x1 x2 t) (fun r => CI L r.2 ∧ r.2 = t) := by
  unfold f_OU_tell
  refine Tp_if (fun h2437 => ?_) (fun h2437 => ?_)
  · have g2438 := ti_l h2437
    have i2439 := ti_rg x1
    have l2440 : (0 : Int32).toInt = 0 := rfl
    refine Tp_so ?_
    have l2441 : ((-1 : Int32)).toInt = -1 := rfl
    exact ⟨ci, rfl⟩
  · have g2442 := ti_nl h2437
    have i2443 := ti_rg x1
    have l2444 : (0 : Int32).toInt = 0 := rfl
    refine Tp_if (fun h2445 => ?_) (fun h2445 => ?_)
    · have g2446 := ti_l h2445
      have l2447 : ((1000 : Int32)).toInt = 1000 := rfl
      refine Tp_if (fun h2448 => ?_) (fun h2448 => ?_)
      · have g2449 := ti_q h2448
        have i2450 := ti_rg x2
        have l2451 : ((0 : Int32)).toInt = 0 := rfl
        refine Tp_gd (ti_ix (by omega) (by omega)) ?_
        refine Tp_gd (ti_ix (by omega) (by omega)) ?_
        refine Tp_so ?_
        have b2452 := CI_g8 ci (c := 35) (p := x1.toNatClampNeg) rfl
        have b2453 := CI_g8 ci (c := 34) (p := x1.toNatClampNeg) rfl
        first | (have a2454 : ((mz_gI t 35 x1.toNatClampNeg) - (mz_gI t 34 x1.toNatClampNeg)).toInt = (mz_gI t 35 x1.toNatClampNeg).toInt - (mz_gI t 34 x1.toNatClampNeg).toInt := ti_sub (by omega) (by omega)) | (have a2455 := ti_rg ((mz_gI t 35 x1.toNatClampNeg) - (mz_gI t 34 x1.toNatClampNeg)))
        exact ⟨ci, rfl⟩
      · have g2456 := ti_nq h2448
        have i2457 := ti_rg x2
        have l2458 : ((0 : Int32)).toInt = 0 := rfl
        refine Tp_if (fun h2459 => ?_) (fun h2459 => ?_)
        · have g2460 := ti_q h2459
          have l2461 : ((1 : Int32)).toInt = 1 := rfl
          refine Tp_gd (ti_ix (by omega) (by omega)) ?_
          refine Tp_so ?_
          have i2462 := ti_rg (mz_gI t 36 x1.toNatClampNeg)
          exact ⟨ci, rfl⟩
        · have g2463 := ti_nq h2459
          have l2464 : ((1 : Int32)).toInt = 1 := rfl
          refine Tp_if (fun h2465 => ?_) (fun h2465 => ?_)
          · have g2466 := ti_q h2465
            have l2467 : ((2 : Int32)).toInt = 2 := rfl
            refine Tp_gd (ti_ix (by omega) (by omega)) ?_
            refine Tp_so ?_
            have i2468 := ti_rg (mz_gI t 37 x1.toNatClampNeg)
            exact ⟨ci, rfl⟩
          · have g2469 := ti_nq h2465
            have l2470 : ((2 : Int32)).toInt = 2 := rfl
            refine Tp_gd (ti_ix (by omega) (by omega)) ?_
            refine Tp_gd (ti_ix (by omega) (by omega)) ?_
            have b2473 := CI_g8 ci (c := 34) (p := x1.toNatClampNeg) rfl
            have b2474 := CI_g8 ci (c := 35) (p := x1.toNatClampNeg) rfl
            have l2475 : ((3 : Int32)).toInt = 3 := rfl
            first | (have a2476 : (x2 - (3 : Int32)).toInt = (x2).toInt - ((3 : Int32)).toInt := ti_sub (by omega) (by omega)) | (have a2477 := ti_rg (x2 - (3 : Int32)))
            refine Tp_bi (s_OU_sign hn ci (by omega) (by omega) (by omega) (by omega) (t := t) (x1 := mz_gI t 34 x1.toNatClampNeg) (x2 := mz_gI t 35 x1.toNatClampNeg) (x3 := x2 - (3 : Int32))) (fun q2471 h2472 => ?_)
            obtain ⟨ci2478, E2479⟩ := h2472
            try rw [E2479]
            refine Tp_so ?_
            have i2480 := ti_rg q2471.1
            exact ⟨ci, rfl⟩
    · have g2481 := ti_nl h2445
      have l2482 : ((1000 : Int32)).toInt = 1000 := rfl
      refine Tp_so ?_
      have l2483 : ((-1 : Int32)).toInt = -1 := rfl
      exact ⟨ci, rfl⟩
set_option maxRecDepth 4000 in
set_option maxHeartbeats 8000000 in
theorem s_RE_begin {n : Nat} {L : Int32} (hn : 8589934592 ≤ n) {x1 : Int32} {x2 : Int32} {t : mz_St}  (ci : CI L t) (i0 : -1 ≤ x1.toInt) (i1 : x1.toInt ≤ 7000) (i2 : -1 ≤ x2.toInt) (i3 : x2.toInt ≤ 7000) : Tp (f_RE_begin n x1 x2 t) (fun r => CI L r) := by
  unfold f_RE_begin
  have i2486 := ti_rg x1
  refine Tp_le (fun t2484 E2485 => ?_)
  have l2488 : (2 : Int32).toInt = 2 := rfl
  have ci2487 := CI_p1 ci E2485 rfl (by omega) (by omega)
  have i2491 := ti_rg x2
  refine Tp_le (fun t2489 E2490 => ?_)
  have l2493 : (3 : Int32).toInt = 3 := rfl
  have ci2492 := CI_p1 ci2487 E2490 rfl (by omega) (by omega)
  have l2496 : ((0 : Int32)).toInt = 0 := rfl
  refine Tp_le (fun t2494 E2495 => ?_)
  have l2498 : (6 : Int32).toInt = 6 := rfl
  have ci2497 := CI_p2 ci2492 E2495 rfl (by omega) (by omega)
  refine Tp_le (fun t2499 E2500 => ?_)
  have ci2501 := CI_p0 ci2497 E2500 rfl
  refine Tp_so ?_
  exact ci2501
set_option maxRecDepth 4000 in
set_option maxHeartbeats 8000000 in
theorem s_RE_takeWord {n : Nat} {L : Int32} (hn : 8589934592 ≤ n) {t : mz_St}  (ci : CI L t)  : Tp (f_RE_takeWord n t) (fun r => CI L r.2 ∧ 0 ≤ (r.1).toInt ∧ (r.1).toInt ≤ 1) := by
  unfold f_RE_takeWord
  have b2504 := CI_g1 ci (c := 6) (p := 2) rfl
  have b2505 := CI_g1 ci (c := 6) (p := 3) rfl
  refine Tp_bi (s_SI_behindBlanks hn ci  (t := t) (x1 := mz_gI t 6 2) (x2 := mz_gI t 6 3)) (fun q2502 h2503 => ?_)
  obtain ⟨ci2506, E2507, p2508, p2509⟩ := h2503
  try rw [E2507]
  have i2512 := ti_rg q2502.1
  refine Tp_le (fun t2510 E2511 => ?_)
  have l2514 : (2 : Int32).toInt = 2 := rfl
  have ci2513 := CI_p1 ci E2511 rfl (by omega) (by omega)
  have b2517 := CI_g1 ci2513 (c := 6) (p := 2) rfl
  have e2518 : (mz_gI t2510 6 2).toInt = (q2502.1).toInt := by rw [E2511, gI_same]
  refine Tp_le (fun t2515 E2516 => ?_)
  have l2520 : (4 : Int32).toInt = 4 := rfl
  have ci2519 := CI_p1 ci2513 E2516 rfl (by omega) (by omega)
  have b2523 := CI_g1 ci2519 (c := 6) (p := 2) rfl
  have e2524 : (mz_gI t2515 6 2).toInt = (mz_gI t2510 6 2).toInt := by rw [E2516, gI_oth _ _ (by simp)]
  have b2525 := CI_g1 ci2519 (c := 6) (p := 3) rfl
  have e2526 : (mz_gI t2515 6 3).toInt = (mz_gI t2510 6 3).toInt := by rw [E2516, gI_oth _ _ (by simp)]
  have b2527 := CI_g1 ci2513 (c := 6) (p := 3) rfl
  have e2528 : (mz_gI t2510 6 3).toInt = (mz_gI t 6 3).toInt := by rw [E2511, gI_oth _ _ (by simp)]
  refine Tp_bi (s_SI_wordEnd hn ci2519  (t := t2515) (x1 := mz_gI t2515 6 2) (x2 := mz_gI t2515 6 3)) (fun q2521 h2522 => ?_)
  obtain ⟨ci2529, E2530, p2531, p2532⟩ := h2522
  try rw [E2530]
  have i2535 := ti_rg q2521.1
  refine Tp_le (fun t2533 E2534 => ?_)
  have l2537 : (5 : Int32).toInt = 5 := rfl
  have ci2536 := CI_p1 ci2519 E2534 rfl (by omega) (by omega)
  have b2540 := CI_g1 ci2536 (c := 6) (p := 5) rfl
  have e2541 : (mz_gI t2533 6 5).toInt = (q2521.1).toInt := by rw [E2534, gI_same]
  refine Tp_le (fun t2538 E2539 => ?_)
  have ci2542 := CI_p1 ci2536 E2539 rfl (by omega) (by omega)
  refine Tp_if (fun h2543 => ?_) (fun h2543 => ?_)
  · have g2544 := ti_e h2543
    have b2545 := CI_g1 ci2542 (c := 6) (p := 5) rfl
    have e2546 : (mz_gI t2538 6 5).toInt = (mz_gI t2533 6 5).toInt := by rw [E2539, gI_oth _ _ (by simp)]
    have b2547 := CI_g1 ci2542 (c := 6) (p := 4) rfl
    have e2548 : (mz_gI t2538 6 4).toInt = (mz_gI t2533 6 4).toInt := by rw [E2539, gI_oth _ _ (by simp)]
    have b2549 := CI_g1 ci2536 (c := 6) (p := 4) rfl
    have e2550 : (mz_gI t2533 6 4).toInt = (mz_gI t2515 6 4).toInt := by rw [E2534, gI_oth _ _ (by simp)]
    have b2551 := CI_g1 ci2519 (c := 6) (p := 4) rfl
    have e2552 : (mz_gI t2515 6 4).toInt = (mz_gI t2510 6 2).toInt := by rw [E2516, gI_same]
    refine Tp_so ?_
    have l2553 : ((0 : Int32)).toInt = 0 := rfl
    refine ⟨ci2542, ?_, ?_⟩
    · (try dsimp only) <;> first | omega | assumption
    · (try dsimp only) <;> first | omega | assumption
  · have g2554 := ti_ne h2543
    have b2555 := CI_g1 ci2542 (c := 6) (p := 5) rfl
    have e2556 : (mz_gI t2538 6 5).toInt = (mz_gI t2533 6 5).toInt := by rw [E2539, gI_oth _ _ (by simp)]
    have b2557 := CI_g1 ci2542 (c := 6) (p := 4) rfl
    have e2558 : (mz_gI t2538 6 4).toInt = (mz_gI t2533 6 4).toInt := by rw [E2539, gI_oth _ _ (by simp)]
    have b2559 := CI_g1 ci2536 (c := 6) (p := 4) rfl
    have e2560 : (mz_gI t2533 6 4).toInt = (mz_gI t2515 6 4).toInt := by rw [E2534, gI_oth _ _ (by simp)]
    have b2561 := CI_g1 ci2519 (c := 6) (p := 4) rfl
    have e2562 : (mz_gI t2515 6 4).toInt = (mz_gI t2510 6 2).toInt := by rw [E2516, gI_same]
    refine Tp_if (fun h2563 => ?_) (fun h2563 => ?_)
    · have g2564 := ti_l h2563
      have l2565 : ((12 : Int32)).toInt = 12 := rfl
      first | (have a2566 : ((mz_gI t2538 6 5) - (mz_gI t2538 6 4)).toInt = (mz_gI t2538 6 5).toInt - (mz_gI t2538 6 4).toInt := ti_sub (by omega) (by omega)) | (have a2567 := ti_rg ((mz_gI t2538 6 5) - (mz_gI t2538 6 4)))
      refine Tp_so ?_
      have l2568 : ((0 : Int32)).toInt = 0 := rfl
      refine ⟨ci2542, ?_, ?_⟩
      · (try dsimp only) <;> first | omega | assumption
      · (try dsimp only) <;> first | omega | assumption
    · have g2569 := ti_nl h2563
      have l2570 : ((12 : Int32)).toInt = 12 := rfl
      first | (have a2571 : ((mz_gI t2538 6 5) - (mz_gI t2538 6 4)).toInt = (mz_gI t2538 6 5).toInt - (mz_gI t2538 6 4).toInt := ti_sub (by omega) (by omega)) | (have a2572 := ti_rg ((mz_gI t2538 6 5) - (mz_gI t2538 6 4)))
      refine Tp_so ?_
      have l2573 : ((1 : Int32)).toInt = 1 := rfl
      refine ⟨ci2542, ?_, ?_⟩
      · (try dsimp only) <;> first | omega | assumption
      · (try dsimp only) <;> first | omega | assumption
set_option maxRecDepth 4000 in
set_option maxHeartbeats 8000000 in
theorem s_RE_take {n : Nat} {L : Int32} (hn : 8589934592 ≤ n) {x1 : Int32} {t : mz_St}  (ci : CI L t)  : Tp (f_RE_take n x1 t) (fun r => CI L r.2 ∧ 0 ≤ (r.1).toInt ∧ (r.1).toInt ≤ 1) := by
  unfold f_RE_take
  have b2576 := CI_g1 ci (c := 6) (p := 2) rfl
  have b2577 := CI_g1 ci (c := 6) (p := 3) rfl
  refine Tp_bi (s_SI_behindBlanks hn ci  (t := t) (x1 := mz_gI t 6 2) (x2 := mz_gI t 6 3)) (fun q2574 h2575 => ?_)
  obtain ⟨ci2578, E2579, p2580, p2581⟩ := h2575
  try rw [E2579]
  have i2584 := ti_rg q2574.1
  refine Tp_le (fun t2582 E2583 => ?_)
  have l2586 : (2 : Int32).toInt = 2 := rfl
  have ci2585 := CI_p1 ci E2583 rfl (by omega) (by omega)
  refine Tp_if (fun h2587 => ?_) (fun h2587 => ?_)
  · have g2588 := ti_e h2587
    have b2589 := CI_g1 ci2585 (c := 6) (p := 3) rfl
    have e2590 : (mz_gI t2582 6 3).toInt = (mz_gI t 6 3).toInt := by rw [E2583, gI_oth _ _ (by simp)]
    have b2591 := CI_g1 ci2585 (c := 6) (p := 2) rfl
    have e2592 : (mz_gI t2582 6 2).toInt = (q2574.1).toInt := by rw [E2583, gI_same]
    refine Tp_so ?_
    have l2593 : ((0 : Int32)).toInt = 0 := rfl
    refine ⟨ci2585, ?_, ?_⟩
    · (try dsimp only) <;> first | omega | assumption
    · (try dsimp only) <;> first | omega | assumption
  · have g2594 := ti_ne h2587
    have b2595 := CI_g1 ci2585 (c := 6) (p := 3) rfl
    have e2596 : (mz_gI t2582 6 3).toInt = (mz_gI t 6 3).toInt := by rw [E2583, gI_oth _ _ (by simp)]
    have b2597 := CI_g1 ci2585 (c := 6) (p := 2) rfl
    have e2598 : (mz_gI t2582 6 2).toInt = (q2574.1).toInt := by rw [E2583, gI_same]
    refine Tp_bi (s_SI_at hn ci2585  (t := t2582) (x1 := mz_gI t2582 6 2)) (fun q2599 h2600 => ?_)
    obtain ⟨ci2601, E2602⟩ := h2600
    try rw [E2602]
    refine Tp_if (fun h2603 => ?_) (fun h2603 => ?_)
    · have g2604 := ti_q h2603
      have i2605 := ti_rg q2599.1
      have i2606 := ti_rg x1
      have l2609 : ((1 : Int32)).toInt = 1 := rfl
      first | (have a2610 : ((mz_gI t2582 6 2) + (1 : Int32)).toInt = (mz_gI t2582 6 2).toInt + ((1 : Int32)).toInt := ti_add (by omega) (by omega)) | (have a2611 := ti_rg ((mz_gI t2582 6 2) + (1 : Int32)))
      refine Tp_le (fun t2607 E2608 => ?_)
      have ci2612 := CI_p1 ci2585 E2608 rfl (by omega) (by omega)
      refine Tp_so ?_
      refine ⟨ci2612, ?_, ?_⟩
      · (try dsimp only) <;> first | omega | assumption
      · (try dsimp only) <;> first | omega | assumption
    · have g2613 := ti_nq h2603
      have i2614 := ti_rg q2599.1
      have i2615 := ti_rg x1
      refine Tp_so ?_
      have l2616 : ((0 : Int32)).toInt = 0 := rfl
      refine ⟨ci2585, ?_, ?_⟩
      · (try dsimp only) <;> first | omega | assumption
      · (try dsimp only) <;> first | omega | assumption
set_option maxRecDepth 4000 in
set_option maxHeartbeats 8000000 in
theorem s_RE_meet {n : Nat} {L : Int32} (hn : 8589934592 ≤ n) {x1 : Int32} {t : mz_St}  (ci : CI L t)  : Tp (f_RE_meet n x1 t) (fun r => CI L r) := by
  unfold f_RE_meet
  refine Tp_if (fun h2617 => ?_) (fun h2617 => ?_)
  · have g2618 := ti_q h2617
    have i2619 := ti_rg (mz_gI t 6 7)
    have l2620 : (0 : Int32).toInt = 0 := rfl
    have i2623 := ti_rg x1
    refine Tp_le (fun t2621 E2622 => ?_)
    have ci2624 := CI_p0 ci E2622 rfl
    refine Tp_so ?_
    exact ci2624
  · have g2625 := ti_nq h2617
    have i2626 := ti_rg (mz_gI t 6 7)
    have l2627 : (0 : Int32).toInt = 0 := rfl
    refine Tp_so ?_
    exact ci
set_option maxRecDepth 4000 in
set_option maxHeartbeats 8000000 in
theorem s_RE_divisor {n : Nat} {L : Int32} (hn : 8589934592 ≤ n) {x1 : Int32} {t : mz_St}  (ci : CI L t)  : Tp (f_RE_divisor n x1 t) (fun r => CI L r.2) := by
  unfold f_RE_divisor
  refine Tp_if (fun h2628 => ?_) (fun h2628 => ?_)
  · have g2629 := ti_q h2628
    have i2630 := ti_rg x1
    have l2631 : (0 : Int32).toInt = 0 := rfl
    have l2634 : ((4 : Int32)).toInt = 4 := rfl
    refine Tp_bi (s_RE_meet hn ci  (t := t) (x1 := (4 : Int32))) (fun q2632 h2633 => ?_)
    have ci2635 := h2633
    refine Tp_so ?_
    exact ci2635
  · have g2636 := ti_nq h2628
    have i2637 := ti_rg x1
    have l2638 : (0 : Int32).toInt = 0 := rfl
    refine Tp_so ?_
    exact ci
set_option maxRecDepth 4000 in
set_option maxHeartbeats 8000000 in
theorem l_RE_product_8 {n : Nat} {L : Int32} (hn : 8589934592 ≤ n) {fa : Int32 → mz_St → Option (Int32 × mz_St)}  : ∀ (k : Nat) (x1 : Int32) (x2 : Int32) (x3 : Int32) (t : mz_St), CI L t → (∀ t : mz_St, CI L t → Tp (fa x1 t) (fun r => CI L r.2)) → (0 ≤ x3.toInt) → (2147483648 - x3.toInt).toNat < k → Tp (f_RE_product_8 n fa k x1 x2 x3 t) (fun r => CI L r.2) := by
  intro k
  induction k with
  | zero => intros; omega
  | succ k ih =>
    intro x1 x2 x3 t ci i0 i1 hm
    unfold f_RE_product_8
    have hfa := i0
    refine Tp_if (fun h2639 => ?_) (fun h2639 => ?_)
    · have g2640 := ti_e h2639
      have l2641 : ((3000 : Int32)).toInt = 3000 := rfl
      have i2642 := ti_rg x3
      refine Tp_so ?_
      have i2643 := ti_rg x2
      exact ci
    · have g2644 := ti_ne h2639
      have l2645 : ((3000 : Int32)).toInt = 3000 := rfl
      have i2646 := ti_rg x3
      refine Tp_if (fun h2647 => ?_) (fun h2647 => ?_)
      · have g2648 := ti_q h2647
        have b2649 := CI_g2 ci (c := 6) (p := 6) rfl
        have l2650 : (0 : Int32).toInt = 0 := rfl
        have l2653 : ((42 : Int32)).toInt = 42 := rfl
        refine Tp_bi (s_RE_take hn ci  (t := t) (x1 := (42 : Int32))) (fun q2651 h2652 => ?_)
        obtain ⟨ci2654, p2655, p2656⟩ := h2652
        refine Tp_if (fun h2657 => ?_) (fun h2657 => ?_)
        · have g2658 := ti_q h2657
          have i2659 := ti_rg q2651.1
          have l2662 : ((47 : Int32)).toInt = 47 := rfl
          refine Tp_bi (s_RE_take hn ci2654  (t := q2651.2) (x1 := (47 : Int32))) (fun q2660 h2661 => ?_)
          obtain ⟨ci2663, p2664, p2665⟩ := h2661
          refine Tp_if (fun h2666 => ?_) (fun h2666 => ?_)
          · have g2667 := ti_q h2666
            have i2668 := ti_rg q2660.1
            have l2671 : ((37 : Int32)).toInt = 37 := rfl
            refine Tp_bi (s_RE_take hn ci2663  (t := q2660.2) (x1 := (37 : Int32))) (fun q2669 h2670 => ?_)
            obtain ⟨ci2672, p2673, p2674⟩ := h2670
            refine Tp_if (fun h2675 => ?_) (fun h2675 => ?_)
            · have g2676 := ti_q h2675
              have i2677 := ti_rg q2669.1
              refine Tp_so ?_
              have i2678 := ti_rg x2
              exact ci2672
            · have g2679 := ti_nq h2675
              have i2680 := ti_rg q2669.1
              have i2683 := ti_rg x1
              refine Tp_bi (hfa q2669.2 ci2672) (fun q2681 h2682 => ?_)
              have ci2684 := h2682
              have i2687 := ti_rg q2681.1
              refine Tp_bi (s_RE_divisor hn ci2684  (t := q2681.2) (x1 := q2681.1)) (fun q2685 h2686 => ?_)
              have ci2688 := h2686
              refine Tp_if (fun h2689 => ?_) (fun h2689 => ?_)
              · have g2690 := ti_q h2689
                have i2691 := ti_rg q2685.1
                unfold f_RE_product_112
                unfold f_RE_product_118
                have l2692 : ((0 : Int32)).toInt = 0 := rfl
                have l2693 : ((1 : Int32)).toInt = 1 := rfl
                first | (have a2694 : (x3 + (1 : Int32)).toInt = (x3).toInt + ((1 : Int32)).toInt := ti_add (by omega) (by omega)) | (have a2695 := ti_rg (x3 + (1 : Int32)))
                exact ih x1 (0 : Int32) (x3 + (1 : Int32)) q2685.2 ci2688 i0 (by omega) (by omega)
              · have g2696 := ti_nq h2689
                have i2697 := ti_rg q2685.1
                refine Tp_gd (ti_n0 (by omega)) ?_
                unfold f_RE_product_112
                unfold f_RE_product_118
                have i2698 := ti_rg x2
                have a2699 := ti_rg (x2 / q2685.1)
                have a2700 := ti_rg ((x2 / q2685.1) * q2685.1)
                first | (have a2701 : (x2 - ((x2 / q2685.1) * q2685.1)).toInt = (x2).toInt - ((x2 / q2685.1) * q2685.1).toInt := ti_sub (by omega) (by omega)) | (have a2702 := ti_rg (x2 - ((x2 / q2685.1) * q2685.1)))
                have l2703 : ((1 : Int32)).toInt = 1 := rfl
                first | (have a2704 : (x3 + (1 : Int32)).toInt = (x3).toInt + ((1 : Int32)).toInt := ti_add (by omega) (by omega)) | (have a2705 := ti_rg (x3 + (1 : Int32)))
                exact ih x1 (x2 - ((x2 / q2685.1) * q2685.1)) (x3 + (1 : Int32)) q2685.2 ci2688 i0 (by omega) (by omega)
          · have g2706 := ti_nq h2666
            have i2707 := ti_rg q2660.1
            have i2710 := ti_rg x1
            refine Tp_bi (hfa q2660.2 ci2663) (fun q2708 h2709 => ?_)
            have ci2711 := h2709
            have i2714 := ti_rg q2708.1
            refine Tp_bi (s_RE_divisor hn ci2711  (t := q2708.2) (x1 := q2708.1)) (fun q2712 h2713 => ?_)
            have ci2715 := h2713
            refine Tp_if (fun h2716 => ?_) (fun h2716 => ?_)
            · have g2717 := ti_q h2716
              have i2718 := ti_rg q2712.1
              unfold f_RE_product_75
              unfold f_RE_product_118
              have l2719 : ((0 : Int32)).toInt = 0 := rfl
              have l2720 : ((1 : Int32)).toInt = 1 := rfl
              first | (have a2721 : (x3 + (1 : Int32)).toInt = (x3).toInt + ((1 : Int32)).toInt := ti_add (by omega) (by omega)) | (have a2722 := ti_rg (x3 + (1 : Int32)))
              exact ih x1 (0 : Int32) (x3 + (1 : Int32)) q2712.2 ci2715 i0 (by omega) (by omega)
            · have g2723 := ti_nq h2716
              have i2724 := ti_rg q2712.1
              refine Tp_gd (ti_n0 (by omega)) ?_
              unfold f_RE_product_75
              unfold f_RE_product_118
              have i2725 := ti_rg x2
              have a2726 := ti_rg (x2 / q2712.1)
              have l2727 : ((1 : Int32)).toInt = 1 := rfl
              first | (have a2728 : (x3 + (1 : Int32)).toInt = (x3).toInt + ((1 : Int32)).toInt := ti_add (by omega) (by omega)) | (have a2729 := ti_rg (x3 + (1 : Int32)))
              exact ih x1 (x2 / q2712.1) (x3 + (1 : Int32)) q2712.2 ci2715 i0 (by omega) (by omega)
        · have g2730 := ti_nq h2657
          have i2731 := ti_rg q2651.1
          have i2734 := ti_rg x1
          refine Tp_bi (hfa q2651.2 ci2654) (fun q2732 h2733 => ?_)
          have ci2735 := h2733
          unfold f_RE_product_118
          have i2736 := ti_rg x2
          have i2737 := ti_rg q2732.1
          have a2738 := ti_rg (x2 * q2732.1)
          have l2739 : ((1 : Int32)).toInt = 1 := rfl
          first | (have a2740 : (x3 + (1 : Int32)).toInt = (x3).toInt + ((1 : Int32)).toInt := ti_add (by omega) (by omega)) | (have a2741 := ti_rg (x3 + (1 : Int32)))
          exact ih x1 (x2 * q2732.1) (x3 + (1 : Int32)) q2732.2 ci2735 i0 (by omega) (by omega)
      · have g2742 := ti_nq h2647
        have b2743 := CI_g2 ci (c := 6) (p := 6) rfl
        have l2744 : (0 : Int32).toInt = 0 := rfl
        refine Tp_so ?_
        have i2745 := ti_rg x2
        exact ci
set_option maxRecDepth 4000 in
set_option maxHeartbeats 8000000 in
theorem s_RE_product {n : Nat} {L : Int32} (hn : 8589934592 ≤ n) {fa : Int32 → mz_St → Option (Int32 × mz_St)} {x1 : Int32} {t : mz_St} (hfa : ∀ t : mz_St, CI L t → Tp (fa x1 t) (fun r => CI L r.2))  (ci : CI L t)  : Tp (f_RE_product n fa x1 t) (fun r => CI L r.2) := by
  unfold f_RE_product
  have i2748 := ti_rg x1
  refine Tp_bi (hfa t ci) (fun q2746 h2747 => ?_)
  have ci2749 := h2747
  have i2750 := ti_rg q2746.1
  have l2751 : ((0 : Int32)).toInt = 0 := rfl
  refine Tp_mo (l_RE_product_8 hn  n x1 q2746.1 (0 : Int32) q2746.2 ci2749 hfa (by omega) (by omega)) (fun q2752 h2753 => ?_)
  have ci2754 := h2753
  have i2755 := ti_rg q2752.1
  exact ci2754
set_option maxRecDepth 4000 in
set_option maxHeartbeats 8000000 in
theorem l_RE_sum_8 {n : Nat} {L : Int32} (hn : 8589934592 ≤ n) {fa : Int32 → mz_St → Option (Int32 × mz_St)}  : ∀ (k : Nat) (x1 : Int32) (x2 : Int32) (x3 : Int32) (t : mz_St), CI L t → (∀ t : mz_St, CI L t → Tp (fa x1 t) (fun r => CI L r.2)) → (0 ≤ x3.toInt) → (2147483648 - x3.toInt).toNat < k → Tp (f_RE_sum_8 n fa k x1 x2 x3 t) (fun r => CI L r.2) := by
  intro k
  induction k with
  | zero => intros; omega
  | succ k ih =>
    intro x1 x2 x3 t ci i0 i1 hm
    unfold f_RE_sum_8
    have hfa := i0
    refine Tp_if (fun h2756 => ?_) (fun h2756 => ?_)
    · have g2757 := ti_e h2756
      have l2758 : ((3000 : Int32)).toInt = 3000 := rfl
      have i2759 := ti_rg x3
      refine Tp_so ?_
      have i2760 := ti_rg x2
      exact ci
    · have g2761 := ti_ne h2756
      have l2762 : ((3000 : Int32)).toInt = 3000 := rfl
      have i2763 := ti_rg x3
      refine Tp_if (fun h2764 => ?_) (fun h2764 => ?_)
      · have g2765 := ti_q h2764
        have b2766 := CI_g2 ci (c := 6) (p := 6) rfl
        have l2767 : (0 : Int32).toInt = 0 := rfl
        have l2770 : ((43 : Int32)).toInt = 43 := rfl
        refine Tp_bi (s_RE_take hn ci  (t := t) (x1 := (43 : Int32))) (fun q2768 h2769 => ?_)
        obtain ⟨ci2771, p2772, p2773⟩ := h2769
        refine Tp_if (fun h2774 => ?_) (fun h2774 => ?_)
        · have g2775 := ti_q h2774
          have i2776 := ti_rg q2768.1
          have l2779 : ((45 : Int32)).toInt = 45 := rfl
          refine Tp_bi (s_RE_take hn ci2771  (t := q2768.2) (x1 := (45 : Int32))) (fun q2777 h2778 => ?_)
          obtain ⟨ci2780, p2781, p2782⟩ := h2778
          refine Tp_if (fun h2783 => ?_) (fun h2783 => ?_)
          · have g2784 := ti_q h2783
            have i2785 := ti_rg q2777.1
            refine Tp_so ?_
            have i2786 := ti_rg x2
            exact ci2780
          · have g2787 := ti_nq h2783
            have i2788 := ti_rg q2777.1
            have i2791 := ti_rg x1
            refine Tp_bi (s_RE_product hn ci2780  (t := q2777.2) (fa := fa) (x1 := x1) (hfa := hfa)) (fun q2789 h2790 => ?_)
            have ci2792 := h2790
            unfold f_RE_sum_64
            have i2793 := ti_rg x2
            have i2794 := ti_rg q2789.1
            first | (have a2795 : (x2 - q2789.1).toInt = (x2).toInt - (q2789.1).toInt := ti_sub (by omega) (by omega)) | (have a2796 := ti_rg (x2 - q2789.1))
            have l2797 : ((1 : Int32)).toInt = 1 := rfl
            first | (have a2798 : (x3 + (1 : Int32)).toInt = (x3).toInt + ((1 : Int32)).toInt := ti_add (by omega) (by omega)) | (have a2799 := ti_rg (x3 + (1 : Int32)))
            exact ih x1 (x2 - q2789.1) (x3 + (1 : Int32)) q2789.2 ci2792 i0 (by omega) (by omega)
        · have g2800 := ti_nq h2774
          have i2801 := ti_rg q2768.1
          have i2804 := ti_rg x1
          refine Tp_bi (s_RE_product hn ci2771  (t := q2768.2) (fa := fa) (x1 := x1) (hfa := hfa)) (fun q2802 h2803 => ?_)
          have ci2805 := h2803
          unfold f_RE_sum_64
          have i2806 := ti_rg x2
          have i2807 := ti_rg q2802.1
          first | (have a2808 : (x2 + q2802.1).toInt = (x2).toInt + (q2802.1).toInt := ti_add (by omega) (by omega)) | (have a2809 := ti_rg (x2 + q2802.1))
          have l2810 : ((1 : Int32)).toInt = 1 := rfl
          first | (have a2811 : (x3 + (1 : Int32)).toInt = (x3).toInt + ((1 : Int32)).toInt := ti_add (by omega) (by omega)) | (have a2812 := ti_rg (x3 + (1 : Int32)))
          exact ih x1 (x2 + q2802.1) (x3 + (1 : Int32)) q2802.2 ci2805 i0 (by omega) (by omega)
      · have g2813 := ti_nq h2764
        have b2814 := CI_g2 ci (c := 6) (p := 6) rfl
        have l2815 : (0 : Int32).toInt = 0 := rfl
        refine Tp_so ?_
        have i2816 := ti_rg x2
        exact ci
set_option maxRecDepth 4000 in
set_option maxHeartbeats 8000000 in
theorem s_RE_sum {n : Nat} {L : Int32} (hn : 8589934592 ≤ n) {fa : Int32 → mz_St → Option (Int32 × mz_St)} {x1 : Int32} {t : mz_St} (hfa : ∀ t : mz_St, CI L t → Tp (fa x1 t) (fun r => CI L r.2))  (ci : CI L t)  : Tp (f_RE_sum n fa x1 t) (fun r => CI L r.2) := by
  unfold f_RE_sum
  have i2819 := ti_rg x1
  refine Tp_bi (s_RE_product hn ci  (t := t) (fa := fa) (x1 := x1) (hfa := hfa)) (fun q2817 h2818 => ?_)
  have ci2820 := h2818
  have i2821 := ti_rg q2817.1
  have l2822 : ((0 : Int32)).toInt = 0 := rfl
  refine Tp_mo (l_RE_sum_8 hn  n x1 q2817.1 (0 : Int32) q2817.2 ci2820 hfa (by omega) (by omega)) (fun q2823 h2824 => ?_)
  have ci2825 := h2824
  have i2826 := ti_rg q2823.1
  exact ci2825
