/-! TOTAL: written by vcg.py -/
set_option maxRecDepth 4000 in
set_option maxHeartbeats 8000000 in
theorem s_MO_takeLine {n : Nat} {s : mz_St} (hn : 8589934592 ≤ n) {x1 : Int32} {t : mz_St}  (ci : MI s t) (i0 : 0 ≤ x1.toInt) (i1 : x1.toInt ≤ 3000) : Tp (f_MO_takeLine n x1 t) (fun r => MI s r.2 ∧ 0 ≤ (r.1).toInt ∧ (¬ (r.1).toInt = 0 ∨ (mz_gI s 0 34).toInt ≤ 1 ∨ (mz_gI r.2 0 60).toInt ≤ 300) ∧ (¬ (mz_gI s 0 34).toInt = 1 ∨ (mz_gI r.2 0 60).toInt ≤ (mz_gI s 3 x1.toNatClampNeg).toInt - (mz_gI s 2 x1.toNatClampNeg).toInt)) := by
  unfold f_MO_takeLine
  have l1794 : ((0 : Int32)).toInt = 0 := rfl
  refine Tp_le (fun t1792 E1793 => ?_)
  have l1796 : (60 : Int32).toInt = 60 := rfl
  have ci1795 := MI_p23 ci E1793 rfl (by omega) (by omega)
  have i1797 := ti_rg x1
  refine Tp_gd (ti_ix (by omega) (by omega)) ?_
  have l1798 : ((1 : Int32)).toInt = 1 := rfl
  have b1799 := MI_13 ci1795 (c := 2) (p := x1.toNatClampNeg) rfl
  have b1800 := FX_2 ci1795.1 x1.toNatClampNeg
  have b1801 := FX_l ci1795.1 x1.toNatClampNeg
  have b1802 := MI_g23 ci1795 (c := 0) (p := 60) rfl
  have e1803 : (mz_gI t1792 0 60).toInt = ((0 : Int32)).toInt := by rw [E1793, gI_same]
  refine Tp_mo (l_MO_takeLine_14 hn  n x1 (1 : Int32) (mz_gI t1792 2 x1.toNatClampNeg) t1792 ci1795 (by omega) (by omega) (by omega) (by omega) (by omega) (by omega) (by omega)) (fun q1804 h1805 => ?_)
  obtain ⟨ci1806, p1807, p1808, p1809⟩ := h1805
  have b1810 := MI_g23 ci1806 (c := 0) (p := 60) rfl
  have i1811 := ti_rg q1804.1
  have b1812 := MI_g23 ci (c := 0) (p := 60) rfl
  refine ⟨ci1806, ?_, ?_, ?_⟩
  · (try dsimp only) <;> first | omega | assumption
  · (try dsimp only) <;> first | omega | assumption
  · (try dsimp only) <;> first | omega | assumption
set_option maxRecDepth 4000 in
set_option maxHeartbeats 8000000 in
theorem s_MO_here {n : Nat} {s : mz_St} (hn : 8589934592 ≤ n) {t : mz_St}  (ci : MI s t)  : Tp (f_MO_here n t) (fun r => MI s r.2 ∧ r.2 = t ∧ ((r.1).toInt = -1 ∨ (mz_gI t 0 61).toInt < (mz_gI t 0 60).toInt)) := by
  unfold f_MO_here
  have b1813 := MI_g24 ci (c := 0) (p := 61) rfl
  have b1814 := MI_g23 ci (c := 0) (p := 60) rfl
  refine Tp_if (fun h1815 => ?_) (fun h1815 => ?_)
  · have g1816 := ti_e h1815
    refine Tp_so ?_
    have l1817 : ((-1 : Int32)).toInt = -1 := rfl
    refine ⟨ci, rfl, ?_⟩
    · (try dsimp only) <;> first | omega | assumption
  · have g1818 := ti_ne h1815
    refine Tp_gd (ti_ix (by omega) (by omega)) ?_
    refine Tp_so ?_
    have i1819 := ti_rg (mz_gI t 43 (mz_gI t 0 61).toNatClampNeg)
    refine ⟨ci, rfl, ?_⟩
    · (try dsimp only) <;> first | omega | assumption
set_option maxRecDepth 4000 in
set_option maxHeartbeats 8000000 in
theorem l_MO_blanks_0 {n : Nat} {s : mz_St} (hn : 8589934592 ≤ n) (g0 : Int) (g1 : Int) (g2 : Int) : ∀ (k : Nat) (t : mz_St), MI s t → ((mz_gI t 0 60).toInt = g1) → (g0 ≤ (mz_gI t 0 61).toInt) → (((mz_gI t 0 61).toInt ≤ g1 ∨ (mz_gI t 0 61).toInt = g0)) → ((mz_gI t 0 62).toInt = g2) → (2147483648 - (mz_gI t 0 61).toInt).toNat < k → Tp (f_MO_blanks_0 n k t) (fun r => MI s r ∧ (mz_gI r 0 60).toInt = g1 ∧ g0 ≤ (mz_gI r 0 61).toInt ∧ ((mz_gI r 0 61).toInt ≤ g1 ∨ (mz_gI r 0 61).toInt = g0) ∧ (mz_gI r 0 62).toInt = g2) := by
  intro k
  induction k with
  | zero => intros; omega
  | succ k ih =>
    intro t ci i0 i1 i2 i3 hm
    unfold f_MO_blanks_0
    have b1820 := MI_g23 ci (c := 0) (p := 60) rfl
    have b1821 := MI_g24 ci (c := 0) (p := 61) rfl
    have b1822 := MI_g2 ci (c := 0) (p := 62) rfl
    refine Tp_bi (s_MO_here hn ci  (t := t)) (fun q1823 h1824 => ?_)
    obtain ⟨ci1825, E1826, p1827⟩ := h1824
    try rw [E1826]
    refine Tp_if (fun h1828 => ?_) (fun h1828 => ?_)
    · have g1829 := ti_q h1828
      have i1830 := ti_rg q1823.1
      have l1831 : ((32 : Int32)).toInt = 32 := rfl
      have l1834 : ((1 : Int32)).toInt = 1 := rfl
      first | (have a1835 : ((mz_gI t 0 61) + (1 : Int32)).toInt = (mz_gI t 0 61).toInt + ((1 : Int32)).toInt := ti_add (by omega) (by omega)) | (have a1836 := ti_rg ((mz_gI t 0 61) + (1 : Int32)))
      refine Tp_le (fun t1832 E1833 => ?_)
      have l1838 : (61 : Int32).toInt = 61 := rfl
      have ci1837 := MI_p24 ci E1833 rfl (by omega) (by omega)
      have b1839 := MI_g23 ci1837 (c := 0) (p := 60) rfl
      have e1840 : (mz_gI t1832 0 60).toInt = (mz_gI t 0 60).toInt := by rw [E1833, gI_oth _ _ (by simp)]
      have b1841 := MI_g24 ci1837 (c := 0) (p := 61) rfl
      have e1842 : (mz_gI t1832 0 61).toInt = ((mz_gI t 0 61) + (1 : Int32)).toInt := by rw [E1833, gI_same]
      have b1843 := MI_g2 ci1837 (c := 0) (p := 62) rfl
      have e1844 : (mz_gI t1832 0 62).toInt = (mz_gI t 0 62).toInt := by rw [E1833, gI_oth _ _ (by simp)]
      exact ih t1832 ci1837 (by omega) (by omega) (by omega) (by omega) (by omega)
    · have g1845 := ti_nq h1828
      have i1846 := ti_rg q1823.1
      have l1847 : ((32 : Int32)).toInt = 32 := rfl
      refine Tp_so ?_
      refine ⟨ci, ?_, ?_, ?_, ?_⟩
      · (try dsimp only) <;> first | omega | assumption
      · (try dsimp only) <;> first | omega | assumption
      · (try dsimp only) <;> first | omega | assumption
      · (try dsimp only) <;> first | omega | assumption
set_option maxRecDepth 4000 in
set_option maxHeartbeats 8000000 in
theorem s_MO_blanks {n : Nat} {s : mz_St} (hn : 8589934592 ≤ n) {t : mz_St}  (ci : MI s t)  : Tp (f_MO_blanks n t) (fun r => MI s r ∧ (mz_gI r 0 60).toInt = (mz_gI t 0 60).toInt ∧ (mz_gI t 0 61).toInt ≤ (mz_gI r 0 61).toInt ∧ ((mz_gI r 0 61).toInt ≤ (mz_gI r 0 60).toInt ∨ (mz_gI r 0 61).toInt = (mz_gI t 0 61).toInt) ∧ (mz_gI r 0 62).toInt = (mz_gI t 0 62).toInt) := by
  unfold f_MO_blanks
  have b1848 := MI_g23 ci (c := 0) (p := 60) rfl
  have b1849 := MI_g24 ci (c := 0) (p := 61) rfl
  have b1850 := MI_g2 ci (c := 0) (p := 62) rfl
  refine Tp_mo (l_MO_blanks_0 hn ((mz_gI t 0 61).toInt) ((mz_gI t 0 60).toInt) ((mz_gI t 0 62).toInt) n t ci (by omega) (by omega) (by omega) (by omega) (by omega)) (fun q1851 h1852 => ?_)
  obtain ⟨ci1853, p1854, p1855, p1856, p1857⟩ := h1852
  have b1858 := MI_g23 ci1853 (c := 0) (p := 60) rfl
  have b1859 := MI_g24 ci1853 (c := 0) (p := 61) rfl
  have b1860 := MI_g2 ci1853 (c := 0) (p := 62) rfl
  refine ⟨ci1853, ?_, ?_, ?_, ?_⟩
  · (try dsimp only) <;> first | omega | assumption
  · (try dsimp only) <;> first | omega | assumption
  · (try dsimp only) <;> first | omega | assumption
  · (try dsimp only) <;> first | omega | assumption
set_option maxRecDepth 4000 in
set_option maxHeartbeats 8000000 in
theorem l_MO_beginLine_57 {n : Nat} {s : mz_St} (hn : 8589934592 ≤ n) (g0 : Int) : ∀ (k : Nat) (x1 : Int32) (x2 : Int32) (t : mz_St), MI s t → (0 ≤ x1.toInt) → (x1.toInt ≤ x2.toInt) → (x1.toInt ≤ (mz_gI t 0 60).toInt) → ((mz_gI t 0 60).toInt ≤ g0) → ((mz_gI t 0 62).toInt = 1) → (2147483648 - x2.toInt).toNat < k → Tp (f_MO_beginLine_57 n k x1 x2 t) (fun r => MI s r ∧ (mz_gI r 0 60).toInt ≤ g0 ∧ (mz_gI r 0 61).toInt = 0 ∧ (mz_gI r 0 62).toInt = 1) := by
  intro k
  induction k with
  | zero => intros; omega
  | succ k ih =>
    intro x1 x2 t ci i0 i1 i2 i3 i4 hm
    unfold f_MO_beginLine_57
    have b1861 := MI_g23 ci (c := 0) (p := 60) rfl
    have b1862 := MI_g2 ci (c := 0) (p := 62) rfl
    refine Tp_if (fun h1863 => ?_) (fun h1863 => ?_)
    · have g1864 := ti_e h1863
      have i1865 := ti_rg x2
      have i1868 := ti_rg x1
      first | (have a1869 : ((mz_gI t 0 60) - x1).toInt = (mz_gI t 0 60).toInt - (x1).toInt := ti_sub (by omega) (by omega)) | (have a1870 := ti_rg ((mz_gI t 0 60) - x1))
      refine Tp_le (fun t1866 E1867 => ?_)
      have l1872 : (60 : Int32).toInt = 60 := rfl
      have ci1871 := MI_p23 ci E1867 rfl (by omega) (by omega)
      have l1875 : ((0 : Int32)).toInt = 0 := rfl
      refine Tp_le (fun t1873 E1874 => ?_)
      have l1877 : (61 : Int32).toInt = 61 := rfl
      have ci1876 := MI_p24 ci1871 E1874 rfl (by omega) (by omega)
      refine Tp_so ?_
      have b1878 := MI_g23 ci1876 (c := 0) (p := 60) rfl
      have e1879 : (mz_gI t1873 0 60).toInt = (mz_gI t1866 0 60).toInt := by rw [E1874, gI_oth _ _ (by simp)]
      have b1880 := MI_g23 ci1871 (c := 0) (p := 60) rfl
      have e1881 : (mz_gI t1866 0 60).toInt = ((mz_gI t 0 60) - x1).toInt := by rw [E1867, gI_same]
      have b1882 := MI_g24 ci1876 (c := 0) (p := 61) rfl
      have e1883 : (mz_gI t1873 0 61).toInt = ((0 : Int32)).toInt := by rw [E1874, gI_same]
      have b1884 := MI_g2 ci1876 (c := 0) (p := 62) rfl
      have e1885 : (mz_gI t1873 0 62).toInt = (mz_gI t1866 0 62).toInt := by rw [E1874, gI_oth _ _ (by simp)]
      have b1886 := MI_g2 ci1871 (c := 0) (p := 62) rfl
      have e1887 : (mz_gI t1866 0 62).toInt = (mz_gI t 0 62).toInt := by rw [E1867, gI_oth _ _ (by simp)]
      refine ⟨ci1876, ?_, ?_, ?_⟩
      · (try dsimp only) <;> first | omega | assumption
      · (try dsimp only) <;> first | omega | assumption
      · (try dsimp only) <;> first | omega | assumption
    · have g1888 := ti_ne h1863
      have i1889 := ti_rg x2
      refine Tp_gd (ti_ix (by omega) (by omega)) ?_
      have i1890 := ti_rg x1
      first | (have a1891 : (x2 - x1).toInt = (x2).toInt - (x1).toInt := ti_sub (by omega) (by omega)) | (have a1892 := ti_rg (x2 - x1))
      refine Tp_gd (ti_ix (by omega) (by omega)) ?_
      have i1895 := ti_rg (mz_gI t 43 x2.toNatClampNeg)
      refine Tp_le (fun t1893 E1894 => ?_)
      have ci1896 := MI_p0 ci E1894 rfl
      have l1897 : ((1 : Int32)).toInt = 1 := rfl
      first | (have a1898 : (x2 + (1 : Int32)).toInt = (x2).toInt + ((1 : Int32)).toInt := ti_add (by omega) (by omega)) | (have a1899 := ti_rg (x2 + (1 : Int32)))
      have b1900 := MI_g23 ci1896 (c := 0) (p := 60) rfl
      have e1901 : (mz_gI t1893 0 60).toInt = (mz_gI t 0 60).toInt := by rw [E1894, gI_oth _ _ (by simp)]
      have b1902 := MI_g2 ci1896 (c := 0) (p := 62) rfl
      have e1903 : (mz_gI t1893 0 62).toInt = (mz_gI t 0 62).toInt := by rw [E1894, gI_oth _ _ (by simp)]
      exact ih x1 (x2 + (1 : Int32)) t1893 ci1896 (by omega) (by omega) (by omega) (by omega) (by omega) (by omega)
set_option maxRecDepth 4000 in
set_option maxHeartbeats 8000000 in
theorem l_MO_beginLine_0 {n : Nat} {s : mz_St} (hn : 8589934592 ≤ n) (g0 : Int) : ∀ (k : Nat) (t : mz_St), MI s t → ((mz_gI t 0 60).toInt ≤ g0) → ((mz_gI t 0 60).toInt + 2147483648).toNat < k → Tp (f_MO_beginLine_0 n k t) (fun r => MI s r ∧ (mz_gI r 0 60).toInt ≤ g0 ∧ (mz_gI r 0 61).toInt = 0 ∧ (mz_gI r 0 62).toInt = 1) := by
  intro k
  induction k with
  | zero => intros; omega
  | succ k ih =>
    intro t ci i0 hm
    unfold f_MO_beginLine_0
    have b1904 := MI_g23 ci (c := 0) (p := 60) rfl
    refine Tp_if (fun h1905 => ?_) (fun h1905 => ?_)
    · have g1906 := ti_e h1905
      have l1907 : (0 : Int32).toInt = 0 := rfl
      unfold f_MO_beginLine_36
      have l1910 : ((0 : Int32)).toInt = 0 := rfl
      refine Tp_le (fun t1908 E1909 => ?_)
      have l1912 : (61 : Int32).toInt = 61 := rfl
      have ci1911 := MI_p24 ci E1909 rfl (by omega) (by omega)
      have l1915 : ((1 : Int32)).toInt = 1 := rfl
      refine Tp_le (fun t1913 E1914 => ?_)
      have l1917 : (62 : Int32).toInt = 62 := rfl
      have ci1916 := MI_p2 ci1911 E1914 rfl (by omega) (by omega)
      refine Tp_bi (s_MO_blanks hn ci1916  (t := t1913)) (fun q1918 h1919 => ?_)
      obtain ⟨ci1920, p1921, p1922, p1923, p1924⟩ := h1919
      have b1925 := MI_g23 ci1916 (c := 0) (p := 60) rfl
      have e1926 : (mz_gI t1913 0 60).toInt = (mz_gI t1908 0 60).toInt := by rw [E1914, gI_oth _ _ (by simp)]
      have b1927 := MI_g23 ci1911 (c := 0) (p := 60) rfl
      have e1928 : (mz_gI t1908 0 60).toInt = (mz_gI t 0 60).toInt := by rw [E1909, gI_oth _ _ (by simp)]
      have b1929 := MI_g24 ci1916 (c := 0) (p := 61) rfl
      have e1930 : (mz_gI t1913 0 61).toInt = (mz_gI t1908 0 61).toInt := by rw [E1914, gI_oth _ _ (by simp)]
      have b1931 := MI_g24 ci1911 (c := 0) (p := 61) rfl
      have e1932 : (mz_gI t1908 0 61).toInt = ((0 : Int32)).toInt := by rw [E1909, gI_same]
      have b1933 := MI_g2 ci1916 (c := 0) (p := 62) rfl
      have e1934 : (mz_gI t1913 0 62).toInt = ((1 : Int32)).toInt := by rw [E1914, gI_same]
      have b1935 := MI_g23 ci1920 (c := 0) (p := 60) rfl
      have b1936 := MI_g24 ci1920 (c := 0) (p := 61) rfl
      have b1937 := MI_g2 ci1920 (c := 0) (p := 62) rfl
      refine Tp_mo (l_MO_beginLine_57 hn ((mz_gI q1918 0 60).toInt) n (mz_gI q1918 0 61) (mz_gI q1918 0 61) q1918 ci1920 (by omega) (by omega) (by omega) (by omega) (by omega) (by omega)) (fun q1938 h1939 => ?_)
      obtain ⟨ci1940, p1941, p1942, p1943⟩ := h1939
      have b1944 := MI_g23 ci1940 (c := 0) (p := 60) rfl
      have b1945 := MI_g24 ci1940 (c := 0) (p := 61) rfl
      have b1946 := MI_g2 ci1940 (c := 0) (p := 62) rfl
      refine ⟨ci1940, ?_, ?_, ?_⟩
      · (try dsimp only) <;> first | omega | assumption
      · (try dsimp only) <;> first | omega | assumption
      · (try dsimp only) <;> first | omega | assumption
    · have g1947 := ti_ne h1905
      have l1948 : (0 : Int32).toInt = 0 := rfl
      have l1949 : ((1 : Int32)).toInt = 1 := rfl
      first | (have a1950 : ((mz_gI t 0 60) - (1 : Int32)).toInt = (mz_gI t 0 60).toInt - ((1 : Int32)).toInt := ti_sub (by omega) (by omega)) | (have a1951 := ti_rg ((mz_gI t 0 60) - (1 : Int32)))
      refine Tp_gd (ti_ix (by omega) (by omega)) ?_
      refine Tp_if (fun h1952 => ?_) (fun h1952 => ?_)
      · have g1953 := ti_q h1952
        have i1954 := ti_rg (mz_gI t 43 ((mz_gI t 0 60) - (1 : Int32)).toNatClampNeg)
        have l1955 : ((32 : Int32)).toInt = 32 := rfl
        refine Tp_le (fun t1956 E1957 => ?_)
        have l1959 : (60 : Int32).toInt = 60 := rfl
        have ci1958 := MI_p23 ci E1957 rfl (by omega) (by omega)
        have b1960 := MI_g23 ci1958 (c := 0) (p := 60) rfl
        have e1961 : (mz_gI t1956 0 60).toInt = ((mz_gI t 0 60) - (1 : Int32)).toInt := by rw [E1957, gI_same]
        exact ih t1956 ci1958 (by omega) (by omega)
      · have g1962 := ti_nq h1952
        have i1963 := ti_rg (mz_gI t 43 ((mz_gI t 0 60) - (1 : Int32)).toNatClampNeg)
        have l1964 : ((32 : Int32)).toInt = 32 := rfl
        unfold f_MO_beginLine_36
        have l1967 : ((0 : Int32)).toInt = 0 := rfl
        refine Tp_le (fun t1965 E1966 => ?_)
        have l1969 : (61 : Int32).toInt = 61 := rfl
        have ci1968 := MI_p24 ci E1966 rfl (by omega) (by omega)
        refine Tp_le (fun t1970 E1971 => ?_)
        have l1973 : (62 : Int32).toInt = 62 := rfl
        have ci1972 := MI_p2 ci1968 E1971 rfl (by omega) (by omega)
        refine Tp_bi (s_MO_blanks hn ci1972  (t := t1970)) (fun q1974 h1975 => ?_)
        obtain ⟨ci1976, p1977, p1978, p1979, p1980⟩ := h1975
        have b1981 := MI_g23 ci1972 (c := 0) (p := 60) rfl
        have e1982 : (mz_gI t1970 0 60).toInt = (mz_gI t1965 0 60).toInt := by rw [E1971, gI_oth _ _ (by simp)]
        have b1983 := MI_g23 ci1968 (c := 0) (p := 60) rfl
        have e1984 : (mz_gI t1965 0 60).toInt = (mz_gI t 0 60).toInt := by rw [E1966, gI_oth _ _ (by simp)]
        have b1985 := MI_g24 ci1972 (c := 0) (p := 61) rfl
        have e1986 : (mz_gI t1970 0 61).toInt = (mz_gI t1965 0 61).toInt := by rw [E1971, gI_oth _ _ (by simp)]
        have b1987 := MI_g24 ci1968 (c := 0) (p := 61) rfl
        have e1988 : (mz_gI t1965 0 61).toInt = ((0 : Int32)).toInt := by rw [E1966, gI_same]
        have b1989 := MI_g2 ci1972 (c := 0) (p := 62) rfl
        have e1990 : (mz_gI t1970 0 62).toInt = ((1 : Int32)).toInt := by rw [E1971, gI_same]
        have b1991 := MI_g23 ci1976 (c := 0) (p := 60) rfl
        have b1992 := MI_g24 ci1976 (c := 0) (p := 61) rfl
        have b1993 := MI_g2 ci1976 (c := 0) (p := 62) rfl
        refine Tp_mo (l_MO_beginLine_57 hn ((mz_gI q1974 0 60).toInt) n (mz_gI q1974 0 61) (mz_gI q1974 0 61) q1974 ci1976 (by omega) (by omega) (by omega) (by omega) (by omega) (by omega)) (fun q1994 h1995 => ?_)
        obtain ⟨ci1996, p1997, p1998, p1999⟩ := h1995
        have b2000 := MI_g23 ci1996 (c := 0) (p := 60) rfl
        have b2001 := MI_g24 ci1996 (c := 0) (p := 61) rfl
        have b2002 := MI_g2 ci1996 (c := 0) (p := 62) rfl
        refine ⟨ci1996, ?_, ?_, ?_⟩
        · (try dsimp only) <;> first | omega | assumption
        · (try dsimp only) <;> first | omega | assumption
        · (try dsimp only) <;> first | omega | assumption
set_option maxRecDepth 4000 in
set_option maxHeartbeats 8000000 in
theorem s_MO_beginLine {n : Nat} {s : mz_St} (hn : 8589934592 ≤ n) {t : mz_St}  (ci : MI s t)  : Tp (f_MO_beginLine n t) (fun r => MI s r ∧ (mz_gI r 0 60).toInt ≤ (mz_gI t 0 60).toInt ∧ (mz_gI r 0 61).toInt = 0 ∧ (mz_gI r 0 62).toInt = 1) := by
  unfold f_MO_beginLine
  have b2003 := MI_g23 ci (c := 0) (p := 60) rfl
  refine Tp_mo (l_MO_beginLine_0 hn ((mz_gI t 0 60).toInt) n t ci (by omega) (by omega)) (fun q2004 h2005 => ?_)
  obtain ⟨ci2006, p2007, p2008, p2009⟩ := h2005
  have b2010 := MI_g23 ci2006 (c := 0) (p := 60) rfl
  have b2011 := MI_g24 ci2006 (c := 0) (p := 61) rfl
  have b2012 := MI_g24 ci (c := 0) (p := 61) rfl
  have b2013 := MI_g2 ci2006 (c := 0) (p := 62) rfl
  have b2014 := MI_g2 ci (c := 0) (p := 62) rfl
  refine ⟨ci2006, ?_, ?_, ?_⟩
  · (try dsimp only) <;> first | omega | assumption
  · (try dsimp only) <;> first | omega | assumption
  · (try dsimp only) <;> first | omega | assumption
set_option maxRecDepth 4000 in
set_option maxHeartbeats 8000000 in
theorem l_MO_word_16 {n : Nat} {s : mz_St} (hn : 8589934592 ≤ n) (g0 : Int) (g1 : Int) : ∀ (k : Nat) (x1 : Int32) (t : mz_St), MI s t → ((mz_gI t 0 60).toInt = g1) → (g0 ≤ (mz_gI t 0 61).toInt) → (((mz_gI t 0 61).toInt ≤ g1 ∨ (mz_gI t 0 61).toInt = g0)) → (0 ≤ x1.toInt) → (x1.toInt ≤ (mz_gI t 0 61).toInt) → ((x1.toInt = 0 ∨ (mz_gI t 0 61).toInt ≤ g1)) → (g0 + x1.toInt ≤ (mz_gI t 0 61).toInt) → (2147483648 - (mz_gI t 0 61).toInt).toNat < k → Tp (f_MO_word_16 n k x1 t) (fun r => MI s r ∧ (mz_gI r 0 60).toInt = g1 ∧ g0 ≤ (mz_gI r 0 61).toInt ∧ ((mz_gI r 0 61).toInt ≤ g1 ∨ (mz_gI r 0 61).toInt = g0) ∧ ((mz_gI r 0 62).toInt = 0 ∨ (mz_gI r 0 61).toInt ≤ g1) ∧ ((mz_gI r 0 62).toInt = 0 ∨ g0 < (mz_gI r 0 61).toInt)) := by
  intro k
  induction k with
  | zero => intros; omega
  | succ k ih =>
    intro x1 t ci i0 i1 i2 i3 i4 i5 i6 hm
    unfold f_MO_word_16
    have b2015 := MI_g23 ci (c := 0) (p := 60) rfl
    have b2016 := MI_g24 ci (c := 0) (p := 61) rfl
    refine Tp_if (fun h2017 => ?_) (fun h2017 => ?_)
    · have g2018 := ti_q h2017
      have i2019 := ti_rg x1
      have l2020 : (0 : Int32).toInt = 0 := rfl
      refine Tp_bi (s_MO_here hn ci  (t := t)) (fun q2021 h2022 => ?_)
      obtain ⟨ci2023, E2024, p2025⟩ := h2022
      try rw [E2024]
      have i2028 := ti_rg q2021.1
      refine Tp_bi (s_MO_isBegin hn ci  (t := t) (x0 := q2021.1)) (fun q2026 h2027 => ?_)
      obtain ⟨ci2029, E2030, p2031, p2032, p2033⟩ := h2027
      try rw [E2030]
      refine Tp_if (fun h2034 => ?_) (fun h2034 => ?_)
      · have g2035 := ti_q h2034
        have i2036 := ti_rg q2026.1
        unfold f_MO_word_132
        refine Tp_if (fun h2037 => ?_) (fun h2037 => ?_)
        · have g2038 := ti_q h2037
          have b2039 := MI_g2 ci (c := 0) (p := 62) rfl
          unfold f_MO_word_154
          unfold f_MO_word_155
          have l2040 : ((0 : Int32)).toInt = 0 := rfl
          refine Tp_gd (ti_b (by omega) (by omega)) ?_
          refine Tp_le (fun t2041 E2042 => ?_)
          have l2044 : (62 : Int32).toInt = 62 := rfl
          have ci2043 := MI_p2 ci E2042 rfl (by omega) (by omega)
          refine Tp_so ?_
          have b2045 := MI_g23 ci2043 (c := 0) (p := 60) rfl
          have e2046 : (mz_gI t2041 0 60).toInt = (mz_gI t 0 60).toInt := by rw [E2042, gI_oth _ _ (by simp)]
          have b2047 := MI_g24 ci2043 (c := 0) (p := 61) rfl
          have e2048 : (mz_gI t2041 0 61).toInt = (mz_gI t 0 61).toInt := by rw [E2042, gI_oth _ _ (by simp)]
          have b2049 := MI_g2 ci2043 (c := 0) (p := 62) rfl
          have e2050 : (mz_gI t2041 0 62).toInt = ((0 : Int32)).toInt := by rw [E2042, gI_same]
          refine ⟨ci2043, ?_, ?_, ?_, ?_, ?_⟩
          · (try dsimp only) <;> first | omega | assumption
          · (try dsimp only) <;> first | omega | assumption
          · (try dsimp only) <;> first | omega | assumption
          · (try dsimp only) <;> first | omega | assumption
          · (try dsimp only) <;> first | omega | assumption
        · have g2051 := ti_nq h2037
          have b2052 := MI_g2 ci (c := 0) (p := 62) rfl
          have l2055 : ((1 : Int32)).toInt = 1 := rfl
          have l2056 : ((12 : Int32)).toInt = 12 := rfl
          refine Tp_bi (s_MO_in hn ci  (t := t) (x0 := x1) (x1 := (1 : Int32)) (x2 := (12 : Int32))) (fun q2053 h2054 => ?_)
          obtain ⟨ci2057, E2058, p2059, p2060, p2061⟩ := h2054
          try rw [E2058]
          refine Tp_if (fun h2062 => ?_) (fun h2062 => ?_)
          · have g2063 := ti_q h2062
            have i2064 := ti_rg q2053.1
            unfold f_MO_word_154
            unfold f_MO_word_155
            have l2065 : ((0 : Int32)).toInt = 0 := rfl
            refine Tp_gd (ti_b (by omega) (by omega)) ?_
            refine Tp_le (fun t2066 E2067 => ?_)
            have l2069 : (62 : Int32).toInt = 62 := rfl
            have ci2068 := MI_p2 ci E2067 rfl (by omega) (by omega)
            refine Tp_so ?_
            have b2070 := MI_g23 ci2068 (c := 0) (p := 60) rfl
            have e2071 : (mz_gI t2066 0 60).toInt = (mz_gI t 0 60).toInt := by rw [E2067, gI_oth _ _ (by simp)]
            have b2072 := MI_g24 ci2068 (c := 0) (p := 61) rfl
            have e2073 : (mz_gI t2066 0 61).toInt = (mz_gI t 0 61).toInt := by rw [E2067, gI_oth _ _ (by simp)]
            have b2074 := MI_g2 ci2068 (c := 0) (p := 62) rfl
            have e2075 : (mz_gI t2066 0 62).toInt = ((0 : Int32)).toInt := by rw [E2067, gI_same]
            refine ⟨ci2068, ?_, ?_, ?_, ?_, ?_⟩
            · (try dsimp only) <;> first | omega | assumption
            · (try dsimp only) <;> first | omega | assumption
            · (try dsimp only) <;> first | omega | assumption
            · (try dsimp only) <;> first | omega | assumption
            · (try dsimp only) <;> first | omega | assumption
          · have g2076 := ti_nq h2062
            have i2077 := ti_rg q2053.1
            unfold f_MO_word_155
            refine Tp_gd (ti_b (by omega) (by omega)) ?_
            refine Tp_le (fun t2078 E2079 => ?_)
            have l2081 : (62 : Int32).toInt = 62 := rfl
            have ci2080 := MI_p2 ci E2079 rfl (by omega) (by omega)
            refine Tp_so ?_
            have b2082 := MI_g23 ci2080 (c := 0) (p := 60) rfl
            have e2083 : (mz_gI t2078 0 60).toInt = (mz_gI t 0 60).toInt := by rw [E2079, gI_oth _ _ (by simp)]
            have b2084 := MI_g24 ci2080 (c := 0) (p := 61) rfl
            have e2085 : (mz_gI t2078 0 61).toInt = (mz_gI t 0 61).toInt := by rw [E2079, gI_oth _ _ (by simp)]
            have b2086 := MI_g2 ci2080 (c := 0) (p := 62) rfl
            have e2087 : (mz_gI t2078 0 62).toInt = ((1 : Int32)).toInt := by rw [E2079, gI_same]
            refine ⟨ci2080, ?_, ?_, ?_, ?_, ?_⟩
            · (try dsimp only) <;> first | omega | assumption
            · (try dsimp only) <;> first | omega | assumption
            · (try dsimp only) <;> first | omega | assumption
            · (try dsimp only) <;> first | omega | assumption
            · (try dsimp only) <;> first | omega | assumption
      · have g2088 := ti_nq h2034
        have i2089 := ti_rg q2026.1
        unfold f_MO_word_43
        refine Tp_if (fun h2090 => ?_) (fun h2090 => ?_)
        · have g2091 := ti_e h2090
          have l2092 : ((8 : Int32)).toInt = 8 := rfl
          unfold f_MO_word_72
          refine Tp_le (fun t2093 E2094 => ?_)
          have ci2095 := MI_pL ci E2094
          refine Tp_if (fun h2096 => ?_) (fun h2096 => ?_)
          · have g2097 := ti_l h2096
            unfold f_MO_word_109
            unfold f_MO_word_113
            refine Tp_le (fun t2098 E2099 => ?_)
            have ci2100 := MI_pL ci2095 E2099
            have b2103 := MI_g24 ci2100 (c := 0) (p := 61) rfl
            have e2104 : (mz_gI t2098 0 61).toInt = (mz_gI t2093 0 61).toInt := by rw [E2099]; rfl
            have b2105 := MI_g24 ci2095 (c := 0) (p := 61) rfl
            have e2106 : (mz_gI t2093 0 61).toInt = (mz_gI t 0 61).toInt := by rw [E2094]; rfl
            have l2107 : ((1 : Int32)).toInt = 1 := rfl
            first | (have a2108 : ((mz_gI t2098 0 61) + (1 : Int32)).toInt = (mz_gI t2098 0 61).toInt + ((1 : Int32)).toInt := ti_add (by omega) (by omega)) | (have a2109 := ti_rg ((mz_gI t2098 0 61) + (1 : Int32)))
            refine Tp_le (fun t2101 E2102 => ?_)
            have l2111 : (61 : Int32).toInt = 61 := rfl
            have ci2110 := MI_p24 ci2100 E2102 rfl (by omega) (by omega)
            first | (have a2112 : (x1 + (1 : Int32)).toInt = (x1).toInt + ((1 : Int32)).toInt := ti_add (by omega) (by omega)) | (have a2113 := ti_rg (x1 + (1 : Int32)))
            have b2114 := MI_g23 ci2110 (c := 0) (p := 60) rfl
            have e2115 : (mz_gI t2101 0 60).toInt = (mz_gI t2098 0 60).toInt := by rw [E2102, gI_oth _ _ (by simp)]
            have b2116 := MI_g23 ci2100 (c := 0) (p := 60) rfl
            have e2117 : (mz_gI t2098 0 60).toInt = (mz_gI t2093 0 60).toInt := by rw [E2099]; rfl
            have b2118 := MI_g23 ci2095 (c := 0) (p := 60) rfl
            have e2119 : (mz_gI t2093 0 60).toInt = (mz_gI t 0 60).toInt := by rw [E2094]; rfl
            have b2120 := MI_g24 ci2110 (c := 0) (p := 61) rfl
            have e2121 : (mz_gI t2101 0 61).toInt = ((mz_gI t2098 0 61) + (1 : Int32)).toInt := by rw [E2102, gI_same]
            exact ih (x1 + (1 : Int32)) t2101 ci2110 (by omega) (by omega) (by omega) (by omega) (by omega) (by omega) (by omega) (by omega)
          · have g2122 := ti_nl h2096
            refine Tp_if (fun h2123 => ?_) (fun h2123 => ?_)
            · have g2124 := ti_e h2123
              have l2125 : ((12 : Int32)).toInt = 12 := rfl
              unfold f_MO_word_109
              unfold f_MO_word_113
              refine Tp_le (fun t2126 E2127 => ?_)
              have ci2128 := MI_pL ci2095 E2127
              have b2131 := MI_g24 ci2128 (c := 0) (p := 61) rfl
              have e2132 : (mz_gI t2126 0 61).toInt = (mz_gI t2093 0 61).toInt := by rw [E2127]; rfl
              have b2133 := MI_g24 ci2095 (c := 0) (p := 61) rfl
              have e2134 : (mz_gI t2093 0 61).toInt = (mz_gI t 0 61).toInt := by rw [E2094]; rfl
              have l2135 : ((1 : Int32)).toInt = 1 := rfl
              first | (have a2136 : ((mz_gI t2126 0 61) + (1 : Int32)).toInt = (mz_gI t2126 0 61).toInt + ((1 : Int32)).toInt := ti_add (by omega) (by omega)) | (have a2137 := ti_rg ((mz_gI t2126 0 61) + (1 : Int32)))
              refine Tp_le (fun t2129 E2130 => ?_)
              have l2139 : (61 : Int32).toInt = 61 := rfl
              have ci2138 := MI_p24 ci2128 E2130 rfl (by omega) (by omega)
              first | (have a2140 : (x1 + (1 : Int32)).toInt = (x1).toInt + ((1 : Int32)).toInt := ti_add (by omega) (by omega)) | (have a2141 := ti_rg (x1 + (1 : Int32)))
              have b2142 := MI_g23 ci2138 (c := 0) (p := 60) rfl
              have e2143 : (mz_gI t2129 0 60).toInt = (mz_gI t2126 0 60).toInt := by rw [E2130, gI_oth _ _ (by simp)]
              have b2144 := MI_g23 ci2128 (c := 0) (p := 60) rfl
              have e2145 : (mz_gI t2126 0 60).toInt = (mz_gI t2093 0 60).toInt := by rw [E2127]; rfl
              have b2146 := MI_g23 ci2095 (c := 0) (p := 60) rfl
              have e2147 : (mz_gI t2093 0 60).toInt = (mz_gI t 0 60).toInt := by rw [E2094]; rfl
              have b2148 := MI_g24 ci2138 (c := 0) (p := 61) rfl
              have e2149 : (mz_gI t2129 0 61).toInt = ((mz_gI t2126 0 61) + (1 : Int32)).toInt := by rw [E2130, gI_same]
              exact ih (x1 + (1 : Int32)) t2129 ci2138 (by omega) (by omega) (by omega) (by omega) (by omega) (by omega) (by omega) (by omega)
            · have g2150 := ti_ne h2123
              have l2151 : ((12 : Int32)).toInt = 12 := rfl
              refine Tp_bi (s_MO_here hn ci2095  (t := t2093)) (fun q2152 h2153 => ?_)
              obtain ⟨ci2154, E2155, p2156⟩ := h2153
              have b2157 := MI_g24 ci2095 (c := 0) (p := 61) rfl
              have e2158 : (mz_gI t2093 0 61).toInt = (mz_gI t 0 61).toInt := by rw [E2094]; rfl
              have b2159 := MI_g23 ci2095 (c := 0) (p := 60) rfl
              have e2160 : (mz_gI t2093 0 60).toInt = (mz_gI t 0 60).toInt := by rw [E2094]; rfl
              try rw [E2155]
              unfold f_MO_word_113
              refine Tp_le (fun t2161 E2162 => ?_)
              have ci2163 := MI_pL ci2095 E2162
              have b2166 := MI_g24 ci2163 (c := 0) (p := 61) rfl
              have e2167 : (mz_gI t2161 0 61).toInt = (mz_gI t2093 0 61).toInt := by rw [E2162]; rfl
              have l2168 : ((1 : Int32)).toInt = 1 := rfl
              first | (have a2169 : ((mz_gI t2161 0 61) + (1 : Int32)).toInt = (mz_gI t2161 0 61).toInt + ((1 : Int32)).toInt := ti_add (by omega) (by omega)) | (have a2170 := ti_rg ((mz_gI t2161 0 61) + (1 : Int32)))
              refine Tp_le (fun t2164 E2165 => ?_)
              have l2172 : (61 : Int32).toInt = 61 := rfl
              have ci2171 := MI_p24 ci2163 E2165 rfl (by omega) (by omega)
              first | (have a2173 : (x1 + (1 : Int32)).toInt = (x1).toInt + ((1 : Int32)).toInt := ti_add (by omega) (by omega)) | (have a2174 := ti_rg (x1 + (1 : Int32)))
              have b2175 := MI_g23 ci2171 (c := 0) (p := 60) rfl
              have e2176 : (mz_gI t2164 0 60).toInt = (mz_gI t2161 0 60).toInt := by rw [E2165, gI_oth _ _ (by simp)]
              have b2177 := MI_g23 ci2163 (c := 0) (p := 60) rfl
              have e2178 : (mz_gI t2161 0 60).toInt = (mz_gI t2093 0 60).toInt := by rw [E2162]; rfl
              have b2179 := MI_g24 ci2171 (c := 0) (p := 61) rfl
              have e2180 : (mz_gI t2164 0 61).toInt = ((mz_gI t2161 0 61) + (1 : Int32)).toInt := by rw [E2165, gI_same]
              exact ih (x1 + (1 : Int32)) t2164 ci2171 (by omega) (by omega) (by omega) (by omega) (by omega) (by omega) (by omega) (by omega)
        · have g2181 := ti_ne h2090
          have l2182 : ((8 : Int32)).toInt = 8 := rfl
          refine Tp_bi (s_MO_here hn ci  (t := t)) (fun q2183 h2184 => ?_)
          obtain ⟨ci2185, E2186, p2187⟩ := h2184
          try rw [E2186]
          unfold f_MO_word_72
          refine Tp_le (fun t2188 E2189 => ?_)
          have ci2190 := MI_pL ci E2189
          refine Tp_if (fun h2191 => ?_) (fun h2191 => ?_)
          · have g2192 := ti_l h2191
            unfold f_MO_word_109
            unfold f_MO_word_113
            refine Tp_le (fun t2193 E2194 => ?_)
            have ci2195 := MI_pL ci2190 E2194
            have b2198 := MI_g24 ci2195 (c := 0) (p := 61) rfl
            have e2199 : (mz_gI t2193 0 61).toInt = (mz_gI t2188 0 61).toInt := by rw [E2194]; rfl
            have b2200 := MI_g24 ci2190 (c := 0) (p := 61) rfl
            have e2201 : (mz_gI t2188 0 61).toInt = (mz_gI t 0 61).toInt := by rw [E2189]; rfl
            have l2202 : ((1 : Int32)).toInt = 1 := rfl
            first | (have a2203 : ((mz_gI t2193 0 61) + (1 : Int32)).toInt = (mz_gI t2193 0 61).toInt + ((1 : Int32)).toInt := ti_add (by omega) (by omega)) | (have a2204 := ti_rg ((mz_gI t2193 0 61) + (1 : Int32)))
            refine Tp_le (fun t2196 E2197 => ?_)
            have l2206 : (61 : Int32).toInt = 61 := rfl
            have ci2205 := MI_p24 ci2195 E2197 rfl (by omega) (by omega)
            first | (have a2207 : (x1 + (1 : Int32)).toInt = (x1).toInt + ((1 : Int32)).toInt := ti_add (by omega) (by omega)) | (have a2208 := ti_rg (x1 + (1 : Int32)))
            have b2209 := MI_g23 ci2205 (c := 0) (p := 60) rfl
            have e2210 : (mz_gI t2196 0 60).toInt = (mz_gI t2193 0 60).toInt := by rw [E2197, gI_oth _ _ (by simp)]
            have b2211 := MI_g23 ci2195 (c := 0) (p := 60) rfl
            have e2212 : (mz_gI t2193 0 60).toInt = (mz_gI t2188 0 60).toInt := by rw [E2194]; rfl
            have b2213 := MI_g23 ci2190 (c := 0) (p := 60) rfl
            have e2214 : (mz_gI t2188 0 60).toInt = (mz_gI t 0 60).toInt := by rw [E2189]; rfl
            have b2215 := MI_g24 ci2205 (c := 0) (p := 61) rfl
            have e2216 : (mz_gI t2196 0 61).toInt = ((mz_gI t2193 0 61) + (1 : Int32)).toInt := by rw [E2197, gI_same]
            exact ih (x1 + (1 : Int32)) t2196 ci2205 (by omega) (by omega) (by omega) (by omega) (by omega) (by omega) (by omega) (by omega)
          · have g2217 := ti_nl h2191
            refine Tp_if (fun h2218 => ?_) (fun h2218 => ?_)
            · have g2219 := ti_e h2218
              have l2220 : ((12 : Int32)).toInt = 12 := rfl
              unfold f_MO_word_109
              unfold f_MO_word_113
              refine Tp_le (fun t2221 E2222 => ?_)
              have ci2223 := MI_pL ci2190 E2222
              have b2226 := MI_g24 ci2223 (c := 0) (p := 61) rfl
              have e2227 : (mz_gI t2221 0 61).toInt = (mz_gI t2188 0 61).toInt := by rw [E2222]; rfl
              have b2228 := MI_g24 ci2190 (c := 0) (p := 61) rfl
              have e2229 : (mz_gI t2188 0 61).toInt = (mz_gI t 0 61).toInt := by rw [E2189]; rfl
              have l2230 : ((1 : Int32)).toInt = 1 := rfl
              first | (have a2231 : ((mz_gI t2221 0 61) + (1 : Int32)).toInt = (mz_gI t2221 0 61).toInt + ((1 : Int32)).toInt := ti_add (by omega) (by omega)) | (have a2232 := ti_rg ((mz_gI t2221 0 61) + (1 : Int32)))
              refine Tp_le (fun t2224 E2225 => ?_)
              have l2234 : (61 : Int32).toInt = 61 := rfl
              have ci2233 := MI_p24 ci2223 E2225 rfl (by omega) (by omega)
              first | (have a2235 : (x1 + (1 : Int32)).toInt = (x1).toInt + ((1 : Int32)).toInt := ti_add (by omega) (by omega)) | (have a2236 := ti_rg (x1 + (1 : Int32)))
              have b2237 := MI_g23 ci2233 (c := 0) (p := 60) rfl
              have e2238 : (mz_gI t2224 0 60).toInt = (mz_gI t2221 0 60).toInt := by rw [E2225, gI_oth _ _ (by simp)]
              have b2239 := MI_g23 ci2223 (c := 0) (p := 60) rfl
              have e2240 : (mz_gI t2221 0 60).toInt = (mz_gI t2188 0 60).toInt := by rw [E2222]; rfl
              have b2241 := MI_g23 ci2190 (c := 0) (p := 60) rfl
              have e2242 : (mz_gI t2188 0 60).toInt = (mz_gI t 0 60).toInt := by rw [E2189]; rfl
              have b2243 := MI_g24 ci2233 (c := 0) (p := 61) rfl
              have e2244 : (mz_gI t2224 0 61).toInt = ((mz_gI t2221 0 61) + (1 : Int32)).toInt := by rw [E2225, gI_same]
              exact ih (x1 + (1 : Int32)) t2224 ci2233 (by omega) (by omega) (by omega) (by omega) (by omega) (by omega) (by omega) (by omega)
            · have g2245 := ti_ne h2218
              have l2246 : ((12 : Int32)).toInt = 12 := rfl
              refine Tp_bi (s_MO_here hn ci2190  (t := t2188)) (fun q2247 h2248 => ?_)
              obtain ⟨ci2249, E2250, p2251⟩ := h2248
              have b2252 := MI_g24 ci2190 (c := 0) (p := 61) rfl
              have e2253 : (mz_gI t2188 0 61).toInt = (mz_gI t 0 61).toInt := by rw [E2189]; rfl
              have b2254 := MI_g23 ci2190 (c := 0) (p := 60) rfl
              have e2255 : (mz_gI t2188 0 60).toInt = (mz_gI t 0 60).toInt := by rw [E2189]; rfl
              try rw [E2250]
              unfold f_MO_word_113
              refine Tp_le (fun t2256 E2257 => ?_)
              have ci2258 := MI_pL ci2190 E2257
              have b2261 := MI_g24 ci2258 (c := 0) (p := 61) rfl
              have e2262 : (mz_gI t2256 0 61).toInt = (mz_gI t2188 0 61).toInt := by rw [E2257]; rfl
              have l2263 : ((1 : Int32)).toInt = 1 := rfl
              first | (have a2264 : ((mz_gI t2256 0 61) + (1 : Int32)).toInt = (mz_gI t2256 0 61).toInt + ((1 : Int32)).toInt := ti_add (by omega) (by omega)) | (have a2265 := ti_rg ((mz_gI t2256 0 61) + (1 : Int32)))
              refine Tp_le (fun t2259 E2260 => ?_)
              have l2267 : (61 : Int32).toInt = 61 := rfl
              have ci2266 := MI_p24 ci2258 E2260 rfl (by omega) (by omega)
              first | (have a2268 : (x1 + (1 : Int32)).toInt = (x1).toInt + ((1 : Int32)).toInt := ti_add (by omega) (by omega)) | (have a2269 := ti_rg (x1 + (1 : Int32)))
              have b2270 := MI_g23 ci2266 (c := 0) (p := 60) rfl
              have e2271 : (mz_gI t2259 0 60).toInt = (mz_gI t2256 0 60).toInt := by rw [E2260, gI_oth _ _ (by simp)]
              have b2272 := MI_g23 ci2258 (c := 0) (p := 60) rfl
              have e2273 : (mz_gI t2256 0 60).toInt = (mz_gI t2188 0 60).toInt := by rw [E2257]; rfl
              have b2274 := MI_g24 ci2266 (c := 0) (p := 61) rfl
              have e2275 : (mz_gI t2259 0 61).toInt = ((mz_gI t2256 0 61) + (1 : Int32)).toInt := by rw [E2260, gI_same]
              exact ih (x1 + (1 : Int32)) t2259 ci2266 (by omega) (by omega) (by omega) (by omega) (by omega) (by omega) (by omega) (by omega)
    · have g2276 := ti_nq h2017
      have i2277 := ti_rg x1
      have l2278 : (0 : Int32).toInt = 0 := rfl
      refine Tp_bi (s_MO_here hn ci  (t := t)) (fun q2279 h2280 => ?_)
      obtain ⟨ci2281, E2282, p2283⟩ := h2280
      try rw [E2282]
      have i2286 := ti_rg q2279.1
      refine Tp_bi (s_MO_isWordSign hn ci  (t := t) (x0 := q2279.1)) (fun q2284 h2285 => ?_)
      obtain ⟨ci2287, E2288, p2289, p2290, p2291⟩ := h2285
      try rw [E2288]
      refine Tp_if (fun h2292 => ?_) (fun h2292 => ?_)
      · have g2293 := ti_q h2292
        have i2294 := ti_rg q2284.1
        unfold f_MO_word_132
        refine Tp_if (fun h2295 => ?_) (fun h2295 => ?_)
        · have g2296 := ti_q h2295
          have b2297 := MI_g2 ci (c := 0) (p := 62) rfl
          unfold f_MO_word_154
          unfold f_MO_word_155
          have l2298 : ((0 : Int32)).toInt = 0 := rfl
          refine Tp_gd (ti_b (by omega) (by omega)) ?_
          refine Tp_le (fun t2299 E2300 => ?_)
          have l2302 : (62 : Int32).toInt = 62 := rfl
          have ci2301 := MI_p2 ci E2300 rfl (by omega) (by omega)
          refine Tp_so ?_
          have b2303 := MI_g23 ci2301 (c := 0) (p := 60) rfl
          have e2304 : (mz_gI t2299 0 60).toInt = (mz_gI t 0 60).toInt := by rw [E2300, gI_oth _ _ (by simp)]
          have b2305 := MI_g24 ci2301 (c := 0) (p := 61) rfl
          have e2306 : (mz_gI t2299 0 61).toInt = (mz_gI t 0 61).toInt := by rw [E2300, gI_oth _ _ (by simp)]
          have b2307 := MI_g2 ci2301 (c := 0) (p := 62) rfl
          have e2308 : (mz_gI t2299 0 62).toInt = ((0 : Int32)).toInt := by rw [E2300, gI_same]
          refine ⟨ci2301, ?_, ?_, ?_, ?_, ?_⟩
          · (try dsimp only) <;> first | omega | assumption
          · (try dsimp only) <;> first | omega | assumption
          · (try dsimp only) <;> first | omega | assumption
          · (try dsimp only) <;> first | omega | assumption
          · (try dsimp only) <;> first | omega | assumption
        · have g2309 := ti_nq h2295
          have b2310 := MI_g2 ci (c := 0) (p := 62) rfl
          have l2313 : ((1 : Int32)).toInt = 1 := rfl
          have l2314 : ((12 : Int32)).toInt = 12 := rfl
          refine Tp_bi (s_MO_in hn ci  (t := t) (x0 := x1) (x1 := (1 : Int32)) (x2 := (12 : Int32))) (fun q2311 h2312 => ?_)
          obtain ⟨ci2315, E2316, p2317, p2318, p2319⟩ := h2312
          try rw [E2316]
          refine Tp_if (fun h2320 => ?_) (fun h2320 => ?_)
          · have g2321 := ti_q h2320
            have i2322 := ti_rg q2311.1
            unfold f_MO_word_154
            unfold f_MO_word_155
            have l2323 : ((0 : Int32)).toInt = 0 := rfl
            refine Tp_gd (ti_b (by omega) (by omega)) ?_
            refine Tp_le (fun t2324 E2325 => ?_)
            have l2327 : (62 : Int32).toInt = 62 := rfl
            have ci2326 := MI_p2 ci E2325 rfl (by omega) (by omega)
            refine Tp_so ?_
            have b2328 := MI_g23 ci2326 (c := 0) (p := 60) rfl
            have e2329 : (mz_gI t2324 0 60).toInt = (mz_gI t 0 60).toInt := by rw [E2325, gI_oth _ _ (by simp)]
            have b2330 := MI_g24 ci2326 (c := 0) (p := 61) rfl
            have e2331 : (mz_gI t2324 0 61).toInt = (mz_gI t 0 61).toInt := by rw [E2325, gI_oth _ _ (by simp)]
            have b2332 := MI_g2 ci2326 (c := 0) (p := 62) rfl
            have e2333 : (mz_gI t2324 0 62).toInt = ((0 : Int32)).toInt := by rw [E2325, gI_same]
            refine ⟨ci2326, ?_, ?_, ?_, ?_, ?_⟩
            · (try dsimp only) <;> first | omega | assumption
            · (try dsimp only) <;> first | omega | assumption
            · (try dsimp only) <;> first | omega | assumption
            · (try dsimp only) <;> first | omega | assumption
            · (try dsimp only) <;> first | omega | assumption
          · have g2334 := ti_nq h2320
            have i2335 := ti_rg q2311.1
            unfold f_MO_word_155
            refine Tp_gd (ti_b (by omega) (by omega)) ?_
            refine Tp_le (fun t2336 E2337 => ?_)
            have l2339 : (62 : Int32).toInt = 62 := rfl
            have ci2338 := MI_p2 ci E2337 rfl (by omega) (by omega)
            refine Tp_so ?_
            have b2340 := MI_g23 ci2338 (c := 0) (p := 60) rfl
            have e2341 : (mz_gI t2336 0 60).toInt = (mz_gI t 0 60).toInt := by rw [E2337, gI_oth _ _ (by simp)]
            have b2342 := MI_g24 ci2338 (c := 0) (p := 61) rfl
            have e2343 : (mz_gI t2336 0 61).toInt = (mz_gI t 0 61).toInt := by rw [E2337, gI_oth _ _ (by simp)]
            have b2344 := MI_g2 ci2338 (c := 0) (p := 62) rfl
            have e2345 : (mz_gI t2336 0 62).toInt = ((1 : Int32)).toInt := by rw [E2337, gI_same]
            refine ⟨ci2338, ?_, ?_, ?_, ?_, ?_⟩
            · (try dsimp only) <;> first | omega | assumption
            · (try dsimp only) <;> first | omega | assumption
            · (try dsimp only) <;> first | omega | assumption
            · (try dsimp only) <;> first | omega | assumption
            · (try dsimp only) <;> first | omega | assumption
      · have g2346 := ti_nq h2292
        have i2347 := ti_rg q2284.1
        unfold f_MO_word_43
        refine Tp_if (fun h2348 => ?_) (fun h2348 => ?_)
        · have g2349 := ti_e h2348
          have l2350 : ((8 : Int32)).toInt = 8 := rfl
          unfold f_MO_word_72
          refine Tp_le (fun t2351 E2352 => ?_)
          have ci2353 := MI_pL ci E2352
          refine Tp_if (fun h2354 => ?_) (fun h2354 => ?_)
          · have g2355 := ti_l h2354
            unfold f_MO_word_109
            unfold f_MO_word_113
            refine Tp_le (fun t2356 E2357 => ?_)
            have ci2358 := MI_pL ci2353 E2357
            have b2361 := MI_g24 ci2358 (c := 0) (p := 61) rfl
            have e2362 : (mz_gI t2356 0 61).toInt = (mz_gI t2351 0 61).toInt := by rw [E2357]; rfl
            have b2363 := MI_g24 ci2353 (c := 0) (p := 61) rfl
            have e2364 : (mz_gI t2351 0 61).toInt = (mz_gI t 0 61).toInt := by rw [E2352]; rfl
            have l2365 : ((1 : Int32)).toInt = 1 := rfl
            first | (have a2366 : ((mz_gI t2356 0 61) + (1 : Int32)).toInt = (mz_gI t2356 0 61).toInt + ((1 : Int32)).toInt := ti_add (by omega) (by omega)) | (have a2367 := ti_rg ((mz_gI t2356 0 61) + (1 : Int32)))
            refine Tp_le (fun t2359 E2360 => ?_)
            have l2369 : (61 : Int32).toInt = 61 := rfl
            have ci2368 := MI_p24 ci2358 E2360 rfl (by omega) (by omega)
            first | (have a2370 : (x1 + (1 : Int32)).toInt = (x1).toInt + ((1 : Int32)).toInt := ti_add (by omega) (by omega)) | (have a2371 := ti_rg (x1 + (1 : Int32)))
            have b2372 := MI_g23 ci2368 (c := 0) (p := 60) rfl
            have e2373 : (mz_gI t2359 0 60).toInt = (mz_gI t2356 0 60).toInt := by rw [E2360, gI_oth _ _ (by simp)]
            have b2374 := MI_g23 ci2358 (c := 0) (p := 60) rfl
            have e2375 : (mz_gI t2356 0 60).toInt = (mz_gI t2351 0 60).toInt := by rw [E2357]; rfl
            have b2376 := MI_g23 ci2353 (c := 0) (p := 60) rfl
            have e2377 : (mz_gI t2351 0 60).toInt = (mz_gI t 0 60).toInt := by rw [E2352]; rfl
            have b2378 := MI_g24 ci2368 (c := 0) (p := 61) rfl
            have e2379 : (mz_gI t2359 0 61).toInt = ((mz_gI t2356 0 61) + (1 : Int32)).toInt := by rw [E2360, gI_same]
            exact ih (x1 + (1 : Int32)) t2359 ci2368 (by omega) (by omega) (by omega) (by omega) (by omega) (by omega) (by omega) (by omega)
          · have g2380 := ti_nl h2354
            refine Tp_if (fun h2381 => ?_) (fun h2381 => ?_)
            · have g2382 := ti_e h2381
              have l2383 : ((12 : Int32)).toInt = 12 := rfl
              unfold f_MO_word_109
              unfold f_MO_word_113
              refine Tp_le (fun t2384 E2385 => ?_)
              have ci2386 := MI_pL ci2353 E2385
              have b2389 := MI_g24 ci2386 (c := 0) (p := 61) rfl
              have e2390 : (mz_gI t2384 0 61).toInt = (mz_gI t2351 0 61).toInt := by rw [E2385]; rfl
              have b2391 := MI_g24 ci2353 (c := 0) (p := 61) rfl
              have e2392 : (mz_gI t2351 0 61).toInt = (mz_gI t 0 61).toInt := by rw [E2352]; rfl
              have l2393 : ((1 : Int32)).toInt = 1 := rfl
              first | (have a2394 : ((mz_gI t2384 0 61) + (1 : Int32)).toInt = (mz_gI t2384 0 61).toInt + ((1 : Int32)).toInt := ti_add (by omega) (by omega)) | (have a2395 := ti_rg ((mz_gI t2384 0 61) + (1 : Int32)))
              refine Tp_le (fun t2387 E2388 => ?_)
              have l2397 : (61 : Int32).toInt = 61 := rfl
              have ci2396 := MI_p24 ci2386 E2388 rfl (by omega) (by omega)
              first | (have a2398 : (x1 + (1 : Int32)).toInt = (x1).toInt + ((1 : Int32)).toInt := ti_add (by omega) (by omega)) | (have a2399 := ti_rg (x1 + (1 : Int32)))
              have b2400 := MI_g23 ci2396 (c := 0) (p := 60) rfl
              have e2401 : (mz_gI t2387 0 60).toInt = (mz_gI t2384 0 60).toInt := by rw [E2388, gI_oth _ _ (by simp)]
              have b2402 := MI_g23 ci2386 (c := 0) (p := 60) rfl
              have e2403 : (mz_gI t2384 0 60).toInt = (mz_gI t2351 0 60).toInt := by rw [E2385]; rfl
              have b2404 := MI_g23 ci2353 (c := 0) (p := 60) rfl
              have e2405 : (mz_gI t2351 0 60).toInt = (mz_gI t 0 60).toInt := by rw [E2352]; rfl
              have b2406 := MI_g24 ci2396 (c := 0) (p := 61) rfl
              have e2407 : (mz_gI t2387 0 61).toInt = ((mz_gI t2384 0 61) + (1 : Int32)).toInt := by rw [E2388, gI_same]
              exact ih (x1 + (1 : Int32)) t2387 ci2396 (by omega) (by omega) (by omega) (by omega) (by omega) (by omega) (by omega) (by omega)
            · have g2408 := ti_ne h2381
              have l2409 : ((12 : Int32)).toInt = 12 := rfl
              refine Tp_bi (s_MO_here hn ci2353  (t := t2351)) (fun q2410 h2411 => ?_)
              obtain ⟨ci2412, E2413, p2414⟩ := h2411
              have b2415 := MI_g24 ci2353 (c := 0) (p := 61) rfl
              have e2416 : (mz_gI t2351 0 61).toInt = (mz_gI t 0 61).toInt := by rw [E2352]; rfl
              have b2417 := MI_g23 ci2353 (c := 0) (p := 60) rfl
              have e2418 : (mz_gI t2351 0 60).toInt = (mz_gI t 0 60).toInt := by rw [E2352]; rfl
              try rw [E2413]
              unfold f_MO_word_113
              refine Tp_le (fun t2419 E2420 => ?_)
              have ci2421 := MI_pL ci2353 E2420
              have b2424 := MI_g24 ci2421 (c := 0) (p := 61) rfl
              have e2425 : (mz_gI t2419 0 61).toInt = (mz_gI t2351 0 61).toInt := by rw [E2420]; rfl
              have l2426 : ((1 : Int32)).toInt = 1 := rfl
              first | (have a2427 : ((mz_gI t2419 0 61) + (1 : Int32)).toInt = (mz_gI t2419 0 61).toInt + ((1 : Int32)).toInt := ti_add (by omega) (by omega)) | (have a2428 := ti_rg ((mz_gI t2419 0 61) + (1 : Int32)))
              refine Tp_le (fun t2422 E2423 => ?_)
              have l2430 : (61 : Int32).toInt = 61 := rfl
              have ci2429 := MI_p24 ci2421 E2423 rfl (by omega) (by omega)
              first | (have a2431 : (x1 + (1 : Int32)).toInt = (x1).toInt + ((1 : Int32)).toInt := ti_add (by omega) (by omega)) | (have a2432 := ti_rg (x1 + (1 : Int32)))
              have b2433 := MI_g23 ci2429 (c := 0) (p := 60) rfl
              have e2434 : (mz_gI t2422 0 60).toInt = (mz_gI t2419 0 60).toInt := by rw [E2423, gI_oth _ _ (by simp)]
              have b2435 := MI_g23 ci2421 (c := 0) (p := 60) rfl
              have e2436 : (mz_gI t2419 0 60).toInt = (mz_gI t2351 0 60).toInt := by rw [E2420]; rfl
              have b2437 := MI_g24 ci2429 (c := 0) (p := 61) rfl
              have e2438 : (mz_gI t2422 0 61).toInt = ((mz_gI t2419 0 61) + (1 : Int32)).toInt := by rw [E2423, gI_same]
              exact ih (x1 + (1 : Int32)) t2422 ci2429 (by omega) (by omega) (by omega) (by omega) (by omega) (by omega) (by omega) (by omega)
        · have g2439 := ti_ne h2348
          have l2440 : ((8 : Int32)).toInt = 8 := rfl
          refine Tp_bi (s_MO_here hn ci  (t := t)) (fun q2441 h2442 => ?_)
          obtain ⟨ci2443, E2444, p2445⟩ := h2442
          try rw [E2444]
          unfold f_MO_word_72
          refine Tp_le (fun t2446 E2447 => ?_)
          have ci2448 := MI_pL ci E2447
          refine Tp_if (fun h2449 => ?_) (fun h2449 => ?_)
          · have g2450 := ti_l h2449
            unfold f_MO_word_109
            unfold f_MO_word_113
            refine Tp_le (fun t2451 E2452 => ?_)
            have ci2453 := MI_pL ci2448 E2452
            have b2456 := MI_g24 ci2453 (c := 0) (p := 61) rfl
            have e2457 : (mz_gI t2451 0 61).toInt = (mz_gI t2446 0 61).toInt := by rw [E2452]; rfl
            have b2458 := MI_g24 ci2448 (c := 0) (p := 61) rfl
            have e2459 : (mz_gI t2446 0 61).toInt = (mz_gI t 0 61).toInt := by rw [E2447]; rfl
            have l2460 : ((1 : Int32)).toInt = 1 := rfl
            first | (have a2461 : ((mz_gI t2451 0 61) + (1 : Int32)).toInt = (mz_gI t2451 0 61).toInt + ((1 : Int32)).toInt := ti_add (by omega) (by omega)) | (have a2462 := ti_rg ((mz_gI t2451 0 61) + (1 : Int32)))
            refine Tp_le (fun t2454 E2455 => ?_)
            have l2464 : (61 : Int32).toInt = 61 := rfl
            have ci2463 := MI_p24 ci2453 E2455 rfl (by omega) (by omega)
            first | (have a2465 : (x1 + (1 : Int32)).toInt = (x1).toInt + ((1 : Int32)).toInt := ti_add (by omega) (by omega)) | (have a2466 := ti_rg (x1 + (1 : Int32)))
            have b2467 := MI_g23 ci2463 (c := 0) (p := 60) rfl
            have e2468 : (mz_gI t2454 0 60).toInt = (mz_gI t2451 0 60).toInt := by rw [E2455, gI_oth _ _ (by simp)]
            have b2469 := MI_g23 ci2453 (c := 0) (p := 60) rfl
            have e2470 : (mz_gI t2451 0 60).toInt = (mz_gI t2446 0 60).toInt := by rw [E2452]; rfl
            have b2471 := MI_g23 ci2448 (c := 0) (p := 60) rfl
            have e2472 : (mz_gI t2446 0 60).toInt = (mz_gI t 0 60).toInt := by rw [E2447]; rfl
            have b2473 := MI_g24 ci2463 (c := 0) (p := 61) rfl
            have e2474 : (mz_gI t2454 0 61).toInt = ((mz_gI t2451 0 61) + (1 : Int32)).toInt := by rw [E2455, gI_same]
            exact ih (x1 + (1 : Int32)) t2454 ci2463 (by omega) (by omega) (by omega) (by omega) (by omega) (by omega) (by omega) (by omega)
          · have g2475 := ti_nl h2449
            refine Tp_if (fun h2476 => ?_) (fun h2476 => ?_)
            · have g2477 := ti_e h2476
              have l2478 : ((12 : Int32)).toInt = 12 := rfl
              unfold f_MO_word_109
              unfold f_MO_word_113
              refine Tp_le (fun t2479 E2480 => ?_)
              have ci2481 := MI_pL ci2448 E2480
              have b2484 := MI_g24 ci2481 (c := 0) (p := 61) rfl
              have e2485 : (mz_gI t2479 0 61).toInt = (mz_gI t2446 0 61).toInt := by rw [E2480]; rfl
              have b2486 := MI_g24 ci2448 (c := 0) (p := 61) rfl
              have e2487 : (mz_gI t2446 0 61).toInt = (mz_gI t 0 61).toInt := by rw [E2447]; rfl
              have l2488 : ((1 : Int32)).toInt = 1 := rfl
              first | (have a2489 : ((mz_gI t2479 0 61) + (1 : Int32)).toInt = (mz_gI t2479 0 61).toInt + ((1 : Int32)).toInt := ti_add (by omega) (by omega)) | (have a2490 := ti_rg ((mz_gI t2479 0 61) + (1 : Int32)))
              refine Tp_le (fun t2482 E2483 => ?_)
              have l2492 : (61 : Int32).toInt = 61 := rfl
              have ci2491 := MI_p24 ci2481 E2483 rfl (by omega) (by omega)
              first | (have a2493 : (x1 + (1 : Int32)).toInt = (x1).toInt + ((1 : Int32)).toInt := ti_add (by omega) (by omega)) | (have a2494 := ti_rg (x1 + (1 : Int32)))
              have b2495 := MI_g23 ci2491 (c := 0) (p := 60) rfl
              have e2496 : (mz_gI t2482 0 60).toInt = (mz_gI t2479 0 60).toInt := by rw [E2483, gI_oth _ _ (by simp)]
              have b2497 := MI_g23 ci2481 (c := 0) (p := 60) rfl
              have e2498 : (mz_gI t2479 0 60).toInt = (mz_gI t2446 0 60).toInt := by rw [E2480]; rfl
              have b2499 := MI_g23 ci2448 (c := 0) (p := 60) rfl
              have e2500 : (mz_gI t2446 0 60).toInt = (mz_gI t 0 60).toInt := by rw [E2447]; rfl
              have b2501 := MI_g24 ci2491 (c := 0) (p := 61) rfl
              have e2502 : (mz_gI t2482 0 61).toInt = ((mz_gI t2479 0 61) + (1 : Int32)).toInt := by rw [E2483, gI_same]
              exact ih (x1 + (1 : Int32)) t2482 ci2491 (by omega) (by omega) (by omega) (by omega) (by omega) (by omega) (by omega) (by omega)
            · have g2503 := ti_ne h2476
              have l2504 : ((12 : Int32)).toInt = 12 := rfl
              refine Tp_bi (s_MO_here hn ci2448  (t := t2446)) (fun q2505 h2506 => ?_)
              obtain ⟨ci2507, E2508, p2509⟩ := h2506
              have b2510 := MI_g24 ci2448 (c := 0) (p := 61) rfl
              have e2511 : (mz_gI t2446 0 61).toInt = (mz_gI t 0 61).toInt := by rw [E2447]; rfl
              have b2512 := MI_g23 ci2448 (c := 0) (p := 60) rfl
              have e2513 : (mz_gI t2446 0 60).toInt = (mz_gI t 0 60).toInt := by rw [E2447]; rfl
              try rw [E2508]
              unfold f_MO_word_113
              refine Tp_le (fun t2514 E2515 => ?_)
              have ci2516 := MI_pL ci2448 E2515
              have b2519 := MI_g24 ci2516 (c := 0) (p := 61) rfl
              have e2520 : (mz_gI t2514 0 61).toInt = (mz_gI t2446 0 61).toInt := by rw [E2515]; rfl
              have l2521 : ((1 : Int32)).toInt = 1 := rfl
              first | (have a2522 : ((mz_gI t2514 0 61) + (1 : Int32)).toInt = (mz_gI t2514 0 61).toInt + ((1 : Int32)).toInt := ti_add (by omega) (by omega)) | (have a2523 := ti_rg ((mz_gI t2514 0 61) + (1 : Int32)))
              refine Tp_le (fun t2517 E2518 => ?_)
              have l2525 : (61 : Int32).toInt = 61 := rfl
              have ci2524 := MI_p24 ci2516 E2518 rfl (by omega) (by omega)
              first | (have a2526 : (x1 + (1 : Int32)).toInt = (x1).toInt + ((1 : Int32)).toInt := ti_add (by omega) (by omega)) | (have a2527 := ti_rg (x1 + (1 : Int32)))
              have b2528 := MI_g23 ci2524 (c := 0) (p := 60) rfl
              have e2529 : (mz_gI t2517 0 60).toInt = (mz_gI t2514 0 60).toInt := by rw [E2518, gI_oth _ _ (by simp)]
              have b2530 := MI_g23 ci2516 (c := 0) (p := 60) rfl
              have e2531 : (mz_gI t2514 0 60).toInt = (mz_gI t2446 0 60).toInt := by rw [E2515]; rfl
              have b2532 := MI_g24 ci2524 (c := 0) (p := 61) rfl
              have e2533 : (mz_gI t2517 0 61).toInt = ((mz_gI t2514 0 61) + (1 : Int32)).toInt := by rw [E2518, gI_same]
              exact ih (x1 + (1 : Int32)) t2517 ci2524 (by omega) (by omega) (by omega) (by omega) (by omega) (by omega) (by omega) (by omega)
set_option maxRecDepth 4000 in
set_option maxHeartbeats 8000000 in
theorem s_MO_word {n : Nat} {s : mz_St} (hn : 8589934592 ≤ n) {t : mz_St}  (ci : MI s t)  : Tp (f_MO_word n t) (fun r => MI s r ∧ (mz_gI r 0 60).toInt = (mz_gI t 0 60).toInt ∧ (mz_gI t 0 61).toInt ≤ (mz_gI r 0 61).toInt ∧ ((mz_gI r 0 61).toInt ≤ (mz_gI r 0 60).toInt ∨ (mz_gI r 0 61).toInt = (mz_gI t 0 61).toInt) ∧ ((mz_gI r 0 62).toInt = 0 ∨ (mz_gI r 0 61).toInt ≤ (mz_gI r 0 60).toInt) ∧ ((mz_gI r 0 62).toInt = 0 ∨ (mz_gI t 0 61).toInt < (mz_gI r 0 61).toInt)) := by
  unfold f_MO_word
  have b2534 := MI_g23 ci (c := 0) (p := 60) rfl
  have b2535 := MI_g24 ci (c := 0) (p := 61) rfl
  refine Tp_bi (s_MO_blanks hn ci  (t := t)) (fun q2536 h2537 => ?_)
  obtain ⟨ci2538, p2539, p2540, p2541, p2542⟩ := h2537
  have b2543 := MI_g2 ci (c := 0) (p := 62) rfl
  have b2544 := MI_g23 ci2538 (c := 0) (p := 60) rfl
  have b2545 := MI_g24 ci2538 (c := 0) (p := 61) rfl
  have b2546 := MI_g2 ci2538 (c := 0) (p := 62) rfl
  refine Tp_le (fun t2547 E2548 => ?_)
  have ci2549 := MI_pL ci2538 E2548
  refine Tp_le (fun t2550 E2551 => ?_)
  have ci2552 := MI_pL ci2549 E2551
  have l2553 : ((0 : Int32)).toInt = 0 := rfl
  have b2554 := MI_g24 ci2552 (c := 0) (p := 61) rfl
  have e2555 : (mz_gI t2550 0 61).toInt = (mz_gI t2547 0 61).toInt := by rw [E2551]; rfl
  have b2556 := MI_g24 ci2549 (c := 0) (p := 61) rfl
  have e2557 : (mz_gI t2547 0 61).toInt = (mz_gI q2536 0 61).toInt := by rw [E2548]; rfl
  have b2558 := MI_g23 ci2552 (c := 0) (p := 60) rfl
  have e2559 : (mz_gI t2550 0 60).toInt = (mz_gI t2547 0 60).toInt := by rw [E2551]; rfl
  have b2560 := MI_g23 ci2549 (c := 0) (p := 60) rfl
  have e2561 : (mz_gI t2547 0 60).toInt = (mz_gI q2536 0 60).toInt := by rw [E2548]; rfl
  refine Tp_mo (l_MO_word_16 hn ((mz_gI t2550 0 61).toInt) ((mz_gI t2550 0 60).toInt) n (0 : Int32) t2550 ci2552 (by omega) (by omega) (by omega) (by omega) (by omega) (by omega) (by omega) (by omega)) (fun q2562 h2563 => ?_)
  obtain ⟨ci2564, p2565, p2566, p2567, p2568, p2569⟩ := h2563
  have b2570 := MI_g23 ci2564 (c := 0) (p := 60) rfl
  have b2571 := MI_g24 ci2564 (c := 0) (p := 61) rfl
  have b2572 := MI_g2 ci2564 (c := 0) (p := 62) rfl
  have b2573 := MI_g2 ci2552 (c := 0) (p := 62) rfl
  have e2574 : (mz_gI t2550 0 62).toInt = (mz_gI t2547 0 62).toInt := by rw [E2551]; rfl
  have b2575 := MI_g2 ci2549 (c := 0) (p := 62) rfl
  have e2576 : (mz_gI t2547 0 62).toInt = (mz_gI q2536 0 62).toInt := by rw [E2548]; rfl
  refine ⟨ci2564, ?_, ?_, ?_, ?_, ?_⟩
  · (try dsimp only) <;> first | omega | assumption
  · (try dsimp only) <;> first | omega | assumption
  · (try dsimp only) <;> first | omega | assumption
  · (try dsimp only) <;> first | omega | assumption
  · (try dsimp only) <;> first | omega | assumption
set_option maxRecDepth 4000 in
set_option maxHeartbeats 8000000 in
theorem s_MO_sign {n : Nat} {s : mz_St} (hn : 8589934592 ≤ n) {x1 : Int32} {t : mz_St}  (ci : MI s t) (i0 : (mz_gI t 0 61).toInt ≤ 6900) (i1 : 0 ≤ x1.toInt) : Tp (f_MO_sign n x1 t) (fun r => MI s r ∧ (mz_gI r 0 60).toInt = (mz_gI t 0 60).toInt ∧ ((mz_gI r 0 62).toInt = 0 ∨ (mz_gI r 0 61).toInt ≤ (mz_gI r 0 60).toInt) ∧ ((mz_gI r 0 61).toInt ≤ (mz_gI t 0 61).toInt + 1 ∨ (mz_gI r 0 61).toInt ≤ (mz_gI r 0 60).toInt + 1) ∧ (¬ (mz_gI t 0 62).toInt = 0 ∨ (mz_gI r 0 62).toInt = 0) ∧ (mz_gI t 0 61).toInt ≤ (mz_gI r 0 61).toInt) := by
  unfold f_MO_sign
  have b2577 := MI_g24 ci (c := 0) (p := 61) rfl
  have b2578 := MI_g23 ci (c := 0) (p := 60) rfl
  have b2579 := MI_g2 ci (c := 0) (p := 62) rfl
  refine Tp_bi (s_MO_blanks hn ci  (t := t)) (fun q2580 h2581 => ?_)
  obtain ⟨ci2582, p2583, p2584, p2585, p2586⟩ := h2581
  have b2587 := MI_g23 ci2582 (c := 0) (p := 60) rfl
  have b2588 := MI_g24 ci2582 (c := 0) (p := 61) rfl
  have b2589 := MI_g2 ci2582 (c := 0) (p := 62) rfl
  refine Tp_if (fun h2590 => ?_) (fun h2590 => ?_)
  · have g2591 := ti_q h2590
    have l2592 : (0 : Int32).toInt = 0 := rfl
    unfold f_MO_sign_24
    unfold f_MO_sign_25
    have l2593 : ((0 : Int32)).toInt = 0 := rfl
    refine Tp_gd (ti_b (by omega) (by omega)) ?_
    refine Tp_le (fun t2594 E2595 => ?_)
    have l2597 : (62 : Int32).toInt = 62 := rfl
    have ci2596 := MI_p2 ci2582 E2595 rfl (by omega) (by omega)
    have b2600 := MI_g24 ci2596 (c := 0) (p := 61) rfl
    have e2601 : (mz_gI t2594 0 61).toInt = (mz_gI q2580 0 61).toInt := by rw [E2595, gI_oth _ _ (by simp)]
    have l2602 : ((1 : Int32)).toInt = 1 := rfl
    first | (have a2603 : ((mz_gI t2594 0 61) + (1 : Int32)).toInt = (mz_gI t2594 0 61).toInt + ((1 : Int32)).toInt := ti_add (by omega) (by omega)) | (have a2604 := ti_rg ((mz_gI t2594 0 61) + (1 : Int32)))
    refine Tp_le (fun t2598 E2599 => ?_)
    have l2606 : (61 : Int32).toInt = 61 := rfl
    have ci2605 := MI_p24 ci2596 E2599 rfl (by omega) (by omega)
    refine Tp_so ?_
    have b2607 := MI_g23 ci2605 (c := 0) (p := 60) rfl
    have e2608 : (mz_gI t2598 0 60).toInt = (mz_gI t2594 0 60).toInt := by rw [E2599, gI_oth _ _ (by simp)]
    have b2609 := MI_g23 ci2596 (c := 0) (p := 60) rfl
    have e2610 : (mz_gI t2594 0 60).toInt = (mz_gI q2580 0 60).toInt := by rw [E2595, gI_oth _ _ (by simp)]
    have b2611 := MI_g24 ci2605 (c := 0) (p := 61) rfl
    have e2612 : (mz_gI t2598 0 61).toInt = ((mz_gI t2594 0 61) + (1 : Int32)).toInt := by rw [E2599, gI_same]
    have b2613 := MI_g2 ci2605 (c := 0) (p := 62) rfl
    have e2614 : (mz_gI t2598 0 62).toInt = (mz_gI t2594 0 62).toInt := by rw [E2599, gI_oth _ _ (by simp)]
    have b2615 := MI_g2 ci2596 (c := 0) (p := 62) rfl
    have e2616 : (mz_gI t2594 0 62).toInt = ((0 : Int32)).toInt := by rw [E2595, gI_same]
    refine ⟨ci2605, ?_, ?_, ?_, ?_, ?_⟩
    · (try dsimp only) <;> first | omega | assumption
    · (try dsimp only) <;> first | omega | assumption
    · (try dsimp only) <;> first | omega | assumption
    · (try dsimp only) <;> first | omega | assumption
    · (try dsimp only) <;> first | omega | assumption
  · have g2617 := ti_nq h2590
    have l2618 : (0 : Int32).toInt = 0 := rfl
    refine Tp_bi (s_MO_here hn ci2582  (t := q2580)) (fun q2619 h2620 => ?_)
    obtain ⟨ci2621, E2622, p2623⟩ := h2620
    try rw [E2622]
    refine Tp_if (fun h2624 => ?_) (fun h2624 => ?_)
    · have g2625 := ti_q h2624
      have i2626 := ti_rg q2619.1
      have i2627 := ti_rg x1
      unfold f_MO_sign_25
      have l2628 : ((1 : Int32)).toInt = 1 := rfl
      refine Tp_gd (ti_b (by omega) (by omega)) ?_
      refine Tp_le (fun t2629 E2630 => ?_)
      have l2632 : (62 : Int32).toInt = 62 := rfl
      have ci2631 := MI_p2 ci2582 E2630 rfl (by omega) (by omega)
      have b2635 := MI_g24 ci2631 (c := 0) (p := 61) rfl
      have e2636 : (mz_gI t2629 0 61).toInt = (mz_gI q2580 0 61).toInt := by rw [E2630, gI_oth _ _ (by simp)]
      first | (have a2637 : ((mz_gI t2629 0 61) + (1 : Int32)).toInt = (mz_gI t2629 0 61).toInt + ((1 : Int32)).toInt := ti_add (by omega) (by omega)) | (have a2638 := ti_rg ((mz_gI t2629 0 61) + (1 : Int32)))
      refine Tp_le (fun t2633 E2634 => ?_)
      have l2640 : (61 : Int32).toInt = 61 := rfl
      have ci2639 := MI_p24 ci2631 E2634 rfl (by omega) (by omega)
      refine Tp_so ?_
      have b2641 := MI_g23 ci2639 (c := 0) (p := 60) rfl
      have e2642 : (mz_gI t2633 0 60).toInt = (mz_gI t2629 0 60).toInt := by rw [E2634, gI_oth _ _ (by simp)]
      have b2643 := MI_g23 ci2631 (c := 0) (p := 60) rfl
      have e2644 : (mz_gI t2629 0 60).toInt = (mz_gI q2580 0 60).toInt := by rw [E2630, gI_oth _ _ (by simp)]
      have b2645 := MI_g24 ci2639 (c := 0) (p := 61) rfl
      have e2646 : (mz_gI t2633 0 61).toInt = ((mz_gI t2629 0 61) + (1 : Int32)).toInt := by rw [E2634, gI_same]
      have b2647 := MI_g2 ci2639 (c := 0) (p := 62) rfl
      have e2648 : (mz_gI t2633 0 62).toInt = (mz_gI t2629 0 62).toInt := by rw [E2634, gI_oth _ _ (by simp)]
      have b2649 := MI_g2 ci2631 (c := 0) (p := 62) rfl
      have e2650 : (mz_gI t2629 0 62).toInt = ((1 : Int32)).toInt := by rw [E2630, gI_same]
      refine ⟨ci2639, ?_, ?_, ?_, ?_, ?_⟩
      · (try dsimp only) <;> first | omega | assumption
      · (try dsimp only) <;> first | omega | assumption
      · (try dsimp only) <;> first | omega | assumption
      · (try dsimp only) <;> first | omega | assumption
      · (try dsimp only) <;> first | omega | assumption
    · have g2651 := ti_nq h2624
      have i2652 := ti_rg q2619.1
      have i2653 := ti_rg x1
      unfold f_MO_sign_24
      unfold f_MO_sign_25
      have l2654 : ((0 : Int32)).toInt = 0 := rfl
      refine Tp_gd (ti_b (by omega) (by omega)) ?_
      refine Tp_le (fun t2655 E2656 => ?_)
      have l2658 : (62 : Int32).toInt = 62 := rfl
      have ci2657 := MI_p2 ci2582 E2656 rfl (by omega) (by omega)
      have b2661 := MI_g24 ci2657 (c := 0) (p := 61) rfl
      have e2662 : (mz_gI t2655 0 61).toInt = (mz_gI q2580 0 61).toInt := by rw [E2656, gI_oth _ _ (by simp)]
      have l2663 : ((1 : Int32)).toInt = 1 := rfl
      first | (have a2664 : ((mz_gI t2655 0 61) + (1 : Int32)).toInt = (mz_gI t2655 0 61).toInt + ((1 : Int32)).toInt := ti_add (by omega) (by omega)) | (have a2665 := ti_rg ((mz_gI t2655 0 61) + (1 : Int32)))
      refine Tp_le (fun t2659 E2660 => ?_)
      have l2667 : (61 : Int32).toInt = 61 := rfl
      have ci2666 := MI_p24 ci2657 E2660 rfl (by omega) (by omega)
      refine Tp_so ?_
      have b2668 := MI_g23 ci2666 (c := 0) (p := 60) rfl
      have e2669 : (mz_gI t2659 0 60).toInt = (mz_gI t2655 0 60).toInt := by rw [E2660, gI_oth _ _ (by simp)]
      have b2670 := MI_g23 ci2657 (c := 0) (p := 60) rfl
      have e2671 : (mz_gI t2655 0 60).toInt = (mz_gI q2580 0 60).toInt := by rw [E2656, gI_oth _ _ (by simp)]
      have b2672 := MI_g24 ci2666 (c := 0) (p := 61) rfl
      have e2673 : (mz_gI t2659 0 61).toInt = ((mz_gI t2655 0 61) + (1 : Int32)).toInt := by rw [E2660, gI_same]
      have b2674 := MI_g2 ci2666 (c := 0) (p := 62) rfl
      have e2675 : (mz_gI t2659 0 62).toInt = (mz_gI t2655 0 62).toInt := by rw [E2660, gI_oth _ _ (by simp)]
      have b2676 := MI_g2 ci2657 (c := 0) (p := 62) rfl
      have e2677 : (mz_gI t2655 0 62).toInt = ((0 : Int32)).toInt := by rw [E2656, gI_same]
      refine ⟨ci2666, ?_, ?_, ?_, ?_, ?_⟩
      · (try dsimp only) <;> first | omega | assumption
      · (try dsimp only) <;> first | omega | assumption
      · (try dsimp only) <;> first | omega | assumption
      · (try dsimp only) <;> first | omega | assumption
      · (try dsimp only) <;> first | omega | assumption
