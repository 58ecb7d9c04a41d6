set_option maxHeartbeats 2000000 in
theorem sX7_isKind (n : Nat) (hn : n = 2200000000) (z0 : Int32) : OK (FX7_isKind n z0) (fun u => ((u.1).toInt ≠ 0 → (0 ≤ (z0).toInt ∧ (z0).toInt ≤ 4)) ∧ ((u.1).toInt = 0 → ¬ (0 ≤ (z0).toInt ∧ (z0).toInt ≤ 4)) ∧ ((u.1).toInt = 0 ∨ (u.1).toInt = 1)) := by
  unfold FX7_isKind
  refine OK_if (fun c1968 => ?_) (fun c1968 => ?_)
  · have v1969 : HQ ((0 : Int32)).toInt 0 := HQ.mk (by decide)
    have f1970 := lt32k rfl v1969.out c1968
    exact OK_some (show (((0 : Int32)).toInt ≠ 0 → (0 ≤ (z0).toInt ∧ (z0).toInt ≤ 4)) ∧ (((0 : Int32)).toInt = 0 → ¬ (0 ≤ (z0).toInt ∧ (z0).toInt ≤ 4)) ∧ (((0 : Int32)).toInt = 0 ∨ ((0 : Int32)).toInt = 1) from ⟨(by (rw [v1969.out]) <;> omega), (by (rw [v1969.out]) <;> omega), (by (rw [v1969.out]) <;> omega)⟩)
  · have v1971 : HQ ((0 : Int32)).toInt 0 := HQ.mk (by decide)
    have f1972 := nlt32k rfl v1971.out c1968
    refine OK_if (fun c1973 => ?_) (fun c1973 => ?_)
    · have v1974 : HQ ((5 : Int32)).toInt 5 := HQ.mk (by decide)
      have f1975 := le32k v1974.out rfl c1973
      exact OK_some (show (((0 : Int32)).toInt ≠ 0 → (0 ≤ (z0).toInt ∧ (z0).toInt ≤ 4)) ∧ (((0 : Int32)).toInt = 0 → ¬ (0 ≤ (z0).toInt ∧ (z0).toInt ≤ 4)) ∧ (((0 : Int32)).toInt = 0 ∨ ((0 : Int32)).toInt = 1) from ⟨(by (rw [v1971.out]) <;> omega), (by (rw [v1971.out]) <;> omega), (by (rw [v1971.out]) <;> omega)⟩)
    · have v1976 : HQ ((5 : Int32)).toInt 5 := HQ.mk (by decide)
      have f1977 := nle32k v1976.out rfl c1973
      have v1978 : HQ ((1 : Int32)).toInt 1 := HQ.mk (by decide)
      exact OK_some (show (((1 : Int32)).toInt ≠ 0 → (0 ≤ (z0).toInt ∧ (z0).toInt ≤ 4)) ∧ (((1 : Int32)).toInt = 0 → ¬ (0 ≤ (z0).toInt ∧ (z0).toInt ≤ 4)) ∧ (((1 : Int32)).toInt = 0 ∨ ((1 : Int32)).toInt = 1) from ⟨(by (rw [v1978.out]) <;> omega), (by (rw [v1978.out]) <;> omega), (by (rw [v1978.out]) <;> omega)⟩)
set_option maxHeartbeats 2000000 in
theorem sX7_isTown (n : Nat) (hn : n = 2200000000) (z0 : Int32) : OK (FX7_isTown n z0) (fun u => ((u.1).toInt ≠ 0 → (0 ≤ (z0).toInt ∧ (z0).toInt ≤ 4)) ∧ ((u.1).toInt = 0 → ¬ (0 ≤ (z0).toInt ∧ (z0).toInt ≤ 4)) ∧ ((u.1).toInt = 0 ∨ (u.1).toInt = 1)) := by
  unfold FX7_isTown
  refine OK_if (fun c1979 => ?_) (fun c1979 => ?_)
  · have v1980 : HQ ((0 : Int32)).toInt 0 := HQ.mk (by decide)
    have f1981 := lt32k rfl v1980.out c1979
    exact OK_some (show (((0 : Int32)).toInt ≠ 0 → (0 ≤ (z0).toInt ∧ (z0).toInt ≤ 4)) ∧ (((0 : Int32)).toInt = 0 → ¬ (0 ≤ (z0).toInt ∧ (z0).toInt ≤ 4)) ∧ (((0 : Int32)).toInt = 0 ∨ ((0 : Int32)).toInt = 1) from ⟨(by (rw [v1980.out]) <;> omega), (by (rw [v1980.out]) <;> omega), (by (rw [v1980.out]) <;> omega)⟩)
  · have v1982 : HQ ((0 : Int32)).toInt 0 := HQ.mk (by decide)
    have f1983 := nlt32k rfl v1982.out c1979
    refine OK_if (fun c1984 => ?_) (fun c1984 => ?_)
    · have v1985 : HQ ((5 : Int32)).toInt 5 := HQ.mk (by decide)
      have f1986 := le32k v1985.out rfl c1984
      exact OK_some (show (((0 : Int32)).toInt ≠ 0 → (0 ≤ (z0).toInt ∧ (z0).toInt ≤ 4)) ∧ (((0 : Int32)).toInt = 0 → ¬ (0 ≤ (z0).toInt ∧ (z0).toInt ≤ 4)) ∧ (((0 : Int32)).toInt = 0 ∨ ((0 : Int32)).toInt = 1) from ⟨(by (rw [v1982.out]) <;> omega), (by (rw [v1982.out]) <;> omega), (by (rw [v1982.out]) <;> omega)⟩)
    · have v1987 : HQ ((5 : Int32)).toInt 5 := HQ.mk (by decide)
      have f1988 := nle32k v1987.out rfl c1984
      have v1989 : HQ ((1 : Int32)).toInt 1 := HQ.mk (by decide)
      exact OK_some (show (((1 : Int32)).toInt ≠ 0 → (0 ≤ (z0).toInt ∧ (z0).toInt ≤ 4)) ∧ (((1 : Int32)).toInt = 0 → ¬ (0 ≤ (z0).toInt ∧ (z0).toInt ≤ 4)) ∧ (((1 : Int32)).toInt = 0 ∨ ((1 : Int32)).toInt = 1) from ⟨(by (rw [v1989.out]) <;> omega), (by (rw [v1989.out]) <;> omega), (by (rw [v1989.out]) <;> omega)⟩)
set_option maxHeartbeats 2000000 in
theorem sX7_isBale (n : Nat) (hn : n = 2200000000) (z0 : Int32) : OK (FX7_isBale n z0) (fun u => ((u.1).toInt ≠ 0 → (0 ≤ (z0).toInt ∧ (z0).toInt ≤ 3))) := by
  unfold FX7_isBale
  refine OK_if (fun c1990 => ?_) (fun c1990 => ?_)
  · have v1991 : HQ ((0 : Int32)).toInt 0 := HQ.mk (by decide)
    have f1992 := lt32k rfl v1991.out c1990
    exact OK_some (show (((0 : Int32)).toInt ≠ 0 → (0 ≤ (z0).toInt ∧ (z0).toInt ≤ 3)) from (by (rw [v1991.out]) <;> omega))
  · have v1993 : HQ ((0 : Int32)).toInt 0 := HQ.mk (by decide)
    have f1994 := nlt32k rfl v1993.out c1990
    refine OK_if (fun c1995 => ?_) (fun c1995 => ?_)
    · have v1996 : HQ ((4 : Int32)).toInt 4 := HQ.mk (by decide)
      have f1997 := le32k v1996.out rfl c1995
      exact OK_some (show (((0 : Int32)).toInt ≠ 0 → (0 ≤ (z0).toInt ∧ (z0).toInt ≤ 3)) from (by (rw [v1993.out]) <;> omega))
    · have v1998 : HQ ((4 : Int32)).toInt 4 := HQ.mk (by decide)
      have f1999 := nle32k v1998.out rfl c1995
      have v2000 : HQ ((1 : Int32)).toInt 1 := HQ.mk (by decide)
      exact OK_some (show (((1 : Int32)).toInt ≠ 0 → (0 ≤ (z0).toInt ∧ (z0).toInt ≤ 3)) from (by (rw [v2000.out]) <;> omega))
set_option maxHeartbeats 2000000 in
theorem sX7_isSample (n : Nat) (hn : n = 2200000000) (z0 : Int32) : OK (FX7_isSample n z0) (fun u => True) := by
  unfold FX7_isSample
  refine OK_if (fun c2001 => ?_) (fun c2001 => ?_)
  · have v2002 : HQ ((0 : Int32)).toInt 0 := HQ.mk (by decide)
    have f2003 := lt32k rfl v2002.out c2001
    exact OK_some trivial
  · have v2004 : HQ ((0 : Int32)).toInt 0 := HQ.mk (by decide)
    have f2005 := nlt32k rfl v2004.out c2001
    refine OK_if (fun c2006 => ?_) (fun c2006 => ?_)
    · have v2007 : HQ ((1000 : Int32)).toInt 1000 := HQ.mk (by decide)
      have f2008 := lt32k v2007.out rfl c2006
      exact OK_some trivial
    · have v2009 : HQ ((1000 : Int32)).toInt 1000 := HQ.mk (by decide)
      have f2010 := nlt32k v2009.out rfl c2006
      exact OK_some trivial
set_option maxHeartbeats 2000000 in
theorem sFX7_isKept_56 (n : Nat) (hn : n = 2200000000) (z0 : Int64) : OK (FX7_isKept_56 n z0) (fun u => True) := by
  unfold FX7_isKept_56
  exact OK_some trivial
set_option maxHeartbeats 2000000 in
theorem sX7_isKept (n : Nat) (hn : n = 2200000000) (z0 : Int64) : OK (FX7_isKept n z0) (fun u => True) := by
  unfold FX7_isKept
  refine OK_if (fun c2011 => ?_) (fun c2011 => ?_)
  · have v2012 : HQ ((1970170228 : Int64)).toInt 1970170228 := HQ.mk (by decide)
    obtain ⟨y2013, v2014, f2015⟩ := lgV (a := z0) (b := (1970170228 : Int64)) rfl v2012.out
    have v2016 : HQ ((0 : Int32)).toInt 0 := HQ.mk (by decide)
    have f2017 := eq32k v2014.out v2016.out c2011
    exact sFX7_isKept_56 n hn z0
  · have v2018 : HQ ((1970170228 : Int64)).toInt 1970170228 := HQ.mk (by decide)
    obtain ⟨y2019, v2020, f2021⟩ := lgV (a := z0) (b := (1970170228 : Int64)) rfl v2018.out
    have v2022 : HQ ((0 : Int32)).toInt 0 := HQ.mk (by decide)
    have f2023 := neq32k v2020.out v2022.out c2011
    refine OK_if (fun c2024 => ?_) (fun c2024 => ?_)
    · have v2025 : HQ ((7955827 : Int64)).toInt 7955827 := HQ.mk (by decide)
      obtain ⟨y2026, v2027, f2028⟩ := lgV (a := z0) (b := (7955827 : Int64)) rfl v2025.out
      have f2029 := eq32k v2027.out v2022.out c2024
      exact sFX7_isKept_56 n hn z0
    · have v2030 : HQ ((7955827 : Int64)).toInt 7955827 := HQ.mk (by decide)
      obtain ⟨y2031, v2032, f2033⟩ := lgV (a := z0) (b := (7955827 : Int64)) rfl v2030.out
      have f2034 := neq32k v2032.out v2022.out c2024
      refine OK_if (fun c2035 => ?_) (fun c2035 => ?_)
      · have v2036 : HQ ((28271 : Int64)).toInt 28271 := HQ.mk (by decide)
        obtain ⟨y2037, v2038, f2039⟩ := lgV (a := z0) (b := (28271 : Int64)) rfl v2036.out
        have f2040 := eq32k v2038.out v2022.out c2035
        exact sFX7_isKept_56 n hn z0
      · have v2041 : HQ ((28271 : Int64)).toInt 28271 := HQ.mk (by decide)
        obtain ⟨y2042, v2043, f2044⟩ := lgV (a := z0) (b := (28271 : Int64)) rfl v2041.out
        have f2045 := neq32k v2043.out v2022.out c2035
        refine OK_if (fun c2046 => ?_) (fun c2046 => ?_)
        · have v2047 : HQ ((7562612 : Int64)).toInt 7562612 := HQ.mk (by decide)
          obtain ⟨y2048, v2049, f2050⟩ := lgV (a := z0) (b := (7562612 : Int64)) rfl v2047.out
          have f2051 := eq32k v2049.out v2022.out c2046
          exact sFX7_isKept_56 n hn z0
        · have v2052 : HQ ((7562612 : Int64)).toInt 7562612 := HQ.mk (by decide)
          obtain ⟨y2053, v2054, f2055⟩ := lgV (a := z0) (b := (7562612 : Int64)) rfl v2052.out
          have f2056 := neq32k v2054.out v2022.out c2046
          refine OK_if (fun c2057 => ?_) (fun c2057 => ?_)
          · have v2058 : HQ ((444300616805 : Int64)).toInt 444300616805 := HQ.mk (by decide)
            obtain ⟨y2059, v2060, f2061⟩ := lgV (a := z0) (b := (444300616805 : Int64)) rfl v2058.out
            have f2062 := eq32k v2060.out v2022.out c2057
            exact sFX7_isKept_56 n hn z0
          · have v2063 : HQ ((444300616805 : Int64)).toInt 444300616805 := HQ.mk (by decide)
            obtain ⟨y2064, v2065, f2066⟩ := lgV (a := z0) (b := (444300616805 : Int64)) rfl v2063.out
            have f2067 := neq32k v2065.out v2022.out c2057
            refine OK_if (fun c2068 => ?_) (fun c2068 => ?_)
            · have v2069 : HQ ((1650551909 : Int64)).toInt 1650551909 := HQ.mk (by decide)
              obtain ⟨y2070, v2071, f2072⟩ := lgV (a := z0) (b := (1650551909 : Int64)) rfl v2069.out
              have f2073 := eq32k v2071.out v2022.out c2068
              exact sFX7_isKept_56 n hn z0
            · have v2074 : HQ ((1650551909 : Int64)).toInt 1650551909 := HQ.mk (by decide)
              obtain ⟨y2075, v2076, f2077⟩ := lgV (a := z0) (b := (1650551909 : Int64)) rfl v2074.out
              have f2078 := neq32k v2076.out v2022.out c2068
              refine OK_if (fun c2079 => ?_) (fun c2079 => ?_)
              · have v2080 : HQ ((125779836236645 : Int64)).toInt 125779836236645 := HQ.mk (by decide)
                obtain ⟨y2081, v2082, f2083⟩ := lgV (a := z0) (b := (125779836236645 : Int64)) rfl v2080.out
                have f2084 := eq32k v2082.out v2022.out c2079
                exact sFX7_isKept_56 n hn z0
              · have v2085 : HQ ((125779836236645 : Int64)).toInt 125779836236645 := HQ.mk (by decide)
                obtain ⟨y2086, v2087, f2088⟩ := lgV (a := z0) (b := (125779836236645 : Int64)) rfl v2085.out
                have f2089 := neq32k v2087.out v2022.out c2079
                exact OK_some trivial
set_option maxHeartbeats 2000000 in
theorem sX7_isLetter (n : Nat) (hn : n = 2200000000) (z0 : Int32) : OK (FX7_isLetter n z0) (fun u => ((u.1).toInt = 0 ∨ (97 ≤ (z0).toInt ∧ (z0).toInt ≤ 122))) := by
  unfold FX7_isLetter
  refine OK_if (fun c2090 => ?_) (fun c2090 => ?_)
  · have v2091 : HQ ((97 : Int32)).toInt 97 := HQ.mk (by decide)
    have f2092 := lt32k rfl v2091.out c2090
    have v2093 : HQ ((0 : Int32)).toInt 0 := HQ.mk (by decide)
    exact OK_some (show (((0 : Int32)).toInt = 0 ∨ (97 ≤ (z0).toInt ∧ (z0).toInt ≤ 122)) from (by (rw [v2093.out]) <;> omega))
  · have v2094 : HQ ((97 : Int32)).toInt 97 := HQ.mk (by decide)
    have f2095 := nlt32k rfl v2094.out c2090
    refine OK_if (fun c2096 => ?_) (fun c2096 => ?_)
    · have v2097 : HQ ((122 : Int32)).toInt 122 := HQ.mk (by decide)
      have f2098 := lt32k v2097.out rfl c2096
      have v2099 : HQ ((0 : Int32)).toInt 0 := HQ.mk (by decide)
      exact OK_some (show (((0 : Int32)).toInt = 0 ∨ (97 ≤ (z0).toInt ∧ (z0).toInt ≤ 122)) from (by (rw [v2099.out]) <;> omega))
    · have v2100 : HQ ((122 : Int32)).toInt 122 := HQ.mk (by decide)
      have f2101 := nlt32k v2100.out rfl c2096
      have v2102 : HQ ((1 : Int32)).toInt 1 := HQ.mk (by decide)
      exact OK_some (show (((1 : Int32)).toInt = 0 ∨ (97 ≤ (z0).toInt ∧ (z0).toInt ≤ 122)) from (by (rw [v2102.out]) <;> omega))
set_option maxHeartbeats 2000000 in
theorem sX7_isDigit (n : Nat) (hn : n = 2200000000) (z0 : Int32) : OK (FX7_isDigit n z0) (fun u => (((u.1).toInt = 0 ∧ ((z0).toInt < 48 ∨ 57 < (z0).toInt)) ∨ ((u.1).toInt = 1 ∧ 48 ≤ (z0).toInt ∧ (z0).toInt ≤ 57))) := by
  unfold FX7_isDigit
  refine OK_if (fun c2103 => ?_) (fun c2103 => ?_)
  · have v2104 : HQ ((48 : Int32)).toInt 48 := HQ.mk (by decide)
    have f2105 := lt32k rfl v2104.out c2103
    have v2106 : HQ ((0 : Int32)).toInt 0 := HQ.mk (by decide)
    exact OK_some (show ((((0 : Int32)).toInt = 0 ∧ ((z0).toInt < 48 ∨ 57 < (z0).toInt)) ∨ (((0 : Int32)).toInt = 1 ∧ 48 ≤ (z0).toInt ∧ (z0).toInt ≤ 57)) from (by (rw [v2106.out]) <;> omega))
  · have v2107 : HQ ((48 : Int32)).toInt 48 := HQ.mk (by decide)
    have f2108 := nlt32k rfl v2107.out c2103
    refine OK_if (fun c2109 => ?_) (fun c2109 => ?_)
    · have v2110 : HQ ((57 : Int32)).toInt 57 := HQ.mk (by decide)
      have f2111 := lt32k v2110.out rfl c2109
      have v2112 : HQ ((0 : Int32)).toInt 0 := HQ.mk (by decide)
      exact OK_some (show ((((0 : Int32)).toInt = 0 ∧ ((z0).toInt < 48 ∨ 57 < (z0).toInt)) ∨ (((0 : Int32)).toInt = 1 ∧ 48 ≤ (z0).toInt ∧ (z0).toInt ≤ 57)) from (by (rw [v2112.out]) <;> omega))
    · have v2113 : HQ ((57 : Int32)).toInt 57 := HQ.mk (by decide)
      have f2114 := nlt32k v2113.out rfl c2109
      have v2115 : HQ ((1 : Int32)).toInt 1 := HQ.mk (by decide)
      exact OK_some (show ((((1 : Int32)).toInt = 0 ∧ ((z0).toInt < 48 ∨ 57 < (z0).toInt)) ∨ (((1 : Int32)).toInt = 1 ∧ 48 ≤ (z0).toInt ∧ (z0).toInt ≤ 57)) from (by (rw [v2115.out]) <;> omega))
set_option maxHeartbeats 2000000 in
theorem sX7_isGood (n : Nat) (hn : n = 2200000000) (v_faultKind : Int32) : OK (FX7_isGood n v_faultKind) (fun u => (((v_faultKind).toInt = 0 ∧ (u.1).toInt = 1) ∨ ((v_faultKind).toInt ≠ 0 ∧ (u.1).toInt = 0))) := by
  unfold FX7_isGood
  refine OK_if (fun c2116 => ?_) (fun c2116 => ?_)
  · have v2117 : HQ ((0 : Int32)).toInt 0 := HQ.mk (by decide)
    have f2118 := eq32k rfl v2117.out c2116
    have v2119 : HQ ((1 : Int32)).toInt 1 := HQ.mk (by decide)
    exact OK_some (show (((v_faultKind).toInt = 0 ∧ ((1 : Int32)).toInt = 1) ∨ ((v_faultKind).toInt ≠ 0 ∧ ((1 : Int32)).toInt = 0)) from (by (rw [v2119.out]) <;> omega))
  · have v2120 : HQ ((0 : Int32)).toInt 0 := HQ.mk (by decide)
    have f2121 := neq32k rfl v2120.out c2116
    exact OK_some (show (((v_faultKind).toInt = 0 ∧ ((0 : Int32)).toInt = 1) ∨ ((v_faultKind).toInt ≠ 0 ∧ ((0 : Int32)).toInt = 0)) from (by (rw [v2120.out]) <;> omega))
set_option maxHeartbeats 2000000 in
theorem sX7_isWord (n : Nat) (hn : n = 2200000000) (v_token : Int32) (v_name : Int64) (z1 : Int64) : OK (FX7_isWord n v_token v_name z1) (fun u => ((u.1).toInt = 0 ∨ (v_token).toInt = 3)) := by
  unfold FX7_isWord
  refine OK_if (fun c2122 => ?_) (fun c2122 => ?_)
  · have v2123 : HQ ((3 : Int32)).toInt 3 := HQ.mk (by decide)
    have f2124 := eq32k rfl v2123.out c2122
    refine OK_if (fun c2125 => ?_) (fun c2125 => ?_)
    · obtain ⟨y2126, v2127, f2128⟩ := lgV (a := v_name) (b := z1) rfl rfl
      have v2129 : HQ ((0 : Int32)).toInt 0 := HQ.mk (by decide)
      have f2130 := eq32k v2127.out v2129.out c2125
      have v2131 : HQ ((1 : Int32)).toInt 1 := HQ.mk (by decide)
      exact OK_some (show (((1 : Int32)).toInt = 0 ∨ (v_token).toInt = 3) from (by (rw [v2131.out]) <;> omega))
    · obtain ⟨y2132, v2133, f2134⟩ := lgV (a := v_name) (b := z1) rfl rfl
      have v2135 : HQ ((0 : Int32)).toInt 0 := HQ.mk (by decide)
      have f2136 := neq32k v2133.out v2135.out c2125
      exact OK_some (show (((0 : Int32)).toInt = 0 ∨ (v_token).toInt = 3) from (by (rw [v2135.out]) <;> omega))
  · have v2137 : HQ ((3 : Int32)).toInt 3 := HQ.mk (by decide)
    have f2138 := neq32k rfl v2137.out c2122
    have v2139 : HQ ((0 : Int32)).toInt 0 := HQ.mk (by decide)
    exact OK_some (show (((0 : Int32)).toInt = 0 ∨ (v_token).toInt = 3) from (by (rw [v2139.out]) <;> omega))
