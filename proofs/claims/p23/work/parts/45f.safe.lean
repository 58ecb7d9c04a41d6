set_option maxHeartbeats 2000000 in
theorem sX6_lorry (n : Nat) (hn : n = 2200000000) (v_yard_count : Int32) (a_yard_sampled : Nat → Int32) (a_yard_loads : Nat → Int32) (a_yard_ofTowns : Nat → Int32) (a_yard_towns : Nat → Int32) (z1 : Int32) (z2 : Int32) (z3 : Int32) (z4 : Int32) (z5 : Int32) (z6 : Int32) (z7 : Int32) (i0 : 0 ≤ (v_yard_count).toInt) (i1 : (v_yard_count).toInt ≤ 60) (i2 : ∀ i : Nat, ((i : Int) < (v_yard_count).toInt) → (0 ≤ (a_yard_towns i).toInt ∧ (a_yard_towns i).toInt ≤ 4)) : OK (FX6_lorry n v_yard_count a_yard_sampled a_yard_loads a_yard_ofTowns a_yard_towns z1 z2 z3 z4 z5 z6 z7) (fun u => (0 ≤ (u.2.1).toInt) ∧ ((u.2.1).toInt ≤ 60) ∧ (∀ i : Nat, ((i : Int) < (u.2.1).toInt) → (0 ≤ (u.2.2.2.2.2 i).toInt ∧ (u.2.2.2.2.2 i).toInt ≤ 4))) := by
  unfold FX6_lorry
  refine OK_bd (sX6_isTown n hn z1) (fun u_2 p_u_2 => ?_)
  have p1852 := p_u_2
  clear p_u_2
  refine OK_if (fun c1853 => ?_) (fun c1853 => ?_)
  · have v1854 : HQ ((0 : Int32)).toInt 0 := HQ.mk (by decide)
    have f1855 := eq32k rfl v1854.out c1853
    exact OK_some (show (0 ≤ (v_yard_count).toInt) ∧ ((v_yard_count).toInt ≤ 60) ∧ (∀ i : Nat, ((i : Int) < (v_yard_count).toInt) → (0 ≤ (a_yard_towns i).toInt ∧ (a_yard_towns i).toInt ≤ 4)) from ⟨i0, i1, i2⟩)
  · have v1856 : HQ ((0 : Int32)).toInt 0 := HQ.mk (by decide)
    have f1857 := neq32k rfl v1856.out c1853
    refine OK_if (fun c1858 => ?_) (fun c1858 => ?_)
    · have v1859 : HQ ((1 : Int32)).toInt 1 := HQ.mk (by decide)
      have f1860 := lt32k rfl v1859.out c1858
      exact OK_some (show (0 ≤ (v_yard_count).toInt) ∧ ((v_yard_count).toInt ≤ 60) ∧ (∀ i : Nat, ((i : Int) < (v_yard_count).toInt) → (0 ≤ (a_yard_towns i).toInt ∧ (a_yard_towns i).toInt ≤ 4)) from ⟨i0, i1, i2⟩)
    · have v1861 : HQ ((1 : Int32)).toInt 1 := HQ.mk (by decide)
      have f1862 := nlt32k rfl v1861.out c1858
      refine OK_if (fun c1863 => ?_) (fun c1863 => ?_)
      · have v1864 : HQ ((20000 : Int32)).toInt 20000 := HQ.mk (by decide)
        have f1865 := le32k rfl v1864.out c1863
        refine OK_bd (sX6_isSampled n hn z3) (fun u_7 p_u_7 => ?_)
        refine OK_if (fun c1866 => ?_) (fun c1866 => ?_)
        · have f1867 := eq32k rfl v1856.out c1866
          exact OK_some (show (0 ≤ (v_yard_count).toInt) ∧ ((v_yard_count).toInt ≤ 60) ∧ (∀ i : Nat, ((i : Int) < (v_yard_count).toInt) → (0 ≤ (a_yard_towns i).toInt ∧ (a_yard_towns i).toInt ≤ 4)) from ⟨i0, i1, i2⟩)
        · have f1868 := neq32k rfl v1856.out c1866
          refine OK_bd (sX6_isSampled n hn z4) (fun u_10 p_u_10 => ?_)
          refine OK_if (fun c1869 => ?_) (fun c1869 => ?_)
          · have f1870 := eq32k rfl v1856.out c1869
            exact OK_some (show (0 ≤ (v_yard_count).toInt) ∧ ((v_yard_count).toInt ≤ 60) ∧ (∀ i : Nat, ((i : Int) < (v_yard_count).toInt) → (0 ≤ (a_yard_towns i).toInt ∧ (a_yard_towns i).toInt ≤ 4)) from ⟨i0, i1, i2⟩)
          · have f1871 := neq32k rfl v1856.out c1869
            refine OK_bd (sX6_isSampled n hn z5) (fun u_13 p_u_13 => ?_)
            refine OK_if (fun c1872 => ?_) (fun c1872 => ?_)
            · have f1873 := eq32k rfl v1856.out c1872
              exact OK_some (show (0 ≤ (v_yard_count).toInt) ∧ ((v_yard_count).toInt ≤ 60) ∧ (∀ i : Nat, ((i : Int) < (v_yard_count).toInt) → (0 ≤ (a_yard_towns i).toInt ∧ (a_yard_towns i).toInt ≤ 4)) from ⟨i0, i1, i2⟩)
            · have f1874 := neq32k rfl v1856.out c1872
              refine OK_bd (sX6_isSampled n hn z6) (fun u_16 p_u_16 => ?_)
              refine OK_if (fun c1875 => ?_) (fun c1875 => ?_)
              · have f1876 := eq32k rfl v1856.out c1875
                exact OK_some (show (0 ≤ (v_yard_count).toInt) ∧ ((v_yard_count).toInt ≤ 60) ∧ (∀ i : Nat, ((i : Int) < (v_yard_count).toInt) → (0 ≤ (a_yard_towns i).toInt ∧ (a_yard_towns i).toInt ≤ 4)) from ⟨i0, i1, i2⟩)
              · have f1877 := neq32k rfl v1856.out c1875
                refine OK_bd (sX6_isSampled n hn z7) (fun u_19 p_u_19 => ?_)
                refine OK_if (fun c1878 => ?_) (fun c1878 => ?_)
                · have f1879 := eq32k rfl v1856.out c1878
                  exact OK_some (show (0 ≤ (v_yard_count).toInt) ∧ ((v_yard_count).toInt ≤ 60) ∧ (∀ i : Nat, ((i : Int) < (v_yard_count).toInt) → (0 ≤ (a_yard_towns i).toInt ∧ (a_yard_towns i).toInt ≤ 4)) from ⟨i0, i1, i2⟩)
                · have f1880 := neq32k rfl v1856.out c1878
                  refine OK_ck (ckV v1856.out (by omega) (by omega)) ?_
                  obtain ⟨m1881, v1882, f1883⟩ := tnV (e := (0 : Int32)) v1856.out (by omega)
                  refine OK_lt (fun f_22 e_f_22 => ?_)
                  rw [v1882.out] at e_f_22
                  refine OK_ck (ckV v1861.out (by omega) (by omega)) ?_
                  obtain ⟨m1884, v1885, f1886⟩ := tnV (e := (1 : Int32)) v1861.out (by omega)
                  refine OK_lt (fun f_24 e_f_24 => ?_)
                  rw [v1885.out] at e_f_24
                  have v1887 : HQ ((2 : Int32)).toInt 2 := HQ.mk (by decide)
                  refine OK_ck (ckV v1887.out (by omega) (by omega)) ?_
                  obtain ⟨m1888, v1889, f1890⟩ := tnV (e := (2 : Int32)) v1887.out (by omega)
                  refine OK_lt (fun f_26 e_f_26 => ?_)
                  rw [v1889.out] at e_f_26
                  have v1891 : HQ ((3 : Int32)).toInt 3 := HQ.mk (by decide)
                  refine OK_ck (ckV v1891.out (by omega) (by omega)) ?_
                  obtain ⟨m1892, v1893, f1894⟩ := tnV (e := (3 : Int32)) v1891.out (by omega)
                  refine OK_lt (fun f_28 e_f_28 => ?_)
                  rw [v1893.out] at e_f_28
                  have v1895 : HQ ((4 : Int32)).toInt 4 := HQ.mk (by decide)
                  refine OK_ck (ckV v1895.out (by omega) (by omega)) ?_
                  obtain ⟨m1896, v1897, f1898⟩ := tnV (e := (4 : Int32)) v1895.out (by omega)
                  refine OK_lt (fun f_30 e_f_30 => ?_)
                  rw [v1897.out] at e_f_30
                  refine OK_bd (sX5_bring n hn v_yard_count f_30 a_yard_loads a_yard_ofTowns a_yard_towns z1 z2 i0 i1 (by omega) (by omega) i2) (fun u_32 p_u_32 => ?_)
                  obtain ⟨p1899, p1900, p1901⟩ := p_u_32
                  exact OK_some (show (0 ≤ (u_32.2.1).toInt) ∧ ((u_32.2.1).toInt ≤ 60) ∧ (∀ i : Nat, ((i : Int) < (u_32.2.1).toInt) → (0 ≤ (u_32.2.2.2.2 i).toInt ∧ (u_32.2.2.2.2 i).toInt ≤ 4)) from ⟨p1899, p1900, p1901⟩)
      · have v1902 : HQ ((20000 : Int32)).toInt 20000 := HQ.mk (by decide)
        have f1903 := nle32k rfl v1902.out c1863
        exact OK_some (show (0 ≤ (v_yard_count).toInt) ∧ ((v_yard_count).toInt ≤ 60) ∧ (∀ i : Nat, ((i : Int) < (v_yard_count).toInt) → (0 ≤ (a_yard_towns i).toInt ∧ (a_yard_towns i).toInt ≤ 4)) from ⟨i0, i1, i2⟩)
set_option maxHeartbeats 2000000 in
theorem sX6_strike (n : Nat) (hn : n = 2200000000) (v_yard_count : Int32) (a_yard_struck : Nat → Int32) (a_yard_ofTowns : Nat → Int32) (a_yard_towns : Nat → Int32) (a_yard_loads : Nat → Int32) (z1 : Int32) (i0 : 0 ≤ (v_yard_count).toInt) (i1 : (v_yard_count).toInt ≤ 60) (i2 : ∀ i : Nat, ((i : Int) < (v_yard_count).toInt) → (0 ≤ (a_yard_towns i).toInt ∧ (a_yard_towns i).toInt ≤ 4)) : OK (FX6_strike n v_yard_count a_yard_struck a_yard_ofTowns a_yard_towns a_yard_loads z1) (fun u => True) := by
  unfold FX6_strike
  refine OK_bd (sX5_strikeOff n hn v_yard_count a_yard_struck a_yard_ofTowns a_yard_towns a_yard_loads z1 i0 i1 i2) (fun u_2 p_u_2 => ?_)
  exact OK_some trivial
set_option maxHeartbeats 2000000 in
theorem sX6_brought (n : Nat) (hn : n = 2200000000) (a_yard_ofTowns : Nat → Int32) (z1 : Int32) (z2 : Int32) : OK (FX6_brought n a_yard_ofTowns z1 z2) (fun u => True) := by
  unfold FX6_brought
  refine OK_bd (sX6_isTown n hn z1) (fun u_2 p_u_2 => ?_)
  have p1904 := p_u_2
  clear p_u_2
  refine OK_if (fun c1905 => ?_) (fun c1905 => ?_)
  · have v1906 : HQ ((0 : Int32)).toInt 0 := HQ.mk (by decide)
    have f1907 := eq32k rfl v1906.out c1905
    exact OK_some trivial
  · have v1908 : HQ ((0 : Int32)).toInt 0 := HQ.mk (by decide)
    have f1909 := neq32k rfl v1908.out c1905
    refine OK_bd (sX6_isKind n hn z2) (fun u_5 p_u_5 => ?_)
    obtain ⟨p1910, p1911⟩ := p_u_5
    refine OK_if (fun c1912 => ?_) (fun c1912 => ?_)
    · have f1913 := eq32k rfl v1908.out c1912
      exact OK_some trivial
    · have f1914 := neq32k rfl v1908.out c1912
      have v1915 : HQ ((5 : Int32)).toInt 5 := HQ.mk (by decide)
      have v1916 : HQ ((z1 * (5 : Int32))).toInt ((z1).toInt * 5) := HQ.mk (mulV rfl v1915.out (by omega) (by omega))
      have v1917 : HQ (((z1 * (5 : Int32)) + z2)).toInt (((z1).toInt * 5) + (z2).toInt) := HQ.mk (addV v1916.out rfl (by omega) (by omega))
      refine OK_ck (ckV v1917.out (by omega) (by omega)) ?_
      exact OK_some trivial
set_option maxHeartbeats 2000000 in
theorem sX6_share (n : Nat) (hn : n = 2200000000) (a_yard_ofTowns : Nat → Int32) (z1 : Int32) (z2 : Int32) (z3 : Int32) : OK (FX6_share n a_yard_ofTowns z1 z2 z3) (fun u => True) := by
  unfold FX6_share
  refine OK_bd (sX6_isTown n hn z1) (fun u_2 p_u_2 => ?_)
  have p1918 := p_u_2
  clear p_u_2
  refine OK_if (fun c1919 => ?_) (fun c1919 => ?_)
  · have v1920 : HQ ((0 : Int32)).toInt 0 := HQ.mk (by decide)
    have f1921 := eq32k rfl v1920.out c1919
    exact OK_some trivial
  · have v1922 : HQ ((0 : Int32)).toInt 0 := HQ.mk (by decide)
    have f1923 := neq32k rfl v1922.out c1919
    refine OK_bd (sX6_isKind n hn z2) (fun u_5 p_u_5 => ?_)
    obtain ⟨p1924, p1925⟩ := p_u_5
    refine OK_if (fun c1926 => ?_) (fun c1926 => ?_)
    · have f1927 := eq32k rfl v1922.out c1926
      exact OK_some trivial
    · have f1928 := neq32k rfl v1922.out c1926
      refine OK_if (fun c1929 => ?_) (fun c1929 => ?_)
      · have f1930 := lt32k rfl v1922.out c1929
        exact OK_some trivial
      · have f1931 := nlt32k rfl v1922.out c1929
        refine OK_if (fun c1932 => ?_) (fun c1932 => ?_)
        · have v1933 : HQ ((10000000 : Int32)).toInt 10000000 := HQ.mk (by decide)
          have f1934 := le32k rfl v1933.out c1932
          refine OK_bd (sX5_shareOf n hn a_yard_ofTowns z1 z2 z3 (by omega) (by omega) (by omega) (by omega)) (fun u_10 p_u_10 => ?_)
          exact OK_some trivial
        · have v1935 : HQ ((10000000 : Int32)).toInt 10000000 := HQ.mk (by decide)
          have f1936 := nle32k rfl v1935.out c1932
          exact OK_some trivial
set_option maxHeartbeats 2000000 in
theorem sX6_about (n : Nat) (hn : n = 2200000000) (v_costOfKilogram : Int32) (v_told_units : Int32) (a_told_grades : Nat → Int32) (v_reader_tape_length : Int32) (v_yard_count : Int32) (z1 : Int32) : OK (FX6_about n v_costOfKilogram v_told_units a_told_grades v_reader_tape_length v_yard_count z1) (fun u => True) := by
  unfold FX6_about
  refine OK_if (fun c1937 => ?_) (fun c1937 => ?_)
  · have v1938 : HQ ((0 : Int32)).toInt 0 := HQ.mk (by decide)
    have f1939 := eq32k rfl v1938.out c1937
    exact OK_some trivial
  · have v1940 : HQ ((0 : Int32)).toInt 0 := HQ.mk (by decide)
    have f1941 := neq32k rfl v1940.out c1937
    refine OK_if (fun c1942 => ?_) (fun c1942 => ?_)
    · have v1943 : HQ ((1 : Int32)).toInt 1 := HQ.mk (by decide)
      have f1944 := eq32k rfl v1943.out c1942
      exact OK_some trivial
    · have v1945 : HQ ((1 : Int32)).toInt 1 := HQ.mk (by decide)
      have f1946 := neq32k rfl v1945.out c1942
      refine OK_if (fun c1947 => ?_) (fun c1947 => ?_)
      · have v1948 : HQ ((2 : Int32)).toInt 2 := HQ.mk (by decide)
        have f1949 := eq32k rfl v1948.out c1947
        exact OK_some trivial
      · have v1950 : HQ ((2 : Int32)).toInt 2 := HQ.mk (by decide)
        have f1951 := neq32k rfl v1950.out c1947
        refine OK_if (fun c1952 => ?_) (fun c1952 => ?_)
        · have v1953 : HQ ((3 : Int32)).toInt 3 := HQ.mk (by decide)
          have f1954 := eq32k rfl v1953.out c1952
          exact OK_some trivial
        · have v1955 : HQ ((3 : Int32)).toInt 3 := HQ.mk (by decide)
          have f1956 := neq32k rfl v1955.out c1952
          refine OK_if (fun c1957 => ?_) (fun c1957 => ?_)
          · have v1958 : HQ ((10 : Int32)).toInt 10 := HQ.mk (by decide)
            have f1959 := lt32k rfl v1958.out c1957
            exact OK_some trivial
          · have v1960 : HQ ((10 : Int32)).toInt 10 := HQ.mk (by decide)
            have f1961 := nlt32k rfl v1960.out c1957
            refine OK_if (fun c1962 => ?_) (fun c1962 => ?_)
            · have v1963 : HQ ((14 : Int32)).toInt 14 := HQ.mk (by decide)
              have f1964 := le32k v1963.out rfl c1962
              exact OK_some trivial
            · have v1965 : HQ ((14 : Int32)).toInt 14 := HQ.mk (by decide)
              have f1966 := nle32k v1965.out rfl c1962
              have v1967 : HQ ((z1 - (10 : Int32))).toInt ((z1).toInt - 10) := HQ.mk (subV rfl v1960.out (by omega) (by omega))
              refine OK_ck (ckV v1967.out (by omega) (by omega)) ?_
              exact OK_some trivial
