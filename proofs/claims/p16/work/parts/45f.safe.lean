set_option maxHeartbeats 2000000 in
theorem sX6_lorry (n : Nat) (hn : n = 3000) (v_yard_count : Int32) (a_yard_sampled : Nat → Int32) (a_yard_loads : Nat → Int32) (a_yard_ofTowns : Nat → Int32) (a_yard_towns : Nat → Int32) (z1 : Int32) (z2 : Int32) (z3 : Int32) (z4 : Int32) (z5 : Int32) (z6 : Int32) (z7 : Int32) (i0 : 0 ≤ (v_yard_count).toInt) (i1 : (v_yard_count).toInt ≤ 60) (i2 : ∀ i : Nat, ((i : Int) < (v_yard_count).toInt) → (0 ≤ (a_yard_towns i).toInt ∧ (a_yard_towns i).toInt ≤ 4)) : OK (FX6_lorry n v_yard_count a_yard_sampled a_yard_loads a_yard_ofTowns a_yard_towns z1 z2 z3 z4 z5 z6 z7) (fun u => (0 ≤ (u.2.1).toInt) ∧ ((u.2.1).toInt ≤ 60) ∧ (∀ i : Nat, ((i : Int) < (u.2.1).toInt) → (0 ≤ (u.2.2.2.2.2 i).toInt ∧ (u.2.2.2.2.2 i).toInt ≤ 4))) := by
  unfold FX6_lorry
  refine OK_bd (sX6_isTown n hn z1) (fun u_2 p_u_2 => ?_)
  have p1790 := p_u_2
  refine OK_if (fun c1791 => ?_) (fun c1791 => ?_)
  · have v1792 : HQ ((0 : Int32)).toInt 0 := HQ.mk (by decide)
    have f1793 := eq32k rfl v1792.out c1791
    exact OK_some (show (0 ≤ (v_yard_count).toInt) ∧ ((v_yard_count).toInt ≤ 60) ∧ (∀ i : Nat, ((i : Int) < (v_yard_count).toInt) → (0 ≤ (a_yard_towns i).toInt ∧ (a_yard_towns i).toInt ≤ 4)) from ⟨i0, i1, i2⟩)
  · have v1794 : HQ ((0 : Int32)).toInt 0 := HQ.mk (by decide)
    have f1795 := neq32k rfl v1794.out c1791
    refine OK_if (fun c1796 => ?_) (fun c1796 => ?_)
    · have v1797 : HQ ((1 : Int32)).toInt 1 := HQ.mk (by decide)
      have f1798 := lt32k rfl v1797.out c1796
      exact OK_some (show (0 ≤ (v_yard_count).toInt) ∧ ((v_yard_count).toInt ≤ 60) ∧ (∀ i : Nat, ((i : Int) < (v_yard_count).toInt) → (0 ≤ (a_yard_towns i).toInt ∧ (a_yard_towns i).toInt ≤ 4)) from ⟨i0, i1, i2⟩)
    · have v1799 : HQ ((1 : Int32)).toInt 1 := HQ.mk (by decide)
      have f1800 := nlt32k rfl v1799.out c1796
      refine OK_if (fun c1801 => ?_) (fun c1801 => ?_)
      · have v1802 : HQ ((20000 : Int32)).toInt 20000 := HQ.mk (by decide)
        have f1803 := le32k rfl v1802.out c1801
        refine OK_bd (sX6_isSampled n hn z3) (fun u_7 p_u_7 => ?_)
        refine OK_if (fun c1804 => ?_) (fun c1804 => ?_)
        · have f1805 := eq32k rfl v1794.out c1804
          exact OK_some (show (0 ≤ (v_yard_count).toInt) ∧ ((v_yard_count).toInt ≤ 60) ∧ (∀ i : Nat, ((i : Int) < (v_yard_count).toInt) → (0 ≤ (a_yard_towns i).toInt ∧ (a_yard_towns i).toInt ≤ 4)) from ⟨i0, i1, i2⟩)
        · have f1806 := neq32k rfl v1794.out c1804
          refine OK_bd (sX6_isSampled n hn z4) (fun u_10 p_u_10 => ?_)
          refine OK_if (fun c1807 => ?_) (fun c1807 => ?_)
          · have f1808 := eq32k rfl v1794.out c1807
            exact OK_some (show (0 ≤ (v_yard_count).toInt) ∧ ((v_yard_count).toInt ≤ 60) ∧ (∀ i : Nat, ((i : Int) < (v_yard_count).toInt) → (0 ≤ (a_yard_towns i).toInt ∧ (a_yard_towns i).toInt ≤ 4)) from ⟨i0, i1, i2⟩)
          · have f1809 := neq32k rfl v1794.out c1807
            refine OK_bd (sX6_isSampled n hn z5) (fun u_13 p_u_13 => ?_)
            refine OK_if (fun c1810 => ?_) (fun c1810 => ?_)
            · have f1811 := eq32k rfl v1794.out c1810
              exact OK_some (show (0 ≤ (v_yard_count).toInt) ∧ ((v_yard_count).toInt ≤ 60) ∧ (∀ i : Nat, ((i : Int) < (v_yard_count).toInt) → (0 ≤ (a_yard_towns i).toInt ∧ (a_yard_towns i).toInt ≤ 4)) from ⟨i0, i1, i2⟩)
            · have f1812 := neq32k rfl v1794.out c1810
              refine OK_bd (sX6_isSampled n hn z6) (fun u_16 p_u_16 => ?_)
              refine OK_if (fun c1813 => ?_) (fun c1813 => ?_)
              · have f1814 := eq32k rfl v1794.out c1813
                exact OK_some (show (0 ≤ (v_yard_count).toInt) ∧ ((v_yard_count).toInt ≤ 60) ∧ (∀ i : Nat, ((i : Int) < (v_yard_count).toInt) → (0 ≤ (a_yard_towns i).toInt ∧ (a_yard_towns i).toInt ≤ 4)) from ⟨i0, i1, i2⟩)
              · have f1815 := neq32k rfl v1794.out c1813
                refine OK_bd (sX6_isSampled n hn z7) (fun u_19 p_u_19 => ?_)
                refine OK_if (fun c1816 => ?_) (fun c1816 => ?_)
                · have f1817 := eq32k rfl v1794.out c1816
                  exact OK_some (show (0 ≤ (v_yard_count).toInt) ∧ ((v_yard_count).toInt ≤ 60) ∧ (∀ i : Nat, ((i : Int) < (v_yard_count).toInt) → (0 ≤ (a_yard_towns i).toInt ∧ (a_yard_towns i).toInt ≤ 4)) from ⟨i0, i1, i2⟩)
                · have f1818 := neq32k rfl v1794.out c1816
                  refine OK_ck (ckV v1794.out (by omega) (by omega)) ?_
                  obtain ⟨m1819, v1820, f1821⟩ := tnV v1794.out (by omega)
                  refine OK_lt (fun f_22 e_f_22 => ?_)
                  rw [v1820.out] at e_f_22
                  refine OK_ck (ckV v1799.out (by omega) (by omega)) ?_
                  obtain ⟨m1822, v1823, f1824⟩ := tnV v1799.out (by omega)
                  refine OK_lt (fun f_24 e_f_24 => ?_)
                  rw [v1823.out] at e_f_24
                  have v1825 : HQ ((2 : Int32)).toInt 2 := HQ.mk (by decide)
                  refine OK_ck (ckV v1825.out (by omega) (by omega)) ?_
                  obtain ⟨m1826, v1827, f1828⟩ := tnV v1825.out (by omega)
                  refine OK_lt (fun f_26 e_f_26 => ?_)
                  rw [v1827.out] at e_f_26
                  have v1829 : HQ ((3 : Int32)).toInt 3 := HQ.mk (by decide)
                  refine OK_ck (ckV v1829.out (by omega) (by omega)) ?_
                  obtain ⟨m1830, v1831, f1832⟩ := tnV v1829.out (by omega)
                  refine OK_lt (fun f_28 e_f_28 => ?_)
                  rw [v1831.out] at e_f_28
                  have v1833 : HQ ((4 : Int32)).toInt 4 := HQ.mk (by decide)
                  refine OK_ck (ckV v1833.out (by omega) (by omega)) ?_
                  obtain ⟨m1834, v1835, f1836⟩ := tnV v1833.out (by omega)
                  refine OK_lt (fun f_30 e_f_30 => ?_)
                  rw [v1835.out] at e_f_30
                  refine OK_bd (sX5_bring n hn v_yard_count f_30 a_yard_loads a_yard_ofTowns a_yard_towns z1 z2 i0 i1 (by omega) (by omega) i2) (fun u_32 p_u_32 => ?_)
                  obtain ⟨p1837, p1838, p1839⟩ := p_u_32
                  exact OK_some (show (0 ≤ (u_32.2.1).toInt) ∧ ((u_32.2.1).toInt ≤ 60) ∧ (∀ i : Nat, ((i : Int) < (u_32.2.1).toInt) → (0 ≤ (u_32.2.2.2.2 i).toInt ∧ (u_32.2.2.2.2 i).toInt ≤ 4)) from ⟨p1837, p1838, p1839⟩)
      · have v1840 : HQ ((20000 : Int32)).toInt 20000 := HQ.mk (by decide)
        have f1841 := nle32k rfl v1840.out c1801
        exact OK_some (show (0 ≤ (v_yard_count).toInt) ∧ ((v_yard_count).toInt ≤ 60) ∧ (∀ i : Nat, ((i : Int) < (v_yard_count).toInt) → (0 ≤ (a_yard_towns i).toInt ∧ (a_yard_towns i).toInt ≤ 4)) from ⟨i0, i1, i2⟩)
set_option maxHeartbeats 2000000 in
theorem sX6_strike (n : Nat) (hn : n = 3000) (v_yard_count : Int32) (a_yard_struck : Nat → Int32) (a_yard_ofTowns : Nat → Int32) (a_yard_towns : Nat → Int32) (a_yard_loads : Nat → Int32) (z1 : Int32) (i0 : 0 ≤ (v_yard_count).toInt) (i1 : (v_yard_count).toInt ≤ 60) (i2 : ∀ i : Nat, ((i : Int) < (v_yard_count).toInt) → (0 ≤ (a_yard_towns i).toInt ∧ (a_yard_towns i).toInt ≤ 4)) : OK (FX6_strike n v_yard_count a_yard_struck a_yard_ofTowns a_yard_towns a_yard_loads z1) (fun u => True) := by
  unfold FX6_strike
  refine OK_bd (sX5_strikeOff n hn v_yard_count a_yard_struck a_yard_ofTowns a_yard_towns a_yard_loads z1 i0 i1 i2) (fun u_2 p_u_2 => ?_)
  exact OK_some trivial
set_option maxHeartbeats 2000000 in
theorem sX6_brought (n : Nat) (hn : n = 3000) (a_yard_ofTowns : Nat → Int32) (z1 : Int32) (z2 : Int32) : OK (FX6_brought n a_yard_ofTowns z1 z2) (fun u => True) := by
  unfold FX6_brought
  refine OK_bd (sX6_isTown n hn z1) (fun u_2 p_u_2 => ?_)
  have p1842 := p_u_2
  refine OK_if (fun c1843 => ?_) (fun c1843 => ?_)
  · have v1844 : HQ ((0 : Int32)).toInt 0 := HQ.mk (by decide)
    have f1845 := eq32k rfl v1844.out c1843
    exact OK_some trivial
  · have v1846 : HQ ((0 : Int32)).toInt 0 := HQ.mk (by decide)
    have f1847 := neq32k rfl v1846.out c1843
    refine OK_bd (sX6_isKind n hn z2) (fun u_5 p_u_5 => ?_)
    obtain ⟨p1848, p1849⟩ := p_u_5
    refine OK_if (fun c1850 => ?_) (fun c1850 => ?_)
    · have f1851 := eq32k rfl v1846.out c1850
      exact OK_some trivial
    · have f1852 := neq32k rfl v1846.out c1850
      have v1853 : HQ ((5 : Int32)).toInt 5 := HQ.mk (by decide)
      have v1854 : HQ ((z1 * (5 : Int32))).toInt ((z1).toInt * 5) := HQ.mk (mulV rfl v1853.out (by omega) (by omega))
      have v1855 : HQ (((z1 * (5 : Int32)) + z2)).toInt (((z1).toInt * 5) + (z2).toInt) := HQ.mk (addV v1854.out rfl (by omega) (by omega))
      refine OK_ck (ckV v1855.out (by omega) (by omega)) ?_
      exact OK_some trivial
set_option maxHeartbeats 2000000 in
theorem sX6_share (n : Nat) (hn : n = 3000) (a_yard_ofTowns : Nat → Int32) (z1 : Int32) (z2 : Int32) (z3 : Int32) : OK (FX6_share n a_yard_ofTowns z1 z2 z3) (fun u => True) := by
  unfold FX6_share
  refine OK_bd (sX6_isTown n hn z1) (fun u_2 p_u_2 => ?_)
  have p1856 := p_u_2
  refine OK_if (fun c1857 => ?_) (fun c1857 => ?_)
  · have v1858 : HQ ((0 : Int32)).toInt 0 := HQ.mk (by decide)
    have f1859 := eq32k rfl v1858.out c1857
    exact OK_some trivial
  · have v1860 : HQ ((0 : Int32)).toInt 0 := HQ.mk (by decide)
    have f1861 := neq32k rfl v1860.out c1857
    refine OK_bd (sX6_isKind n hn z2) (fun u_5 p_u_5 => ?_)
    obtain ⟨p1862, p1863⟩ := p_u_5
    refine OK_if (fun c1864 => ?_) (fun c1864 => ?_)
    · have f1865 := eq32k rfl v1860.out c1864
      exact OK_some trivial
    · have f1866 := neq32k rfl v1860.out c1864
      refine OK_if (fun c1867 => ?_) (fun c1867 => ?_)
      · have f1868 := lt32k rfl v1860.out c1867
        exact OK_some trivial
      · have f1869 := nlt32k rfl v1860.out c1867
        refine OK_if (fun c1870 => ?_) (fun c1870 => ?_)
        · have v1871 : HQ ((10000000 : Int32)).toInt 10000000 := HQ.mk (by decide)
          have f1872 := le32k rfl v1871.out c1870
          refine OK_bd (sX5_shareOf n hn a_yard_ofTowns z1 z2 z3 (by omega) (by omega) (by omega) (by omega)) (fun u_10 p_u_10 => ?_)
          exact OK_some trivial
        · have v1873 : HQ ((10000000 : Int32)).toInt 10000000 := HQ.mk (by decide)
          have f1874 := nle32k rfl v1873.out c1870
          exact OK_some trivial
set_option maxHeartbeats 2000000 in
theorem sX6_about (n : Nat) (hn : n = 3000) (v_costOfKilogram : Int32) (v_told_units : Int32) (a_told_grades : Nat → Int32) (v_reader_tape_length : Int32) (v_yard_count : Int32) (z1 : Int32) : OK (FX6_about n v_costOfKilogram v_told_units a_told_grades v_reader_tape_length v_yard_count z1) (fun u => True) := by
  unfold FX6_about
  refine OK_if (fun c1875 => ?_) (fun c1875 => ?_)
  · have v1876 : HQ ((0 : Int32)).toInt 0 := HQ.mk (by decide)
    have f1877 := eq32k rfl v1876.out c1875
    exact OK_some trivial
  · have v1878 : HQ ((0 : Int32)).toInt 0 := HQ.mk (by decide)
    have f1879 := neq32k rfl v1878.out c1875
    refine OK_if (fun c1880 => ?_) (fun c1880 => ?_)
    · have v1881 : HQ ((1 : Int32)).toInt 1 := HQ.mk (by decide)
      have f1882 := eq32k rfl v1881.out c1880
      exact OK_some trivial
    · have v1883 : HQ ((1 : Int32)).toInt 1 := HQ.mk (by decide)
      have f1884 := neq32k rfl v1883.out c1880
      refine OK_if (fun c1885 => ?_) (fun c1885 => ?_)
      · have v1886 : HQ ((2 : Int32)).toInt 2 := HQ.mk (by decide)
        have f1887 := eq32k rfl v1886.out c1885
        exact OK_some trivial
      · have v1888 : HQ ((2 : Int32)).toInt 2 := HQ.mk (by decide)
        have f1889 := neq32k rfl v1888.out c1885
        refine OK_if (fun c1890 => ?_) (fun c1890 => ?_)
        · have v1891 : HQ ((3 : Int32)).toInt 3 := HQ.mk (by decide)
          have f1892 := eq32k rfl v1891.out c1890
          exact OK_some trivial
        · have v1893 : HQ ((3 : Int32)).toInt 3 := HQ.mk (by decide)
          have f1894 := neq32k rfl v1893.out c1890
          refine OK_if (fun c1895 => ?_) (fun c1895 => ?_)
          · have v1896 : HQ ((10 : Int32)).toInt 10 := HQ.mk (by decide)
            have f1897 := lt32k rfl v1896.out c1895
            exact OK_some trivial
          · have v1898 : HQ ((10 : Int32)).toInt 10 := HQ.mk (by decide)
            have f1899 := nlt32k rfl v1898.out c1895
            refine OK_if (fun c1900 => ?_) (fun c1900 => ?_)
            · have v1901 : HQ ((14 : Int32)).toInt 14 := HQ.mk (by decide)
              have f1902 := le32k v1901.out rfl c1900
              exact OK_some trivial
            · have v1903 : HQ ((14 : Int32)).toInt 14 := HQ.mk (by decide)
              have f1904 := nle32k v1903.out rfl c1900
              obtain ⟨y1905, v1906⟩ := HQ.any ((z1 - (10 : Int32))).toInt
              refine OK_ck (ckV v1906.out (by omega) (by omega)) ?_
              exact OK_some trivial
