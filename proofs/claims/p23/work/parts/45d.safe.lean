set_option maxHeartbeats 2000000 in
theorem sX6_earns (n : Nat) (hn : n = 2200000000) (a_coming : Nat → Int32) (a_byHand : Nat → Int32) (a_yard_ofTowns : Nat → Int32) (v_told_units : Int32) (a_chosen : Nat → Int32) (v_ends_wholeOfAll : Int64) (a_heaps_held : Nat → Int32) (a_heaps_totals : Nat → Int32) (a_ends_parts : Nat → Int64) (a_ends_rows : Nat → Int32) (a_ends_outs : Nat → Int32) (a_told_percents : Nat → Int32) (a_told_yesLeads : Nat → Int32) (a_told_noLeads : Nat → Int32) (a_ends_minors : Nat → Int64) (a_told_grades : Nat → Int32) (a_told_gradeKinds : Nat → Int32) (a_told_gradePurities : Nat → Int32) (a_told_gradePrices : Nat → Int32) (z1 : Int32) (i0 : 0 ≤ (v_told_units).toInt) (i1 : (v_told_units).toInt ≤ 5) (i2 : ∀ i : Nat, ((i : Int) < (v_told_units).toInt) → ((0 ≤ (a_told_yesLeads i).toInt ∧ (a_told_yesLeads i).toInt ≤ 4) ∨ (10 ≤ (a_told_yesLeads i).toInt ∧ (a_told_yesLeads i).toInt ≤ 13) ∨ (a_told_yesLeads i).toInt = 20)) (i3 : ∀ i : Nat, ((i : Int) < (v_told_units).toInt) → ((0 ≤ (a_told_noLeads i).toInt ∧ (a_told_noLeads i).toInt ≤ 4) ∨ (10 ≤ (a_told_noLeads i).toInt ∧ (a_told_noLeads i).toInt ≤ 13) ∨ (a_told_noLeads i).toInt = 20)) (i4 : ∀ i : Nat, (i < 5) → (0 ≤ (a_chosen i).toInt ∧ (a_chosen i).toInt ≤ 2)) (i5 : ∀ i : Nat, (i < 4) → (0 ≤ (a_told_grades i).toInt ∧ (a_told_grades i).toInt ≤ 4)) (i6 : ∀ i : Nat, (i < 4) → (0 ≤ (a_told_gradeKinds i).toInt ∧ (a_told_gradeKinds i).toInt ≤ 4)) : OK (FX6_earns n a_coming a_byHand a_yard_ofTowns v_told_units a_chosen v_ends_wholeOfAll a_heaps_held a_heaps_totals a_ends_parts a_ends_rows a_ends_outs a_told_percents a_told_yesLeads a_told_noLeads a_ends_minors a_told_grades a_told_gradeKinds a_told_gradePurities a_told_gradePrices z1) (fun u => True) := by
  unfold FX6_earns
  refine OK_bd (sX6_isBale n hn z1) (fun u_2 p_u_2 => ?_)
  have p1762 := p_u_2
  clear p_u_2
  refine OK_if (fun c1763 => ?_) (fun c1763 => ?_)
  · have v1764 : HQ ((0 : Int32)).toInt 0 := HQ.mk (by decide)
    have f1765 := eq32k rfl v1764.out c1763
    exact OK_some trivial
  · have v1766 : HQ ((0 : Int32)).toInt 0 := HQ.mk (by decide)
    have f1767 := neq32k rfl v1766.out c1763
    refine OK_bd (sX6_sortByChoice n hn a_coming a_byHand a_yard_ofTowns v_told_units a_chosen v_ends_wholeOfAll a_heaps_held a_heaps_totals a_ends_parts a_ends_rows a_ends_outs a_told_percents a_told_yesLeads a_told_noLeads a_ends_minors i0 i1 i2 i3 i4) (fun u_5 p_u_5 => ?_)
    refine OK_bd (sX1_earningsOf n hn u_5.2.2.2.2.1 a_told_grades u_5.2.2.2.1 a_told_gradeKinds a_told_gradePurities a_told_gradePrices z1 (by omega) (by omega) i5 i6) (fun u_7 p_u_7 => ?_)
    exact OK_some trivial
set_option maxHeartbeats 2000000 in
theorem sX6_worth (n : Nat) (hn : n = 2200000000) (v_costOfKilogram : Int32) (a_coming : Nat → Int32) (a_byHand : Nat → Int32) (a_yard_ofTowns : Nat → Int32) (v_told_units : Int32) (a_chosen : Nat → Int32) (v_ends_wholeOfAll : Int64) (a_heaps_held : Nat → Int32) (a_heaps_totals : Nat → Int32) (a_ends_parts : Nat → Int64) (a_ends_rows : Nat → Int32) (a_ends_outs : Nat → Int32) (a_told_percents : Nat → Int32) (a_told_yesLeads : Nat → Int32) (a_told_noLeads : Nat → Int32) (a_ends_minors : Nat → Int64) (a_told_grades : Nat → Int32) (a_told_gradeKinds : Nat → Int32) (a_told_gradePurities : Nat → Int32) (a_told_gradePrices : Nat → Int32) (i0 : 0 ≤ (v_told_units).toInt) (i1 : (v_told_units).toInt ≤ 5) (i2 : ∀ i : Nat, ((i : Int) < (v_told_units).toInt) → ((0 ≤ (a_told_yesLeads i).toInt ∧ (a_told_yesLeads i).toInt ≤ 4) ∨ (10 ≤ (a_told_yesLeads i).toInt ∧ (a_told_yesLeads i).toInt ≤ 13) ∨ (a_told_yesLeads i).toInt = 20)) (i3 : ∀ i : Nat, ((i : Int) < (v_told_units).toInt) → ((0 ≤ (a_told_noLeads i).toInt ∧ (a_told_noLeads i).toInt ≤ 4) ∨ (10 ≤ (a_told_noLeads i).toInt ∧ (a_told_noLeads i).toInt ≤ 13) ∨ (a_told_noLeads i).toInt = 20)) (i4 : ∀ i : Nat, (i < 5) → (0 ≤ (a_chosen i).toInt ∧ (a_chosen i).toInt ≤ 2)) (i5 : ∀ i : Nat, (i < 4) → (0 ≤ (a_told_grades i).toInt ∧ (a_told_grades i).toInt ≤ 4)) (i6 : ∀ i : Nat, (i < 4) → (0 ≤ (a_told_gradeKinds i).toInt ∧ (a_told_gradeKinds i).toInt ≤ 4)) : OK (FX6_worth n v_costOfKilogram a_coming a_byHand a_yard_ofTowns v_told_units a_chosen v_ends_wholeOfAll a_heaps_held a_heaps_totals a_ends_parts a_ends_rows a_ends_outs a_told_percents a_told_yesLeads a_told_noLeads a_ends_minors a_told_grades a_told_gradeKinds a_told_gradePurities a_told_gradePrices) (fun u => True) := by
  unfold FX6_worth
  refine OK_bd (sX6_sortByChoice n hn a_coming a_byHand a_yard_ofTowns v_told_units a_chosen v_ends_wholeOfAll a_heaps_held a_heaps_totals a_ends_parts a_ends_rows a_ends_outs a_told_percents a_told_yesLeads a_told_noLeads a_ends_minors i0 i1 i2 i3 i4) (fun u_2 p_u_2 => ?_)
  refine OK_bd (sX1_worthOf n hn u_2.2.2.2.2.1 a_told_grades u_2.2.2.2.1 a_told_gradeKinds a_told_gradePurities a_told_gradePrices v_costOfKilogram i5 i6) (fun u_4 p_u_4 => ?_)
  exact OK_some trivial
set_option maxHeartbeats 2000000 in
theorem sX6_cost (n : Nat) (hn : n = 2200000000) (v_costOfKilogram : Int32) (z1 : Int32) : OK (FX6_cost n v_costOfKilogram z1) (fun u => ((0 ≤ (z1).toInt ∧ (z1).toInt ≤ 9999 ∧ (u.1).toInt = 1) ∨ (¬ (0 ≤ (z1).toInt ∧ (z1).toInt ≤ 9999) ∧ (u.1).toInt = 0))) := by
  unfold FX6_cost
  refine OK_if (fun c1768 => ?_) (fun c1768 => ?_)
  · have v1769 : HQ ((0 : Int32)).toInt 0 := HQ.mk (by decide)
    have f1770 := lt32k rfl v1769.out c1768
    exact OK_some (show ((0 ≤ (z1).toInt ∧ (z1).toInt ≤ 9999 ∧ ((0 : Int32)).toInt = 1) ∨ (¬ (0 ≤ (z1).toInt ∧ (z1).toInt ≤ 9999) ∧ ((0 : Int32)).toInt = 0)) from (by (rw [v1769.out]) <;> omega))
  · have v1771 : HQ ((0 : Int32)).toInt 0 := HQ.mk (by decide)
    have f1772 := nlt32k rfl v1771.out c1768
    refine OK_if (fun c1773 => ?_) (fun c1773 => ?_)
    · have v1774 : HQ ((9999 : Int32)).toInt 9999 := HQ.mk (by decide)
      have f1775 := le32k rfl v1774.out c1773
      have v1776 : HQ ((1 : Int32)).toInt 1 := HQ.mk (by decide)
      exact OK_some (show ((0 ≤ (z1).toInt ∧ (z1).toInt ≤ 9999 ∧ ((1 : Int32)).toInt = 1) ∨ (¬ (0 ≤ (z1).toInt ∧ (z1).toInt ≤ 9999) ∧ ((1 : Int32)).toInt = 0)) from (by (rw [v1776.out]) <;> omega))
    · have v1777 : HQ ((9999 : Int32)).toInt 9999 := HQ.mk (by decide)
      have f1778 := nle32k rfl v1777.out c1773
      exact OK_some (show ((0 ≤ (z1).toInt ∧ (z1).toInt ≤ 9999 ∧ ((0 : Int32)).toInt = 1) ∨ (¬ (0 ≤ (z1).toInt ∧ (z1).toInt ≤ 9999) ∧ ((0 : Int32)).toInt = 0)) from (by (rw [v1771.out]) <;> omega))
set_option maxHeartbeats 2000000 in
theorem sFX6_turnTried_10 (n : Nat) (hn : n = 2200000000) (v_told_units : Int32) (a_told_settings : Nat → Int32) (k10 : (Nat → Int32) → Int32 → Option (Int32 × (Nat → Int32))) (mB10 : Nat) (hk10 : ∀ (a_tried : Nat → Int32) (x1 : Int32), (0 ≤ (v_told_units).toInt) → ((v_told_units).toInt ≤ 5) → (∀ i : Nat, ((i : Int) < (v_told_units).toInt) → (1 ≤ (a_told_settings i).toInt ∧ (a_told_settings i).toInt ≤ 3)) → (∀ i : Nat, (i < 5) → (0 ≤ (a_tried i).toInt ∧ (a_tried i).toInt ≤ 2)) → (-1 ≤ (x1).toInt) → ((x1).toInt < (v_told_units).toInt) → ((x1).toInt + 1).toNat < mB10 → OK (k10 a_tried x1) (fun u => (∀ i : Nat, (i < 5) → (0 ≤ (u.2 i).toInt ∧ (u.2 i).toInt ≤ 2)))) (a_tried : Nat → Int32) (x1 : Int32) (i0 : 0 ≤ (v_told_units).toInt) (i1 : (v_told_units).toInt ≤ 5) (i2 : ∀ i : Nat, ((i : Int) < (v_told_units).toInt) → (1 ≤ (a_told_settings i).toInt ∧ (a_told_settings i).toInt ≤ 3)) (i3 : ∀ i : Nat, (i < 5) → (0 ≤ (a_tried i).toInt ∧ (a_tried i).toInt ≤ 2)) (i4 : -1 ≤ (x1).toInt) (i5 : (x1).toInt < (v_told_units).toInt) (hmu : ((x1).toInt + 1).toNat ≤ mB10) : OK (FX6_turnTried_10 n v_told_units a_told_settings k10 a_tried x1) (fun u => (∀ i : Nat, (i < 5) → (0 ≤ (u.2 i).toInt ∧ (u.2 i).toInt ≤ 2))) := by
  unfold FX6_turnTried_10
  refine OK_if (fun c1779 => ?_) (fun c1779 => ?_)
  · have v1780 : HQ ((0 : Int32)).toInt 0 := HQ.mk (by decide)
    have f1781 := lt32k rfl v1780.out c1779
    exact OK_some (show (∀ i : Nat, (i < 5) → (0 ≤ (a_tried i).toInt ∧ (a_tried i).toInt ≤ 2)) from i3)
  · have v1782 : HQ ((0 : Int32)).toInt 0 := HQ.mk (by decide)
    have f1783 := nlt32k rfl v1782.out c1779
    refine OK_ck (ckV rfl (by omega) (by omega)) ?_
    refine OK_ck (ckV rfl (by omega) (by omega)) ?_
    refine OK_if (fun c1784 => ?_) (fun c1784 => ?_)
    · obtain ⟨m1785, v1786, f1787⟩ := tnV (e := x1) rfl (by omega)
      have v1788 : HQ ((a_told_settings ((x1).toNatClampNeg))).toInt (a_told_settings m1785).toInt := HQ.mk (by rw [v1786.out])
      have f1789 := i2 m1785
      have v1790 : HQ ((a_tried ((x1).toNatClampNeg))).toInt (a_tried m1785).toInt := HQ.mk (by rw [v1786.out])
      have f1791 := i3 m1785
      have v1792 : HQ ((1 : Int32)).toInt 1 := HQ.mk (by decide)
      have v1793 : HQ (((a_tried ((x1).toNatClampNeg)) + (1 : Int32))).toInt ((a_tried m1785).toInt + 1) := HQ.mk (addV v1790.out v1792.out (by omega) (by omega))
      have f1794 := le32k v1788.out v1793.out c1784
      refine OK_ck (ckV rfl (by omega) (by omega)) ?_
      refine OK_lt (fun f_7 e_f_7 => ?_)
      rw [v1786.out] at e_f_7
      have v1795 : HQ ((-1 : Int32)).toInt (-1) := HQ.mk (by decide)
      have v1796 : HQ ((x1 + (-1 : Int32))).toInt ((x1).toInt + (-1)) := HQ.mk (addV rfl v1795.out (by omega) (by omega))
      refine OK_lt (fun x_8 e_x_8 => ?_)
      have f1797 : (x_8).toInt = ((x1).toInt + (-1)) := by rw [e_x_8]; exact v1796.out
      exact hk10 f_7 x_8 i0 i1 i2 (by
          intro i hi
          have f1798 := updW e_f_7 v1782.out i
          have f1799 := i3 i
          have f1800 := congAt a_tried i m1785
          omega) (by omega) (by omega) (by omega)
    · obtain ⟨m1801, v1802, f1803⟩ := tnV (e := x1) rfl (by omega)
      have v1804 : HQ ((a_told_settings ((x1).toNatClampNeg))).toInt (a_told_settings m1801).toInt := HQ.mk (by rw [v1802.out])
      have f1805 := i2 m1801
      have v1806 : HQ ((a_tried ((x1).toNatClampNeg))).toInt (a_tried m1801).toInt := HQ.mk (by rw [v1802.out])
      have f1807 := i3 m1801
      have v1808 : HQ ((1 : Int32)).toInt 1 := HQ.mk (by decide)
      have v1809 : HQ (((a_tried ((x1).toNatClampNeg)) + (1 : Int32))).toInt ((a_tried m1801).toInt + 1) := HQ.mk (addV v1806.out v1808.out (by omega) (by omega))
      have f1810 := nle32k v1804.out v1809.out c1784
      refine OK_ck (ckV rfl (by omega) (by omega)) ?_
      refine OK_lt (fun x_10 e_x_10 => ?_)
      have f1811 : (x_10).toInt = ((a_tried m1801).toInt + 1) := by rw [e_x_10]; exact v1809.out
      refine OK_ck (ckV rfl (by omega) (by omega)) ?_
      refine OK_lt (fun f_12 e_f_12 => ?_)
      rw [v1802.out] at e_f_12
      exact OK_some (show (∀ i : Nat, (i < 5) → (0 ≤ (f_12 i).toInt ∧ (f_12 i).toInt ≤ 2)) from (by
          intro i hi
          have f1812 := updW e_f_12 rfl i
          have f1813 := i3 i
          have f1814 := congAt a_tried i m1801
          omega))
theorem sFX6_turnTried_10L (n : Nat) (hn : n = 2200000000) (v_told_units : Int32) (a_told_settings : Nat → Int32) : ∀ (j : Nat) (a_tried : Nat → Int32) (x1 : Int32), (0 ≤ (v_told_units).toInt) → ((v_told_units).toInt ≤ 5) → (∀ i : Nat, ((i : Int) < (v_told_units).toInt) → (1 ≤ (a_told_settings i).toInt ∧ (a_told_settings i).toInt ≤ 3)) → (∀ i : Nat, (i < 5) → (0 ≤ (a_tried i).toInt ∧ (a_tried i).toInt ≤ 2)) → (-1 ≤ (x1).toInt) → ((x1).toInt < (v_told_units).toInt) → ((x1).toInt + 1).toNat < j → OK (FX6_turnTried_10L n v_told_units a_told_settings j a_tried x1) (fun u => (∀ i : Nat, (i < 5) → (0 ≤ (u.2 i).toInt ∧ (u.2 i).toInt ≤ 2))) := by
  intro j
  induction j with
  | zero => intro _ _ _ _ _ _ _ _ hj; exact absurd hj (Nat.not_lt_zero _)
  | succ j ih =>
    intro a_tried x1 i0 i1 i2 i3 i4 i5 hj
    exact sFX6_turnTried_10 n hn v_told_units a_told_settings (FX6_turnTried_10L n v_told_units a_told_settings j) (((x1).toInt + 1).toNat) (fun y0 y1 w0 w1 w2 w3 w4 w5 hlt => ih y0 y1 w0 w1 w2 w3 w4 w5 (by omega)) a_tried x1 i0 i1 i2 i3 i4 i5 (Nat.le_refl _)
set_option maxHeartbeats 2000000 in
theorem sX6_turnTried (n : Nat) (hn : n = 2200000000) (v_told_units : Int32) (a_tried : Nat → Int32) (a_told_settings : Nat → Int32) (i0 : 0 ≤ (v_told_units).toInt) (i1 : (v_told_units).toInt ≤ 5) (i2 : ∀ i : Nat, ((i : Int) < (v_told_units).toInt) → (1 ≤ (a_told_settings i).toInt ∧ (a_told_settings i).toInt ≤ 3)) (i3 : ∀ i : Nat, (i < 5) → (0 ≤ (a_tried i).toInt ∧ (a_tried i).toInt ≤ 2)) : OK (FX6_turnTried n v_told_units a_tried a_told_settings) (fun u => (∀ i : Nat, (i < 5) → (0 ≤ (u.2 i).toInt ∧ (u.2 i).toInt ≤ 2))) := by
  unfold FX6_turnTried
  have v1815 : HQ ((1 : Int32)).toInt 1 := HQ.mk (by decide)
  have v1816 : HQ ((v_told_units - (1 : Int32))).toInt ((v_told_units).toInt - 1) := HQ.mk (subV rfl v1815.out (by omega) (by omega))
  refine OK_lt (fun x_1 e_x_1 => ?_)
  have f1817 : (x_1).toInt = ((v_told_units).toInt - 1) := by rw [e_x_1]; exact v1816.out
  exact sFX6_turnTried_10L n hn v_told_units a_told_settings n a_tried x_1 i0 i1 i2 i3 (by omega) (by omega) (by omega)
