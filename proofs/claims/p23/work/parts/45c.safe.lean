set_option maxHeartbeats 2000000 in
theorem sX6_inflow (n : Nat) (hn : n = 2200000000) (a_byHand : Nat → Int32) (z1 : Int32) (z2 : Int32) : OK (FX6_inflow n a_byHand z1 z2) (fun u => ((0 ≤ (z1).toInt ∧ (z1).toInt ≤ 4 ∧ -1 ≤ (z2).toInt ∧ (z2).toInt ≤ 1000000 ∧ (u.1).toInt = 1) ∨ (¬ (0 ≤ (z1).toInt ∧ (z1).toInt ≤ 4 ∧ -1 ≤ (z2).toInt ∧ (z2).toInt ≤ 1000000) ∧ (u.1).toInt = 0))) := by
  unfold FX6_inflow
  refine OK_bd (sX6_isKind n hn z1) (fun u_2 p_u_2 => ?_)
  obtain ⟨p1689, p1690⟩ := p_u_2
  refine OK_if (fun c1691 => ?_) (fun c1691 => ?_)
  · have v1692 : HQ ((0 : Int32)).toInt 0 := HQ.mk (by decide)
    have f1693 := eq32k rfl v1692.out c1691
    exact OK_some (show ((0 ≤ (z1).toInt ∧ (z1).toInt ≤ 4 ∧ -1 ≤ (z2).toInt ∧ (z2).toInt ≤ 1000000 ∧ ((0 : Int32)).toInt = 1) ∨ (¬ (0 ≤ (z1).toInt ∧ (z1).toInt ≤ 4 ∧ -1 ≤ (z2).toInt ∧ (z2).toInt ≤ 1000000) ∧ ((0 : Int32)).toInt = 0)) from (by (rw [v1692.out]) <;> omega))
  · have v1694 : HQ ((0 : Int32)).toInt 0 := HQ.mk (by decide)
    have f1695 := neq32k rfl v1694.out c1691
    refine OK_if (fun c1696 => ?_) (fun c1696 => ?_)
    · have v1697 : HQ ((-1 : Int32)).toInt (-1) := HQ.mk (by decide)
      have f1698 := lt32k rfl v1697.out c1696
      exact OK_some (show ((0 ≤ (z1).toInt ∧ (z1).toInt ≤ 4 ∧ -1 ≤ (z2).toInt ∧ (z2).toInt ≤ 1000000 ∧ ((0 : Int32)).toInt = 1) ∨ (¬ (0 ≤ (z1).toInt ∧ (z1).toInt ≤ 4 ∧ -1 ≤ (z2).toInt ∧ (z2).toInt ≤ 1000000) ∧ ((0 : Int32)).toInt = 0)) from (by (rw [v1694.out]) <;> omega))
    · have v1699 : HQ ((-1 : Int32)).toInt (-1) := HQ.mk (by decide)
      have f1700 := nlt32k rfl v1699.out c1696
      refine OK_if (fun c1701 => ?_) (fun c1701 => ?_)
      · have v1702 : HQ ((1000000 : Int32)).toInt 1000000 := HQ.mk (by decide)
        have f1703 := le32k rfl v1702.out c1701
        refine OK_ck (ckV rfl (by omega) (by omega)) ?_
        obtain ⟨m1704, v1705, f1706⟩ := tnV (e := z1) rfl (by omega)
        refine OK_lt (fun f_7 e_f_7 => ?_)
        rw [v1705.out] at e_f_7
        have v1707 : HQ ((1 : Int32)).toInt 1 := HQ.mk (by decide)
        exact OK_some (show ((0 ≤ (z1).toInt ∧ (z1).toInt ≤ 4 ∧ -1 ≤ (z2).toInt ∧ (z2).toInt ≤ 1000000 ∧ ((1 : Int32)).toInt = 1) ∨ (¬ (0 ≤ (z1).toInt ∧ (z1).toInt ≤ 4 ∧ -1 ≤ (z2).toInt ∧ (z2).toInt ≤ 1000000) ∧ ((1 : Int32)).toInt = 0)) from (by (rw [v1707.out]) <;> omega))
      · have v1708 : HQ ((1000000 : Int32)).toInt 1000000 := HQ.mk (by decide)
        have f1709 := nle32k rfl v1708.out c1701
        exact OK_some (show ((0 ≤ (z1).toInt ∧ (z1).toInt ≤ 4 ∧ -1 ≤ (z2).toInt ∧ (z2).toInt ≤ 1000000 ∧ ((0 : Int32)).toInt = 1) ∨ (¬ (0 ≤ (z1).toInt ∧ (z1).toInt ≤ 4 ∧ -1 ≤ (z2).toInt ∧ (z2).toInt ≤ 1000000) ∧ ((0 : Int32)).toInt = 0)) from (by (rw [v1694.out]) <;> omega))
set_option maxHeartbeats 2000000 in
theorem sX6_comingOf (n : Nat) (hn : n = 2200000000) (a_byHand : Nat → Int32) (a_yard_ofTowns : Nat → Int32) (z1 : Int32) (i0 : 0 ≤ (z1).toInt) (i1 : (z1).toInt ≤ 4) : OK (FX6_comingOf n a_byHand a_yard_ofTowns z1) (fun u => True) := by
  unfold FX6_comingOf
  refine OK_ck (ckV rfl (by omega) (by omega)) ?_
  refine OK_if (fun c1710 => ?_) (fun c1710 => ?_)
  · obtain ⟨m1711, v1712, f1713⟩ := tnV (e := z1) rfl (by omega)
    have v1714 : HQ ((a_byHand ((z1).toNatClampNeg))).toInt (a_byHand m1711).toInt := HQ.mk (by rw [v1712.out])
    have v1715 : HQ ((-1 : Int32)).toInt (-1) := HQ.mk (by decide)
    have f1716 := eq32k v1714.out v1715.out c1710
    refine OK_bd (sX5_ofAll n hn a_yard_ofTowns z1 i0 i1) (fun u_4 p_u_4 => ?_)
    exact OK_some trivial
  · obtain ⟨m1717, v1718, f1719⟩ := tnV (e := z1) rfl (by omega)
    have v1720 : HQ ((a_byHand ((z1).toNatClampNeg))).toInt (a_byHand m1717).toInt := HQ.mk (by rw [v1718.out])
    have v1721 : HQ ((-1 : Int32)).toInt (-1) := HQ.mk (by decide)
    have f1722 := neq32k v1720.out v1721.out c1710
    refine OK_ck (ckV rfl (by omega) (by omega)) ?_
    exact OK_some trivial
set_option maxHeartbeats 2000000 in
theorem sX6_comes (n : Nat) (hn : n = 2200000000) (a_byHand : Nat → Int32) (a_yard_ofTowns : Nat → Int32) (z1 : Int32) : OK (FX6_comes n a_byHand a_yard_ofTowns z1) (fun u => True) := by
  unfold FX6_comes
  refine OK_bd (sX6_isKind n hn z1) (fun u_2 p_u_2 => ?_)
  obtain ⟨p1723, p1724⟩ := p_u_2
  refine OK_if (fun c1725 => ?_) (fun c1725 => ?_)
  · have v1726 : HQ ((0 : Int32)).toInt 0 := HQ.mk (by decide)
    have f1727 := eq32k rfl v1726.out c1725
    exact OK_some trivial
  · have v1728 : HQ ((0 : Int32)).toInt 0 := HQ.mk (by decide)
    have f1729 := neq32k rfl v1728.out c1725
    refine OK_bd (sX6_comingOf n hn a_byHand a_yard_ofTowns z1 (by omega) (by omega)) (fun u_5 p_u_5 => ?_)
    exact OK_some trivial
set_option maxHeartbeats 2000000 in
theorem sFX6_gatherInflow_2 (n : Nat) (hn : n = 2200000000) (a_byHand : Nat → Int32) (a_yard_ofTowns : Nat → Int32) (k2 : (Nat → Int32) → Int32 → Option (Unit × (Nat → Int32))) (mB2 : Nat) (hk2 : ∀ (a_coming : Nat → Int32) (x1 : Int32), (0 ≤ (x1).toInt) → ((x1).toInt ≤ 5) → (5 - (x1).toInt).toNat < mB2 → OK (k2 a_coming x1) (fun u => True)) (a_coming : Nat → Int32) (x1 : Int32) (i0 : 0 ≤ (x1).toInt) (i1 : (x1).toInt ≤ 5) (hmu : (5 - (x1).toInt).toNat ≤ mB2) : OK (FX6_gatherInflow_2 n a_byHand a_yard_ofTowns k2 a_coming x1) (fun u => True) := by
  unfold FX6_gatherInflow_2
  refine OK_if (fun c1730 => ?_) (fun c1730 => ?_)
  · have v1731 : HQ ((5 : Int32)).toInt 5 := HQ.mk (by decide)
    have f1732 := le32k v1731.out rfl c1730
    exact OK_some trivial
  · have v1733 : HQ ((5 : Int32)).toInt 5 := HQ.mk (by decide)
    have f1734 := nle32k v1733.out rfl c1730
    refine OK_bd (sX6_comingOf n hn a_byHand a_yard_ofTowns x1 i0 (by omega)) (fun u_3 p_u_3 => ?_)
    refine OK_ck (ckV rfl (by omega) (by omega)) ?_
    obtain ⟨m1735, v1736, f1737⟩ := tnV (e := x1) rfl (by omega)
    refine OK_lt (fun f_5 e_f_5 => ?_)
    rw [v1736.out] at e_f_5
    have v1738 : HQ ((1 : Int32)).toInt 1 := HQ.mk (by decide)
    have v1739 : HQ ((x1 + (1 : Int32))).toInt ((x1).toInt + 1) := HQ.mk (addV rfl v1738.out (by omega) (by omega))
    refine OK_lt (fun x_6 e_x_6 => ?_)
    have f1740 : (x_6).toInt = ((x1).toInt + 1) := by rw [e_x_6]; exact v1739.out
    exact hk2 f_5 x_6 (by omega) (by omega) (by omega)
theorem sFX6_gatherInflow_2L (n : Nat) (hn : n = 2200000000) (a_byHand : Nat → Int32) (a_yard_ofTowns : Nat → Int32) : ∀ (j : Nat) (a_coming : Nat → Int32) (x1 : Int32), (0 ≤ (x1).toInt) → ((x1).toInt ≤ 5) → (5 - (x1).toInt).toNat < j → OK (FX6_gatherInflow_2L n a_byHand a_yard_ofTowns j a_coming x1) (fun u => True) := by
  intro j
  induction j with
  | zero => intro _ _ _ _ hj; exact absurd hj (Nat.not_lt_zero _)
  | succ j ih =>
    intro a_coming x1 i0 i1 hj
    exact sFX6_gatherInflow_2 n hn a_byHand a_yard_ofTowns (FX6_gatherInflow_2L n a_byHand a_yard_ofTowns j) ((5 - (x1).toInt).toNat) (fun y0 y1 w0 w1 hlt => ih y0 y1 w0 w1 (by omega)) a_coming x1 i0 i1 (Nat.le_refl _)
set_option maxHeartbeats 2000000 in
theorem sX6_gatherInflow (n : Nat) (hn : n = 2200000000) (a_coming : Nat → Int32) (a_byHand : Nat → Int32) (a_yard_ofTowns : Nat → Int32) : OK (FX6_gatherInflow n a_coming a_byHand a_yard_ofTowns) (fun u => True) := by
  unfold FX6_gatherInflow
  have v1741 : HQ ((0 : Int32)).toInt 0 := HQ.mk (by decide)
  exact sFX6_gatherInflow_2L n hn a_byHand a_yard_ofTowns n a_coming (0 : Int32) (by (rw [v1741.out]) <;> omega) (by (rw [v1741.out]) <;> omega) (by (rw [v1741.out]) <;> omega)
set_option maxHeartbeats 2000000 in
theorem sX6_sortByChoice (n : Nat) (hn : n = 2200000000) (a_coming : Nat → Int32) (a_byHand : Nat → Int32) (a_yard_ofTowns : Nat → Int32) (v_told_units : Int32) (a_chosen : Nat → Int32) (v_ends_wholeOfAll : Int64) (a_heaps_held : Nat → Int32) (a_heaps_totals : Nat → Int32) (a_ends_parts : Nat → Int64) (a_ends_rows : Nat → Int32) (a_ends_outs : Nat → Int32) (a_told_percents : Nat → Int32) (a_told_yesLeads : Nat → Int32) (a_told_noLeads : Nat → Int32) (a_ends_minors : Nat → Int64) (i0 : 0 ≤ (v_told_units).toInt) (i1 : (v_told_units).toInt ≤ 5) (i2 : ∀ i : Nat, ((i : Int) < (v_told_units).toInt) → ((0 ≤ (a_told_yesLeads i).toInt ∧ (a_told_yesLeads i).toInt ≤ 4) ∨ (10 ≤ (a_told_yesLeads i).toInt ∧ (a_told_yesLeads i).toInt ≤ 13) ∨ (a_told_yesLeads i).toInt = 20)) (i3 : ∀ i : Nat, ((i : Int) < (v_told_units).toInt) → ((0 ≤ (a_told_noLeads i).toInt ∧ (a_told_noLeads i).toInt ≤ 4) ∨ (10 ≤ (a_told_noLeads i).toInt ∧ (a_told_noLeads i).toInt ≤ 13) ∨ (a_told_noLeads i).toInt = 20)) (i4 : ∀ i : Nat, (i < 5) → (0 ≤ (a_chosen i).toInt ∧ (a_chosen i).toInt ≤ 2)) : OK (FX6_sortByChoice n a_coming a_byHand a_yard_ofTowns v_told_units a_chosen v_ends_wholeOfAll a_heaps_held a_heaps_totals a_ends_parts a_ends_rows a_ends_outs a_told_percents a_told_yesLeads a_told_noLeads a_ends_minors) (fun u => True) := by
  unfold FX6_sortByChoice
  refine OK_bd (sX6_gatherInflow n hn a_coming a_byHand a_yard_ofTowns) (fun u_2 p_u_2 => ?_)
  refine OK_bd (sX1_sort n hn v_told_units a_chosen u_2.2 v_ends_wholeOfAll a_heaps_held a_heaps_totals a_ends_parts a_ends_rows a_ends_outs a_told_percents a_told_yesLeads a_told_noLeads a_ends_minors i0 i1 i2 i3 i4) (fun u_4 p_u_4 => ?_)
  exact OK_some trivial
set_option maxHeartbeats 2000000 in
theorem sX6_grams (n : Nat) (hn : n = 2200000000) (a_coming : Nat → Int32) (a_byHand : Nat → Int32) (a_yard_ofTowns : Nat → Int32) (v_told_units : Int32) (a_chosen : Nat → Int32) (v_ends_wholeOfAll : Int64) (a_heaps_held : Nat → Int32) (a_heaps_totals : Nat → Int32) (a_ends_parts : Nat → Int64) (a_ends_rows : Nat → Int32) (a_ends_outs : Nat → Int32) (a_told_percents : Nat → Int32) (a_told_yesLeads : Nat → Int32) (a_told_noLeads : Nat → Int32) (a_ends_minors : Nat → Int64) (z1 : Int32) (z2 : Int32) (i0 : 0 ≤ (v_told_units).toInt) (i1 : (v_told_units).toInt ≤ 5) (i2 : ∀ i : Nat, ((i : Int) < (v_told_units).toInt) → ((0 ≤ (a_told_yesLeads i).toInt ∧ (a_told_yesLeads i).toInt ≤ 4) ∨ (10 ≤ (a_told_yesLeads i).toInt ∧ (a_told_yesLeads i).toInt ≤ 13) ∨ (a_told_yesLeads i).toInt = 20)) (i3 : ∀ i : Nat, ((i : Int) < (v_told_units).toInt) → ((0 ≤ (a_told_noLeads i).toInt ∧ (a_told_noLeads i).toInt ≤ 4) ∨ (10 ≤ (a_told_noLeads i).toInt ∧ (a_told_noLeads i).toInt ≤ 13) ∨ (a_told_noLeads i).toInt = 20)) (i4 : ∀ i : Nat, (i < 5) → (0 ≤ (a_chosen i).toInt ∧ (a_chosen i).toInt ≤ 2)) : OK (FX6_grams n a_coming a_byHand a_yard_ofTowns v_told_units a_chosen v_ends_wholeOfAll a_heaps_held a_heaps_totals a_ends_parts a_ends_rows a_ends_outs a_told_percents a_told_yesLeads a_told_noLeads a_ends_minors z1 z2) (fun u => True) := by
  unfold FX6_grams
  refine OK_bd (sX6_isOut n hn z1) (fun u_2 p_u_2 => ?_)
  have p1742 := p_u_2
  clear p_u_2
  refine OK_if (fun c1743 => ?_) (fun c1743 => ?_)
  · have v1744 : HQ ((0 : Int32)).toInt 0 := HQ.mk (by decide)
    have f1745 := eq32k rfl v1744.out c1743
    exact OK_some trivial
  · have v1746 : HQ ((0 : Int32)).toInt 0 := HQ.mk (by decide)
    have f1747 := neq32k rfl v1746.out c1743
    refine OK_bd (sX6_isKind n hn z2) (fun u_5 p_u_5 => ?_)
    obtain ⟨p1748, p1749⟩ := p_u_5
    refine OK_if (fun c1750 => ?_) (fun c1750 => ?_)
    · have f1751 := eq32k rfl v1746.out c1750
      exact OK_some trivial
    · have f1752 := neq32k rfl v1746.out c1750
      refine OK_bd (sX6_sortByChoice n hn a_coming a_byHand a_yard_ofTowns v_told_units a_chosen v_ends_wholeOfAll a_heaps_held a_heaps_totals a_ends_parts a_ends_rows a_ends_outs a_told_percents a_told_yesLeads a_told_noLeads a_ends_minors i0 i1 i2 i3 i4) (fun u_8 p_u_8 => ?_)
      have v1753 : HQ ((5 : Int32)).toInt 5 := HQ.mk (by decide)
      have v1754 : HQ ((z1 * (5 : Int32))).toInt ((z1).toInt * 5) := HQ.mk (mulV rfl v1753.out (by omega) (by omega))
      have v1755 : HQ (((z1 * (5 : Int32)) + z2)).toInt (((z1).toInt * 5) + (z2).toInt) := HQ.mk (addV v1754.out rfl (by omega) (by omega))
      refine OK_ck (ckV v1755.out (by omega) (by omega)) ?_
      exact OK_some trivial
set_option maxHeartbeats 2000000 in
theorem sX6_purity (n : Nat) (hn : n = 2200000000) (a_coming : Nat → Int32) (a_byHand : Nat → Int32) (a_yard_ofTowns : Nat → Int32) (v_told_units : Int32) (a_chosen : Nat → Int32) (v_ends_wholeOfAll : Int64) (a_heaps_held : Nat → Int32) (a_heaps_totals : Nat → Int32) (a_ends_parts : Nat → Int64) (a_ends_rows : Nat → Int32) (a_ends_outs : Nat → Int32) (a_told_percents : Nat → Int32) (a_told_yesLeads : Nat → Int32) (a_told_noLeads : Nat → Int32) (a_ends_minors : Nat → Int64) (a_told_grades : Nat → Int32) (a_told_gradeKinds : Nat → Int32) (z1 : Int32) (i0 : 0 ≤ (v_told_units).toInt) (i1 : (v_told_units).toInt ≤ 5) (i2 : ∀ i : Nat, ((i : Int) < (v_told_units).toInt) → ((0 ≤ (a_told_yesLeads i).toInt ∧ (a_told_yesLeads i).toInt ≤ 4) ∨ (10 ≤ (a_told_yesLeads i).toInt ∧ (a_told_yesLeads i).toInt ≤ 13) ∨ (a_told_yesLeads i).toInt = 20)) (i3 : ∀ i : Nat, ((i : Int) < (v_told_units).toInt) → ((0 ≤ (a_told_noLeads i).toInt ∧ (a_told_noLeads i).toInt ≤ 4) ∨ (10 ≤ (a_told_noLeads i).toInt ∧ (a_told_noLeads i).toInt ≤ 13) ∨ (a_told_noLeads i).toInt = 20)) (i4 : ∀ i : Nat, (i < 5) → (0 ≤ (a_chosen i).toInt ∧ (a_chosen i).toInt ≤ 2)) (i5 : ∀ i : Nat, (i < 4) → (0 ≤ (a_told_grades i).toInt ∧ (a_told_grades i).toInt ≤ 4)) (i6 : ∀ i : Nat, (i < 4) → (0 ≤ (a_told_gradeKinds i).toInt ∧ (a_told_gradeKinds i).toInt ≤ 4)) : OK (FX6_purity n a_coming a_byHand a_yard_ofTowns v_told_units a_chosen v_ends_wholeOfAll a_heaps_held a_heaps_totals a_ends_parts a_ends_rows a_ends_outs a_told_percents a_told_yesLeads a_told_noLeads a_ends_minors a_told_grades a_told_gradeKinds z1) (fun u => True) := by
  unfold FX6_purity
  refine OK_bd (sX6_isBale n hn z1) (fun u_2 p_u_2 => ?_)
  have p1756 := p_u_2
  clear p_u_2
  refine OK_if (fun c1757 => ?_) (fun c1757 => ?_)
  · have v1758 : HQ ((0 : Int32)).toInt 0 := HQ.mk (by decide)
    have f1759 := eq32k rfl v1758.out c1757
    exact OK_some trivial
  · have v1760 : HQ ((0 : Int32)).toInt 0 := HQ.mk (by decide)
    have f1761 := neq32k rfl v1760.out c1757
    refine OK_bd (sX6_sortByChoice n hn a_coming a_byHand a_yard_ofTowns v_told_units a_chosen v_ends_wholeOfAll a_heaps_held a_heaps_totals a_ends_parts a_ends_rows a_ends_outs a_told_percents a_told_yesLeads a_told_noLeads a_ends_minors i0 i1 i2 i3 i4) (fun u_5 p_u_5 => ?_)
    refine OK_bd (sX1_purityOf n hn u_5.2.2.2.2.1 a_told_grades u_5.2.2.2.1 a_told_gradeKinds z1 (by omega) (by omega) i5 i6) (fun u_7 p_u_7 => ?_)
    exact OK_some trivial
