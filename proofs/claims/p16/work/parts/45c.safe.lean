set_option maxHeartbeats 2000000 in
theorem sX6_inflow (n : Nat) (hn : n = 3000) (a_byHand : Nat → Int32) (z1 : Int32) (z2 : Int32) : OK (FX6_inflow n a_byHand z1 z2) (fun u => ((0 ≤ (z1).toInt ∧ (z1).toInt ≤ 4 ∧ -1 ≤ (z2).toInt ∧ (z2).toInt ≤ 1000000 ∧ (u.1).toInt = 1) ∨ (¬ (0 ≤ (z1).toInt ∧ (z1).toInt ≤ 4 ∧ -1 ≤ (z2).toInt ∧ (z2).toInt ≤ 1000000) ∧ (u.1).toInt = 0))) := by
  unfold FX6_inflow
  refine OK_bd (sX6_isKind n hn z1) (fun u_2 p_u_2 => ?_)
  obtain ⟨p1629, p1630⟩ := p_u_2
  refine OK_if (fun c1631 => ?_) (fun c1631 => ?_)
  · have v1632 : HQ ((0 : Int32)).toInt 0 := HQ.mk (by decide)
    have f1633 := eq32k rfl v1632.out c1631
    exact OK_some (show ((0 ≤ (z1).toInt ∧ (z1).toInt ≤ 4 ∧ -1 ≤ (z2).toInt ∧ (z2).toInt ≤ 1000000 ∧ ((0 : Int32)).toInt = 1) ∨ (¬ (0 ≤ (z1).toInt ∧ (z1).toInt ≤ 4 ∧ -1 ≤ (z2).toInt ∧ (z2).toInt ≤ 1000000) ∧ ((0 : Int32)).toInt = 0)) from (by rw [v1632.out]; omega))
  · have v1634 : HQ ((0 : Int32)).toInt 0 := HQ.mk (by decide)
    have f1635 := neq32k rfl v1634.out c1631
    refine OK_if (fun c1636 => ?_) (fun c1636 => ?_)
    · have v1637 : HQ ((-1 : Int32)).toInt (-1) := HQ.mk (by decide)
      have f1638 := lt32k rfl v1637.out c1636
      exact OK_some (show ((0 ≤ (z1).toInt ∧ (z1).toInt ≤ 4 ∧ -1 ≤ (z2).toInt ∧ (z2).toInt ≤ 1000000 ∧ ((0 : Int32)).toInt = 1) ∨ (¬ (0 ≤ (z1).toInt ∧ (z1).toInt ≤ 4 ∧ -1 ≤ (z2).toInt ∧ (z2).toInt ≤ 1000000) ∧ ((0 : Int32)).toInt = 0)) from (by rw [v1634.out]; omega))
    · have v1639 : HQ ((-1 : Int32)).toInt (-1) := HQ.mk (by decide)
      have f1640 := nlt32k rfl v1639.out c1636
      refine OK_if (fun c1641 => ?_) (fun c1641 => ?_)
      · have v1642 : HQ ((1000000 : Int32)).toInt 1000000 := HQ.mk (by decide)
        have f1643 := le32k rfl v1642.out c1641
        refine OK_ck (ckV rfl (by omega) (by omega)) ?_
        obtain ⟨m1644, v1645, f1646⟩ := tnV rfl (by omega)
        refine OK_lt (fun f_7 e_f_7 => ?_)
        rw [v1645.out] at e_f_7
        have v1647 : HQ ((1 : Int32)).toInt 1 := HQ.mk (by decide)
        exact OK_some (show ((0 ≤ (z1).toInt ∧ (z1).toInt ≤ 4 ∧ -1 ≤ (z2).toInt ∧ (z2).toInt ≤ 1000000 ∧ ((1 : Int32)).toInt = 1) ∨ (¬ (0 ≤ (z1).toInt ∧ (z1).toInt ≤ 4 ∧ -1 ≤ (z2).toInt ∧ (z2).toInt ≤ 1000000) ∧ ((1 : Int32)).toInt = 0)) from (by rw [v1647.out]; omega))
      · have v1648 : HQ ((1000000 : Int32)).toInt 1000000 := HQ.mk (by decide)
        have f1649 := nle32k rfl v1648.out c1641
        exact OK_some (show ((0 ≤ (z1).toInt ∧ (z1).toInt ≤ 4 ∧ -1 ≤ (z2).toInt ∧ (z2).toInt ≤ 1000000 ∧ ((0 : Int32)).toInt = 1) ∨ (¬ (0 ≤ (z1).toInt ∧ (z1).toInt ≤ 4 ∧ -1 ≤ (z2).toInt ∧ (z2).toInt ≤ 1000000) ∧ ((0 : Int32)).toInt = 0)) from (by rw [v1634.out]; omega))
set_option maxHeartbeats 2000000 in
theorem sX6_comingOf (n : Nat) (hn : n = 3000) (a_byHand : Nat → Int32) (a_yard_ofTowns : Nat → Int32) (z1 : Int32) (i0 : 0 ≤ (z1).toInt) (i1 : (z1).toInt ≤ 4) : OK (FX6_comingOf n a_byHand a_yard_ofTowns z1) (fun u => True) := by
  unfold FX6_comingOf
  refine OK_ck (ckV rfl (by omega) (by omega)) ?_
  refine OK_if (fun c1650 => ?_) (fun c1650 => ?_)
  · obtain ⟨m1651, v1652, f1653⟩ := tnV rfl (by omega)
    have v1654 : HQ ((a_byHand ((z1).toNatClampNeg))).toInt (a_byHand m1651).toInt := HQ.mk (by rw [v1652.out])
    have v1655 : HQ ((-1 : Int32)).toInt (-1) := HQ.mk (by decide)
    have f1656 := eq32k v1654.out v1655.out c1650
    refine OK_bd (sX5_ofAll n hn a_yard_ofTowns z1 i0 i1) (fun u_4 p_u_4 => ?_)
    exact OK_some trivial
  · obtain ⟨m1657, v1658, f1659⟩ := tnV rfl (by omega)
    have v1660 : HQ ((a_byHand ((z1).toNatClampNeg))).toInt (a_byHand m1657).toInt := HQ.mk (by rw [v1658.out])
    have v1661 : HQ ((-1 : Int32)).toInt (-1) := HQ.mk (by decide)
    have f1662 := neq32k v1660.out v1661.out c1650
    refine OK_ck (ckV rfl (by omega) (by omega)) ?_
    exact OK_some trivial
set_option maxHeartbeats 2000000 in
theorem sX6_comes (n : Nat) (hn : n = 3000) (a_byHand : Nat → Int32) (a_yard_ofTowns : Nat → Int32) (z1 : Int32) : OK (FX6_comes n a_byHand a_yard_ofTowns z1) (fun u => True) := by
  unfold FX6_comes
  refine OK_bd (sX6_isKind n hn z1) (fun u_2 p_u_2 => ?_)
  obtain ⟨p1663, p1664⟩ := p_u_2
  refine OK_if (fun c1665 => ?_) (fun c1665 => ?_)
  · have v1666 : HQ ((0 : Int32)).toInt 0 := HQ.mk (by decide)
    have f1667 := eq32k rfl v1666.out c1665
    exact OK_some trivial
  · have v1668 : HQ ((0 : Int32)).toInt 0 := HQ.mk (by decide)
    have f1669 := neq32k rfl v1668.out c1665
    refine OK_bd (sX6_comingOf n hn a_byHand a_yard_ofTowns z1 (by omega) (by omega)) (fun u_5 p_u_5 => ?_)
    exact OK_some trivial
set_option maxHeartbeats 2000000 in
theorem sFX6_gatherInflow_2 (n : Nat) (hn : n = 3000) (a_byHand : Nat → Int32) (a_yard_ofTowns : Nat → Int32) (k2 : (Nat → Int32) → Int32 → Option (Unit × (Nat → Int32))) (mB2 : Nat) (hk2 : ∀ (a_coming : Nat → Int32) (x1 : Int32), (0 ≤ (x1).toInt) → ((x1).toInt ≤ 5) → (5 - (x1).toInt).toNat < mB2 → OK (k2 a_coming x1) (fun u => True)) (a_coming : Nat → Int32) (x1 : Int32) (i0 : 0 ≤ (x1).toInt) (i1 : (x1).toInt ≤ 5) (hmu : (5 - (x1).toInt).toNat ≤ mB2) : OK (FX6_gatherInflow_2 n a_byHand a_yard_ofTowns k2 a_coming x1) (fun u => True) := by
  unfold FX6_gatherInflow_2
  refine OK_if (fun c1670 => ?_) (fun c1670 => ?_)
  · have v1671 : HQ ((5 : Int32)).toInt 5 := HQ.mk (by decide)
    have f1672 := le32k v1671.out rfl c1670
    exact OK_some trivial
  · have v1673 : HQ ((5 : Int32)).toInt 5 := HQ.mk (by decide)
    have f1674 := nle32k v1673.out rfl c1670
    refine OK_bd (sX6_comingOf n hn a_byHand a_yard_ofTowns x1 i0 (by omega)) (fun u_3 p_u_3 => ?_)
    refine OK_ck (ckV rfl (by omega) (by omega)) ?_
    obtain ⟨m1675, v1676, f1677⟩ := tnV rfl (by omega)
    refine OK_lt (fun f_5 e_f_5 => ?_)
    rw [v1676.out] at e_f_5
    have v1678 : HQ ((1 : Int32)).toInt 1 := HQ.mk (by decide)
    have v1679 : HQ ((x1 + (1 : Int32))).toInt ((x1).toInt + 1) := HQ.mk (addV rfl v1678.out (by omega) (by omega))
    refine OK_lt (fun x_6 e_x_6 => ?_)
    have f1680 : (x_6).toInt = ((x1).toInt + 1) := by rw [e_x_6]; exact v1679.out
    exact hk2 f_5 x_6 (by omega) (by omega) (by omega)
theorem sFX6_gatherInflow_2L (n : Nat) (hn : n = 3000) (a_byHand : Nat → Int32) (a_yard_ofTowns : Nat → Int32) : ∀ (j : Nat) (a_coming : Nat → Int32) (x1 : Int32), (0 ≤ (x1).toInt) → ((x1).toInt ≤ 5) → (5 - (x1).toInt).toNat < j → OK (FX6_gatherInflow_2L n a_byHand a_yard_ofTowns j a_coming x1) (fun u => True) := by
  intro j
  induction j with
  | zero => intro _ _ _ _ hj; exact absurd hj (Nat.not_lt_zero _)
  | succ j ih =>
    intro a_coming x1 i0 i1 hj
    exact sFX6_gatherInflow_2 n hn a_byHand a_yard_ofTowns (FX6_gatherInflow_2L n a_byHand a_yard_ofTowns j) ((5 - (x1).toInt).toNat) (fun y0 y1 w0 w1 hlt => ih y0 y1 w0 w1 (by omega)) a_coming x1 i0 i1 (Nat.le_refl _)
set_option maxHeartbeats 2000000 in
theorem sX6_gatherInflow (n : Nat) (hn : n = 3000) (a_coming : Nat → Int32) (a_byHand : Nat → Int32) (a_yard_ofTowns : Nat → Int32) : OK (FX6_gatherInflow n a_coming a_byHand a_yard_ofTowns) (fun u => True) := by
  unfold FX6_gatherInflow
  have v1681 : HQ ((0 : Int32)).toInt 0 := HQ.mk (by decide)
  exact sFX6_gatherInflow_2L n hn a_byHand a_yard_ofTowns n a_coming (0 : Int32) (by rw [v1681.out]; omega) (by rw [v1681.out]; omega) (by omega)
set_option maxHeartbeats 2000000 in
theorem sX6_sortByChoice (n : Nat) (hn : n = 3000) (a_coming : Nat → Int32) (a_byHand : Nat → Int32) (a_yard_ofTowns : Nat → Int32) (v_told_units : Int32) (a_chosen : Nat → Int32) (v_ends_wholeOfAll : Int64) (a_heaps_held : Nat → Int32) (a_heaps_totals : Nat → Int32) (a_ends_parts : Nat → Int64) (a_ends_rows : Nat → Int32) (a_ends_outs : Nat → Int32) (a_told_percents : Nat → Int32) (a_told_yesLeads : Nat → Int32) (a_told_noLeads : Nat → Int32) (a_ends_minors : Nat → Int64) (i0 : 0 ≤ (v_told_units).toInt) (i1 : (v_told_units).toInt ≤ 5) (i2 : ∀ i : Nat, ((i : Int) < (v_told_units).toInt) → ((0 ≤ (a_told_yesLeads i).toInt ∧ (a_told_yesLeads i).toInt ≤ 4) ∨ (10 ≤ (a_told_yesLeads i).toInt ∧ (a_told_yesLeads i).toInt ≤ 13) ∨ (a_told_yesLeads i).toInt = 20)) (i3 : ∀ i : Nat, ((i : Int) < (v_told_units).toInt) → ((0 ≤ (a_told_noLeads i).toInt ∧ (a_told_noLeads i).toInt ≤ 4) ∨ (10 ≤ (a_told_noLeads i).toInt ∧ (a_told_noLeads i).toInt ≤ 13) ∨ (a_told_noLeads i).toInt = 20)) (i4 : ∀ i : Nat, (i < 5) → (0 ≤ (a_chosen i).toInt ∧ (a_chosen i).toInt ≤ 2)) : OK (FX6_sortByChoice n a_coming a_byHand a_yard_ofTowns v_told_units a_chosen v_ends_wholeOfAll a_heaps_held a_heaps_totals a_ends_parts a_ends_rows a_ends_outs a_told_percents a_told_yesLeads a_told_noLeads a_ends_minors) (fun u => True) := by
  unfold FX6_sortByChoice
  refine OK_bd (sX6_gatherInflow n hn a_coming a_byHand a_yard_ofTowns) (fun u_2 p_u_2 => ?_)
  refine OK_bd (sX1_sort n hn v_told_units a_chosen u_2.2 v_ends_wholeOfAll a_heaps_held a_heaps_totals a_ends_parts a_ends_rows a_ends_outs a_told_percents a_told_yesLeads a_told_noLeads a_ends_minors i0 i1 i2 i3 i4) (fun u_4 p_u_4 => ?_)
  exact OK_some trivial
set_option maxHeartbeats 2000000 in
theorem sX6_grams (n : Nat) (hn : n = 3000) (a_coming : Nat → Int32) (a_byHand : Nat → Int32) (a_yard_ofTowns : Nat → Int32) (v_told_units : Int32) (a_chosen : Nat → Int32) (v_ends_wholeOfAll : Int64) (a_heaps_held : Nat → Int32) (a_heaps_totals : Nat → Int32) (a_ends_parts : Nat → Int64) (a_ends_rows : Nat → Int32) (a_ends_outs : Nat → Int32) (a_told_percents : Nat → Int32) (a_told_yesLeads : Nat → Int32) (a_told_noLeads : Nat → Int32) (a_ends_minors : Nat → Int64) (z1 : Int32) (z2 : Int32) (i0 : 0 ≤ (v_told_units).toInt) (i1 : (v_told_units).toInt ≤ 5) (i2 : ∀ i : Nat, ((i : Int) < (v_told_units).toInt) → ((0 ≤ (a_told_yesLeads i).toInt ∧ (a_told_yesLeads i).toInt ≤ 4) ∨ (10 ≤ (a_told_yesLeads i).toInt ∧ (a_told_yesLeads i).toInt ≤ 13) ∨ (a_told_yesLeads i).toInt = 20)) (i3 : ∀ i : Nat, ((i : Int) < (v_told_units).toInt) → ((0 ≤ (a_told_noLeads i).toInt ∧ (a_told_noLeads i).toInt ≤ 4) ∨ (10 ≤ (a_told_noLeads i).toInt ∧ (a_told_noLeads i).toInt ≤ 13) ∨ (a_told_noLeads i).toInt = 20)) (i4 : ∀ i : Nat, (i < 5) → (0 ≤ (a_chosen i).toInt ∧ (a_chosen i).toInt ≤ 2)) : OK (FX6_grams n a_coming a_byHand a_yard_ofTowns v_told_units a_chosen v_ends_wholeOfAll a_heaps_held a_heaps_totals a_ends_parts a_ends_rows a_ends_outs a_told_percents a_told_yesLeads a_told_noLeads a_ends_minors z1 z2) (fun u => True) := by
  unfold FX6_grams
  refine OK_bd (sX6_isOut n hn z1) (fun u_2 p_u_2 => ?_)
  have p1682 := p_u_2
  refine OK_if (fun c1683 => ?_) (fun c1683 => ?_)
  · have v1684 : HQ ((0 : Int32)).toInt 0 := HQ.mk (by decide)
    have f1685 := eq32k rfl v1684.out c1683
    exact OK_some trivial
  · have v1686 : HQ ((0 : Int32)).toInt 0 := HQ.mk (by decide)
    have f1687 := neq32k rfl v1686.out c1683
    refine OK_bd (sX6_isKind n hn z2) (fun u_5 p_u_5 => ?_)
    obtain ⟨p1688, p1689⟩ := p_u_5
    refine OK_if (fun c1690 => ?_) (fun c1690 => ?_)
    · have f1691 := eq32k rfl v1686.out c1690
      exact OK_some trivial
    · have f1692 := neq32k rfl v1686.out c1690
      refine OK_bd (sX6_sortByChoice n hn a_coming a_byHand a_yard_ofTowns v_told_units a_chosen v_ends_wholeOfAll a_heaps_held a_heaps_totals a_ends_parts a_ends_rows a_ends_outs a_told_percents a_told_yesLeads a_told_noLeads a_ends_minors i0 i1 i2 i3 i4) (fun u_8 p_u_8 => ?_)
      have v1693 : HQ ((5 : Int32)).toInt 5 := HQ.mk (by decide)
      have v1694 : HQ ((z1 * (5 : Int32))).toInt ((z1).toInt * 5) := HQ.mk (mulV rfl v1693.out (by omega) (by omega))
      have v1695 : HQ (((z1 * (5 : Int32)) + z2)).toInt (((z1).toInt * 5) + (z2).toInt) := HQ.mk (addV v1694.out rfl (by omega) (by omega))
      refine OK_ck (ckV v1695.out (by omega) (by omega)) ?_
      exact OK_some trivial
set_option maxHeartbeats 2000000 in
theorem sX6_purity (n : Nat) (hn : n = 3000) (a_coming : Nat → Int32) (a_byHand : Nat → Int32) (a_yard_ofTowns : Nat → Int32) (v_told_units : Int32) (a_chosen : Nat → Int32) (v_ends_wholeOfAll : Int64) (a_heaps_held : Nat → Int32) (a_heaps_totals : Nat → Int32) (a_ends_parts : Nat → Int64) (a_ends_rows : Nat → Int32) (a_ends_outs : Nat → Int32) (a_told_percents : Nat → Int32) (a_told_yesLeads : Nat → Int32) (a_told_noLeads : Nat → Int32) (a_ends_minors : Nat → Int64) (a_told_grades : Nat → Int32) (a_told_gradeKinds : Nat → Int32) (z1 : Int32) (i0 : 0 ≤ (v_told_units).toInt) (i1 : (v_told_units).toInt ≤ 5) (i2 : ∀ i : Nat, ((i : Int) < (v_told_units).toInt) → ((0 ≤ (a_told_yesLeads i).toInt ∧ (a_told_yesLeads i).toInt ≤ 4) ∨ (10 ≤ (a_told_yesLeads i).toInt ∧ (a_told_yesLeads i).toInt ≤ 13) ∨ (a_told_yesLeads i).toInt = 20)) (i3 : ∀ i : Nat, ((i : Int) < (v_told_units).toInt) → ((0 ≤ (a_told_noLeads i).toInt ∧ (a_told_noLeads i).toInt ≤ 4) ∨ (10 ≤ (a_told_noLeads i).toInt ∧ (a_told_noLeads i).toInt ≤ 13) ∨ (a_told_noLeads i).toInt = 20)) (i4 : ∀ i : Nat, (i < 5) → (0 ≤ (a_chosen i).toInt ∧ (a_chosen i).toInt ≤ 2)) (i5 : ∀ i : Nat, (i < 4) → (0 ≤ (a_told_grades i).toInt ∧ (a_told_grades i).toInt ≤ 4)) (i6 : ∀ i : Nat, (i < 4) → (0 ≤ (a_told_gradeKinds i).toInt ∧ (a_told_gradeKinds i).toInt ≤ 4)) : OK (FX6_purity n a_coming a_byHand a_yard_ofTowns v_told_units a_chosen v_ends_wholeOfAll a_heaps_held a_heaps_totals a_ends_parts a_ends_rows a_ends_outs a_told_percents a_told_yesLeads a_told_noLeads a_ends_minors a_told_grades a_told_gradeKinds z1) (fun u => True) := by
  unfold FX6_purity
  refine OK_bd (sX6_isBale n hn z1) (fun u_2 p_u_2 => ?_)
  have p1696 := p_u_2
  refine OK_if (fun c1697 => ?_) (fun c1697 => ?_)
  · have v1698 : HQ ((0 : Int32)).toInt 0 := HQ.mk (by decide)
    have f1699 := eq32k rfl v1698.out c1697
    exact OK_some trivial
  · have v1700 : HQ ((0 : Int32)).toInt 0 := HQ.mk (by decide)
    have f1701 := neq32k rfl v1700.out c1697
    refine OK_bd (sX6_sortByChoice n hn a_coming a_byHand a_yard_ofTowns v_told_units a_chosen v_ends_wholeOfAll a_heaps_held a_heaps_totals a_ends_parts a_ends_rows a_ends_outs a_told_percents a_told_yesLeads a_told_noLeads a_ends_minors i0 i1 i2 i3 i4) (fun u_5 p_u_5 => ?_)
    refine OK_bd (sX1_purityOf n hn u_5.2.2.2.2.1 a_told_grades u_5.2.2.2.1 a_told_gradeKinds z1 (by omega) (by omega) i5 i6) (fun u_7 p_u_7 => ?_)
    exact OK_some trivial
