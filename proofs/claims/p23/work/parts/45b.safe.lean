set_option maxHeartbeats 2000000 in
theorem sX6_isKind (n : Nat) (hn : n = 2200000000) (z0 : Int32) : OK (FX6_isKind n z0) (fun u => ((u.1).toInt ≠ 0 → (0 ≤ (z0).toInt ∧ (z0).toInt ≤ 4)) ∧ ((u.1).toInt = 0 → ¬ (0 ≤ (z0).toInt ∧ (z0).toInt ≤ 4))) := by
  unfold FX6_isKind
  refine OK_if (fun c1571 => ?_) (fun c1571 => ?_)
  · have v1572 : HQ ((0 : Int32)).toInt 0 := HQ.mk (by decide)
    have f1573 := lt32k rfl v1572.out c1571
    exact OK_some (show (((0 : Int32)).toInt ≠ 0 → (0 ≤ (z0).toInt ∧ (z0).toInt ≤ 4)) ∧ (((0 : Int32)).toInt = 0 → ¬ (0 ≤ (z0).toInt ∧ (z0).toInt ≤ 4)) from ⟨(by (rw [v1572.out]) <;> omega), (by (rw [v1572.out]) <;> omega)⟩)
  · have v1574 : HQ ((0 : Int32)).toInt 0 := HQ.mk (by decide)
    have f1575 := nlt32k rfl v1574.out c1571
    refine OK_if (fun c1576 => ?_) (fun c1576 => ?_)
    · have v1577 : HQ ((5 : Int32)).toInt 5 := HQ.mk (by decide)
      have f1578 := le32k v1577.out rfl c1576
      exact OK_some (show (((0 : Int32)).toInt ≠ 0 → (0 ≤ (z0).toInt ∧ (z0).toInt ≤ 4)) ∧ (((0 : Int32)).toInt = 0 → ¬ (0 ≤ (z0).toInt ∧ (z0).toInt ≤ 4)) from ⟨(by (rw [v1574.out]) <;> omega), (by (rw [v1574.out]) <;> omega)⟩)
    · have v1579 : HQ ((5 : Int32)).toInt 5 := HQ.mk (by decide)
      have f1580 := nle32k v1579.out rfl c1576
      have v1581 : HQ ((1 : Int32)).toInt 1 := HQ.mk (by decide)
      exact OK_some (show (((1 : Int32)).toInt ≠ 0 → (0 ≤ (z0).toInt ∧ (z0).toInt ≤ 4)) ∧ (((1 : Int32)).toInt = 0 → ¬ (0 ≤ (z0).toInt ∧ (z0).toInt ≤ 4)) from ⟨(by (rw [v1581.out]) <;> omega), (by (rw [v1581.out]) <;> omega)⟩)
set_option maxHeartbeats 2000000 in
theorem sX6_isOut (n : Nat) (hn : n = 2200000000) (z0 : Int32) : OK (FX6_isOut n z0) (fun u => ((u.1).toInt ≠ 0 → (0 ≤ (z0).toInt ∧ (z0).toInt ≤ 4))) := by
  unfold FX6_isOut
  refine OK_if (fun c1582 => ?_) (fun c1582 => ?_)
  · have v1583 : HQ ((0 : Int32)).toInt 0 := HQ.mk (by decide)
    have f1584 := lt32k rfl v1583.out c1582
    exact OK_some (show (((0 : Int32)).toInt ≠ 0 → (0 ≤ (z0).toInt ∧ (z0).toInt ≤ 4)) from (by (rw [v1583.out]) <;> omega))
  · have v1585 : HQ ((0 : Int32)).toInt 0 := HQ.mk (by decide)
    have f1586 := nlt32k rfl v1585.out c1582
    refine OK_if (fun c1587 => ?_) (fun c1587 => ?_)
    · have v1588 : HQ ((5 : Int32)).toInt 5 := HQ.mk (by decide)
      have f1589 := le32k v1588.out rfl c1587
      exact OK_some (show (((0 : Int32)).toInt ≠ 0 → (0 ≤ (z0).toInt ∧ (z0).toInt ≤ 4)) from (by (rw [v1585.out]) <;> omega))
    · have v1590 : HQ ((5 : Int32)).toInt 5 := HQ.mk (by decide)
      have f1591 := nle32k v1590.out rfl c1587
      have v1592 : HQ ((1 : Int32)).toInt 1 := HQ.mk (by decide)
      exact OK_some (show (((1 : Int32)).toInt ≠ 0 → (0 ≤ (z0).toInt ∧ (z0).toInt ≤ 4)) from (by (rw [v1592.out]) <;> omega))
set_option maxHeartbeats 2000000 in
theorem sX6_isTown (n : Nat) (hn : n = 2200000000) (z0 : Int32) : OK (FX6_isTown n z0) (fun u => ((u.1).toInt ≠ 0 → (0 ≤ (z0).toInt ∧ (z0).toInt ≤ 4))) := by
  unfold FX6_isTown
  refine OK_if (fun c1593 => ?_) (fun c1593 => ?_)
  · have v1594 : HQ ((0 : Int32)).toInt 0 := HQ.mk (by decide)
    have f1595 := lt32k rfl v1594.out c1593
    exact OK_some (show (((0 : Int32)).toInt ≠ 0 → (0 ≤ (z0).toInt ∧ (z0).toInt ≤ 4)) from (by (rw [v1594.out]) <;> omega))
  · have v1596 : HQ ((0 : Int32)).toInt 0 := HQ.mk (by decide)
    have f1597 := nlt32k rfl v1596.out c1593
    refine OK_if (fun c1598 => ?_) (fun c1598 => ?_)
    · have v1599 : HQ ((5 : Int32)).toInt 5 := HQ.mk (by decide)
      have f1600 := le32k v1599.out rfl c1598
      exact OK_some (show (((0 : Int32)).toInt ≠ 0 → (0 ≤ (z0).toInt ∧ (z0).toInt ≤ 4)) from (by (rw [v1596.out]) <;> omega))
    · have v1601 : HQ ((5 : Int32)).toInt 5 := HQ.mk (by decide)
      have f1602 := nle32k v1601.out rfl c1598
      have v1603 : HQ ((1 : Int32)).toInt 1 := HQ.mk (by decide)
      exact OK_some (show (((1 : Int32)).toInt ≠ 0 → (0 ≤ (z0).toInt ∧ (z0).toInt ≤ 4)) from (by (rw [v1603.out]) <;> omega))
set_option maxHeartbeats 2000000 in
theorem sX6_isBale (n : Nat) (hn : n = 2200000000) (z0 : Int32) : OK (FX6_isBale n z0) (fun u => ((u.1).toInt ≠ 0 → (0 ≤ (z0).toInt ∧ (z0).toInt ≤ 3))) := by
  unfold FX6_isBale
  refine OK_if (fun c1604 => ?_) (fun c1604 => ?_)
  · have v1605 : HQ ((0 : Int32)).toInt 0 := HQ.mk (by decide)
    have f1606 := lt32k rfl v1605.out c1604
    exact OK_some (show (((0 : Int32)).toInt ≠ 0 → (0 ≤ (z0).toInt ∧ (z0).toInt ≤ 3)) from (by (rw [v1605.out]) <;> omega))
  · have v1607 : HQ ((0 : Int32)).toInt 0 := HQ.mk (by decide)
    have f1608 := nlt32k rfl v1607.out c1604
    refine OK_if (fun c1609 => ?_) (fun c1609 => ?_)
    · have v1610 : HQ ((4 : Int32)).toInt 4 := HQ.mk (by decide)
      have f1611 := le32k v1610.out rfl c1609
      exact OK_some (show (((0 : Int32)).toInt ≠ 0 → (0 ≤ (z0).toInt ∧ (z0).toInt ≤ 3)) from (by (rw [v1607.out]) <;> omega))
    · have v1612 : HQ ((4 : Int32)).toInt 4 := HQ.mk (by decide)
      have f1613 := nle32k v1612.out rfl c1609
      have v1614 : HQ ((1 : Int32)).toInt 1 := HQ.mk (by decide)
      exact OK_some (show (((1 : Int32)).toInt ≠ 0 → (0 ≤ (z0).toInt ∧ (z0).toInt ≤ 3)) from (by (rw [v1614.out]) <;> omega))
set_option maxHeartbeats 2000000 in
theorem sX6_isSampled (n : Nat) (hn : n = 2200000000) (z0 : Int32) : OK (FX6_isSampled n z0) (fun u => True) := by
  unfold FX6_isSampled
  refine OK_if (fun c1615 => ?_) (fun c1615 => ?_)
  · have v1616 : HQ ((0 : Int32)).toInt 0 := HQ.mk (by decide)
    have f1617 := lt32k rfl v1616.out c1615
    exact OK_some trivial
  · have v1618 : HQ ((0 : Int32)).toInt 0 := HQ.mk (by decide)
    have f1619 := nlt32k rfl v1618.out c1615
    refine OK_if (fun c1620 => ?_) (fun c1620 => ?_)
    · have v1621 : HQ ((1000 : Int32)).toInt 1000 := HQ.mk (by decide)
      have f1622 := lt32k v1621.out rfl c1620
      exact OK_some trivial
    · have v1623 : HQ ((1000 : Int32)).toInt 1000 := HQ.mk (by decide)
      have f1624 := nlt32k v1623.out rfl c1620
      exact OK_some trivial
set_option maxHeartbeats 2000000 in
theorem sX6_unit (n : Nat) (hn : n = 2200000000) (v_told_units : Int32) (a_chosen : Nat → Int32) (a_told_noLeads : Nat → Int32) (a_told_yesLeads : Nat → Int32) (a_told_settings : Nat → Int32) (z1 : Int32) (z2 : Int32) (i0 : 0 ≤ (v_told_units).toInt) (i1 : (v_told_units).toInt ≤ 5) : OK (FX6_unit n v_told_units a_chosen a_told_noLeads a_told_yesLeads a_told_settings z1 z2) (fun u => True) := by
  unfold FX6_unit
  refine OK_bd (sX6_isUnit n hn v_told_units z1) (fun u_2 p_u_2 => ?_)
  have p1625 := p_u_2
  clear p_u_2
  refine OK_if (fun c1626 => ?_) (fun c1626 => ?_)
  · have v1627 : HQ ((0 : Int32)).toInt 0 := HQ.mk (by decide)
    have f1628 := eq32k rfl v1627.out c1626
    exact OK_some trivial
  · have v1629 : HQ ((0 : Int32)).toInt 0 := HQ.mk (by decide)
    have f1630 := neq32k rfl v1629.out c1626
    refine OK_if (fun c1631 => ?_) (fun c1631 => ?_)
    · have f1632 := eq32k rfl v1629.out c1631
      refine OK_ck (ckV rfl (by omega) (by omega)) ?_
      exact OK_some trivial
    · have f1633 := neq32k rfl v1629.out c1631
      refine OK_if (fun c1634 => ?_) (fun c1634 => ?_)
      · have v1635 : HQ ((1 : Int32)).toInt 1 := HQ.mk (by decide)
        have f1636 := eq32k rfl v1635.out c1634
        refine OK_ck (ckV rfl (by omega) (by omega)) ?_
        exact OK_some trivial
      · have v1637 : HQ ((1 : Int32)).toInt 1 := HQ.mk (by decide)
        have f1638 := neq32k rfl v1637.out c1634
        refine OK_if (fun c1639 => ?_) (fun c1639 => ?_)
        · have v1640 : HQ ((2 : Int32)).toInt 2 := HQ.mk (by decide)
          have f1641 := eq32k rfl v1640.out c1639
          refine OK_ck (ckV rfl (by omega) (by omega)) ?_
          exact OK_some trivial
        · have v1642 : HQ ((2 : Int32)).toInt 2 := HQ.mk (by decide)
          have f1643 := neq32k rfl v1642.out c1639
          refine OK_if (fun c1644 => ?_) (fun c1644 => ?_)
          · have v1645 : HQ ((3 : Int32)).toInt 3 := HQ.mk (by decide)
            have f1646 := eq32k rfl v1645.out c1644
            refine OK_ck (ckV rfl (by omega) (by omega)) ?_
            exact OK_some trivial
          · have v1647 : HQ ((3 : Int32)).toInt 3 := HQ.mk (by decide)
            have f1648 := neq32k rfl v1647.out c1644
            exact OK_some trivial
set_option maxHeartbeats 2000000 in
theorem sX6_setting (n : Nat) (hn : n = 2200000000) (v_told_units : Int32) (a_told_settings : Nat → Int32) (a_told_percents : Nat → Int32) (z1 : Int32) (z2 : Int32) (z3 : Int32) (i0 : 0 ≤ (v_told_units).toInt) (i1 : (v_told_units).toInt ≤ 5) (i2 : ∀ i : Nat, ((i : Int) < (v_told_units).toInt) → (1 ≤ (a_told_settings i).toInt ∧ (a_told_settings i).toInt ≤ 3)) : OK (FX6_setting n v_told_units a_told_settings a_told_percents z1 z2 z3) (fun u => True) := by
  unfold FX6_setting
  refine OK_bd (sX6_isSetting n hn v_told_units a_told_settings z1 z2 i0 i1 i2) (fun u_2 p_u_2 => ?_)
  have p1649 := p_u_2
  clear p_u_2
  refine OK_if (fun c1650 => ?_) (fun c1650 => ?_)
  · have v1651 : HQ ((0 : Int32)).toInt 0 := HQ.mk (by decide)
    have f1652 := eq32k rfl v1651.out c1650
    exact OK_some trivial
  · have v1653 : HQ ((0 : Int32)).toInt 0 := HQ.mk (by decide)
    have f1654 := neq32k rfl v1653.out c1650
    refine OK_bd (sX6_isKind n hn z3) (fun u_5 p_u_5 => ?_)
    obtain ⟨p1655, p1656⟩ := p_u_5
    refine OK_if (fun c1657 => ?_) (fun c1657 => ?_)
    · have f1658 := eq32k rfl v1653.out c1657
      exact OK_some trivial
    · have f1659 := neq32k rfl v1653.out c1657
      refine OK_bd (sX2_byYes n hn a_told_percents z1 z2 z3 (by omega) (by omega) (by omega) (by omega) (by omega) (by omega)) (fun u_8 p_u_8 => ?_)
      exact OK_some trivial
set_option maxHeartbeats 2000000 in
theorem sX6_choose (n : Nat) (hn : n = 2200000000) (v_told_units : Int32) (a_told_settings : Nat → Int32) (a_chosen : Nat → Int32) (z1 : Int32) (z2 : Int32) (i0 : 0 ≤ (v_told_units).toInt) (i1 : (v_told_units).toInt ≤ 5) (i2 : ∀ i : Nat, ((i : Int) < (v_told_units).toInt) → (1 ≤ (a_told_settings i).toInt ∧ (a_told_settings i).toInt ≤ 3)) (i3 : ∀ i : Nat, (i < 5) → (0 ≤ (a_chosen i).toInt ∧ (a_chosen i).toInt ≤ 2)) : OK (FX6_choose n v_told_units a_told_settings a_chosen z1 z2) (fun u => (∀ i : Nat, (i < 5) → (0 ≤ (u.2 i).toInt ∧ (u.2 i).toInt ≤ 2))) := by
  unfold FX6_choose
  refine OK_bd (sX6_isSetting n hn v_told_units a_told_settings z1 z2 i0 i1 i2) (fun u_2 p_u_2 => ?_)
  have p1660 := p_u_2
  clear p_u_2
  refine OK_if (fun c1661 => ?_) (fun c1661 => ?_)
  · have v1662 : HQ ((0 : Int32)).toInt 0 := HQ.mk (by decide)
    have f1663 := eq32k rfl v1662.out c1661
    exact OK_some (show (∀ i : Nat, (i < 5) → (0 ≤ (a_chosen i).toInt ∧ (a_chosen i).toInt ≤ 2)) from i3)
  · have v1664 : HQ ((0 : Int32)).toInt 0 := HQ.mk (by decide)
    have f1665 := neq32k rfl v1664.out c1661
    refine OK_ck (ckV rfl (by omega) (by omega)) ?_
    obtain ⟨m1666, v1667, f1668⟩ := tnV (e := z1) rfl (by omega)
    refine OK_lt (fun f_5 e_f_5 => ?_)
    rw [v1667.out] at e_f_5
    exact OK_some (show (∀ i : Nat, (i < 5) → (0 ≤ (f_5 i).toInt ∧ (f_5 i).toInt ≤ 2)) from (by
        intro i hi
        have f1669 := updW e_f_5 rfl i
        have f1670 := i3 i
        omega))
set_option maxHeartbeats 2000000 in
theorem sX6_whole (n : Nat) (hn : n = 2200000000) (v_ends_wholeOfAll : Int64) (v_told_units : Int32) (a_chosen : Nat → Int32) (a_ends_parts : Nat → Int64) (a_ends_rows : Nat → Int32) (a_ends_outs : Nat → Int32) (a_told_percents : Nat → Int32) (a_told_yesLeads : Nat → Int32) (a_told_noLeads : Nat → Int32) (a_ends_minors : Nat → Int64) (z1 : Int32) (i0 : 0 ≤ (v_told_units).toInt) (i1 : (v_told_units).toInt ≤ 5) (i2 : ∀ i : Nat, ((i : Int) < (v_told_units).toInt) → ((0 ≤ (a_told_yesLeads i).toInt ∧ (a_told_yesLeads i).toInt ≤ 4) ∨ (10 ≤ (a_told_yesLeads i).toInt ∧ (a_told_yesLeads i).toInt ≤ 13) ∨ (a_told_yesLeads i).toInt = 20)) (i3 : ∀ i : Nat, ((i : Int) < (v_told_units).toInt) → ((0 ≤ (a_told_noLeads i).toInt ∧ (a_told_noLeads i).toInt ≤ 4) ∨ (10 ≤ (a_told_noLeads i).toInt ∧ (a_told_noLeads i).toInt ≤ 13) ∨ (a_told_noLeads i).toInt = 20)) (i4 : ∀ i : Nat, (i < 5) → (0 ≤ (a_chosen i).toInt ∧ (a_chosen i).toInt ≤ 2)) : OK (FX6_whole n v_ends_wholeOfAll v_told_units a_chosen a_ends_parts a_ends_rows a_ends_outs a_told_percents a_told_yesLeads a_told_noLeads a_ends_minors z1) (fun u => True) := by
  unfold FX6_whole
  refine OK_bd (sX6_isKind n hn z1) (fun u_2 p_u_2 => ?_)
  obtain ⟨p1671, p1672⟩ := p_u_2
  refine OK_if (fun c1673 => ?_) (fun c1673 => ?_)
  · have v1674 : HQ ((0 : Int32)).toInt 0 := HQ.mk (by decide)
    have f1675 := eq32k rfl v1674.out c1673
    exact OK_some trivial
  · have v1676 : HQ ((0 : Int32)).toInt 0 := HQ.mk (by decide)
    have f1677 := neq32k rfl v1676.out c1673
    refine OK_bd (sX0_solve n hn v_ends_wholeOfAll v_told_units a_chosen a_ends_parts a_ends_rows a_ends_outs a_told_percents a_told_yesLeads a_told_noLeads a_ends_minors z1 i0 i1 i2 i3 i4 (by omega) (by omega)) (fun u_5 p_u_5 => ?_)
    exact OK_some trivial
set_option maxHeartbeats 2000000 in
theorem sX6_part (n : Nat) (hn : n = 2200000000) (v_ends_wholeOfAll : Int64) (v_told_units : Int32) (a_chosen : Nat → Int32) (a_ends_parts : Nat → Int64) (a_ends_rows : Nat → Int32) (a_ends_outs : Nat → Int32) (a_told_percents : Nat → Int32) (a_told_yesLeads : Nat → Int32) (a_told_noLeads : Nat → Int32) (a_ends_minors : Nat → Int64) (z1 : Int32) (z2 : Int32) (i0 : 0 ≤ (v_told_units).toInt) (i1 : (v_told_units).toInt ≤ 5) (i2 : ∀ i : Nat, ((i : Int) < (v_told_units).toInt) → ((0 ≤ (a_told_yesLeads i).toInt ∧ (a_told_yesLeads i).toInt ≤ 4) ∨ (10 ≤ (a_told_yesLeads i).toInt ∧ (a_told_yesLeads i).toInt ≤ 13) ∨ (a_told_yesLeads i).toInt = 20)) (i3 : ∀ i : Nat, ((i : Int) < (v_told_units).toInt) → ((0 ≤ (a_told_noLeads i).toInt ∧ (a_told_noLeads i).toInt ≤ 4) ∨ (10 ≤ (a_told_noLeads i).toInt ∧ (a_told_noLeads i).toInt ≤ 13) ∨ (a_told_noLeads i).toInt = 20)) (i4 : ∀ i : Nat, (i < 5) → (0 ≤ (a_chosen i).toInt ∧ (a_chosen i).toInt ≤ 2)) : OK (FX6_part n v_ends_wholeOfAll v_told_units a_chosen a_ends_parts a_ends_rows a_ends_outs a_told_percents a_told_yesLeads a_told_noLeads a_ends_minors z1 z2) (fun u => True) := by
  unfold FX6_part
  refine OK_bd (sX6_isKind n hn z1) (fun u_2 p_u_2 => ?_)
  obtain ⟨p1678, p1679⟩ := p_u_2
  refine OK_if (fun c1680 => ?_) (fun c1680 => ?_)
  · have v1681 : HQ ((0 : Int32)).toInt 0 := HQ.mk (by decide)
    have f1682 := eq32k rfl v1681.out c1680
    exact OK_some trivial
  · have v1683 : HQ ((0 : Int32)).toInt 0 := HQ.mk (by decide)
    have f1684 := neq32k rfl v1683.out c1680
    refine OK_bd (sX6_isOut n hn z2) (fun u_5 p_u_5 => ?_)
    have p1685 := p_u_5
    clear p_u_5
    refine OK_if (fun c1686 => ?_) (fun c1686 => ?_)
    · have f1687 := eq32k rfl v1683.out c1686
      exact OK_some trivial
    · have f1688 := neq32k rfl v1683.out c1686
      refine OK_bd (sX0_solve n hn v_ends_wholeOfAll v_told_units a_chosen a_ends_parts a_ends_rows a_ends_outs a_told_percents a_told_yesLeads a_told_noLeads a_ends_minors z1 i0 i1 i2 i3 i4 (by omega) (by omega)) (fun u_8 p_u_8 => ?_)
      refine OK_ck (ckV rfl (by omega) (by omega)) ?_
      exact OK_some trivial
