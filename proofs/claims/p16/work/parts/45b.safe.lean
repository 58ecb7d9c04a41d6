set_option maxHeartbeats 2000000 in
theorem sX6_isKind (n : Nat) (hn : n = 3000) (z0 : Int32) : OK (FX6_isKind n z0) (fun u => ((u.1).toInt ≠ 0 → (0 ≤ (z0).toInt ∧ (z0).toInt ≤ 4)) ∧ ((u.1).toInt = 0 → ¬ (0 ≤ (z0).toInt ∧ (z0).toInt ≤ 4))) := by
  unfold FX6_isKind
  refine OK_if (fun c1511 => ?_) (fun c1511 => ?_)
  · have v1512 : HQ ((0 : Int32)).toInt 0 := HQ.mk (by decide)
    have f1513 := lt32k rfl v1512.out c1511
    exact OK_some (show (((0 : Int32)).toInt ≠ 0 → (0 ≤ (z0).toInt ∧ (z0).toInt ≤ 4)) ∧ (((0 : Int32)).toInt = 0 → ¬ (0 ≤ (z0).toInt ∧ (z0).toInt ≤ 4)) from ⟨(by rw [v1512.out]; omega), (by rw [v1512.out]; omega)⟩)
  · have v1514 : HQ ((0 : Int32)).toInt 0 := HQ.mk (by decide)
    have f1515 := nlt32k rfl v1514.out c1511
    refine OK_if (fun c1516 => ?_) (fun c1516 => ?_)
    · have v1517 : HQ ((5 : Int32)).toInt 5 := HQ.mk (by decide)
      have f1518 := le32k v1517.out rfl c1516
      exact OK_some (show (((0 : Int32)).toInt ≠ 0 → (0 ≤ (z0).toInt ∧ (z0).toInt ≤ 4)) ∧ (((0 : Int32)).toInt = 0 → ¬ (0 ≤ (z0).toInt ∧ (z0).toInt ≤ 4)) from ⟨(by rw [v1514.out]; omega), (by rw [v1514.out]; omega)⟩)
    · have v1519 : HQ ((5 : Int32)).toInt 5 := HQ.mk (by decide)
      have f1520 := nle32k v1519.out rfl c1516
      have v1521 : HQ ((1 : Int32)).toInt 1 := HQ.mk (by decide)
      exact OK_some (show (((1 : Int32)).toInt ≠ 0 → (0 ≤ (z0).toInt ∧ (z0).toInt ≤ 4)) ∧ (((1 : Int32)).toInt = 0 → ¬ (0 ≤ (z0).toInt ∧ (z0).toInt ≤ 4)) from ⟨(by rw [v1521.out]; omega), (by rw [v1521.out]; omega)⟩)
set_option maxHeartbeats 2000000 in
theorem sX6_isOut (n : Nat) (hn : n = 3000) (z0 : Int32) : OK (FX6_isOut n z0) (fun u => ((u.1).toInt ≠ 0 → (0 ≤ (z0).toInt ∧ (z0).toInt ≤ 4))) := by
  unfold FX6_isOut
  refine OK_if (fun c1522 => ?_) (fun c1522 => ?_)
  · have v1523 : HQ ((0 : Int32)).toInt 0 := HQ.mk (by decide)
    have f1524 := lt32k rfl v1523.out c1522
    exact OK_some (show (((0 : Int32)).toInt ≠ 0 → (0 ≤ (z0).toInt ∧ (z0).toInt ≤ 4)) from (by rw [v1523.out]; omega))
  · have v1525 : HQ ((0 : Int32)).toInt 0 := HQ.mk (by decide)
    have f1526 := nlt32k rfl v1525.out c1522
    refine OK_if (fun c1527 => ?_) (fun c1527 => ?_)
    · have v1528 : HQ ((5 : Int32)).toInt 5 := HQ.mk (by decide)
      have f1529 := le32k v1528.out rfl c1527
      exact OK_some (show (((0 : Int32)).toInt ≠ 0 → (0 ≤ (z0).toInt ∧ (z0).toInt ≤ 4)) from (by rw [v1525.out]; omega))
    · have v1530 : HQ ((5 : Int32)).toInt 5 := HQ.mk (by decide)
      have f1531 := nle32k v1530.out rfl c1527
      have v1532 : HQ ((1 : Int32)).toInt 1 := HQ.mk (by decide)
      exact OK_some (show (((1 : Int32)).toInt ≠ 0 → (0 ≤ (z0).toInt ∧ (z0).toInt ≤ 4)) from (by rw [v1532.out]; omega))
set_option maxHeartbeats 2000000 in
theorem sX6_isTown (n : Nat) (hn : n = 3000) (z0 : Int32) : OK (FX6_isTown n z0) (fun u => ((u.1).toInt ≠ 0 → (0 ≤ (z0).toInt ∧ (z0).toInt ≤ 4))) := by
  unfold FX6_isTown
  refine OK_if (fun c1533 => ?_) (fun c1533 => ?_)
  · have v1534 : HQ ((0 : Int32)).toInt 0 := HQ.mk (by decide)
    have f1535 := lt32k rfl v1534.out c1533
    exact OK_some (show (((0 : Int32)).toInt ≠ 0 → (0 ≤ (z0).toInt ∧ (z0).toInt ≤ 4)) from (by rw [v1534.out]; omega))
  · have v1536 : HQ ((0 : Int32)).toInt 0 := HQ.mk (by decide)
    have f1537 := nlt32k rfl v1536.out c1533
    refine OK_if (fun c1538 => ?_) (fun c1538 => ?_)
    · have v1539 : HQ ((5 : Int32)).toInt 5 := HQ.mk (by decide)
      have f1540 := le32k v1539.out rfl c1538
      exact OK_some (show (((0 : Int32)).toInt ≠ 0 → (0 ≤ (z0).toInt ∧ (z0).toInt ≤ 4)) from (by rw [v1536.out]; omega))
    · have v1541 : HQ ((5 : Int32)).toInt 5 := HQ.mk (by decide)
      have f1542 := nle32k v1541.out rfl c1538
      have v1543 : HQ ((1 : Int32)).toInt 1 := HQ.mk (by decide)
      exact OK_some (show (((1 : Int32)).toInt ≠ 0 → (0 ≤ (z0).toInt ∧ (z0).toInt ≤ 4)) from (by rw [v1543.out]; omega))
set_option maxHeartbeats 2000000 in
theorem sX6_isBale (n : Nat) (hn : n = 3000) (z0 : Int32) : OK (FX6_isBale n z0) (fun u => ((u.1).toInt ≠ 0 → (0 ≤ (z0).toInt ∧ (z0).toInt ≤ 3))) := by
  unfold FX6_isBale
  refine OK_if (fun c1544 => ?_) (fun c1544 => ?_)
  · have v1545 : HQ ((0 : Int32)).toInt 0 := HQ.mk (by decide)
    have f1546 := lt32k rfl v1545.out c1544
    exact OK_some (show (((0 : Int32)).toInt ≠ 0 → (0 ≤ (z0).toInt ∧ (z0).toInt ≤ 3)) from (by rw [v1545.out]; omega))
  · have v1547 : HQ ((0 : Int32)).toInt 0 := HQ.mk (by decide)
    have f1548 := nlt32k rfl v1547.out c1544
    refine OK_if (fun c1549 => ?_) (fun c1549 => ?_)
    · have v1550 : HQ ((4 : Int32)).toInt 4 := HQ.mk (by decide)
      have f1551 := le32k v1550.out rfl c1549
      exact OK_some (show (((0 : Int32)).toInt ≠ 0 → (0 ≤ (z0).toInt ∧ (z0).toInt ≤ 3)) from (by rw [v1547.out]; omega))
    · have v1552 : HQ ((4 : Int32)).toInt 4 := HQ.mk (by decide)
      have f1553 := nle32k v1552.out rfl c1549
      have v1554 : HQ ((1 : Int32)).toInt 1 := HQ.mk (by decide)
      exact OK_some (show (((1 : Int32)).toInt ≠ 0 → (0 ≤ (z0).toInt ∧ (z0).toInt ≤ 3)) from (by rw [v1554.out]; omega))
set_option maxHeartbeats 2000000 in
theorem sX6_isSampled (n : Nat) (hn : n = 3000) (z0 : Int32) : OK (FX6_isSampled n z0) (fun u => True) := by
  unfold FX6_isSampled
  refine OK_if (fun c1555 => ?_) (fun c1555 => ?_)
  · have v1556 : HQ ((0 : Int32)).toInt 0 := HQ.mk (by decide)
    have f1557 := lt32k rfl v1556.out c1555
    exact OK_some trivial
  · have v1558 : HQ ((0 : Int32)).toInt 0 := HQ.mk (by decide)
    have f1559 := nlt32k rfl v1558.out c1555
    refine OK_if (fun c1560 => ?_) (fun c1560 => ?_)
    · have v1561 : HQ ((1000 : Int32)).toInt 1000 := HQ.mk (by decide)
      have f1562 := lt32k v1561.out rfl c1560
      exact OK_some trivial
    · have v1563 : HQ ((1000 : Int32)).toInt 1000 := HQ.mk (by decide)
      have f1564 := nlt32k v1563.out rfl c1560
      exact OK_some trivial
set_option maxHeartbeats 2000000 in
theorem sX6_unit (n : Nat) (hn : n = 3000) (v_told_units : Int32) (a_chosen : Nat → Int32) (a_told_noLeads : Nat → Int32) (a_told_yesLeads : Nat → Int32) (a_told_settings : Nat → Int32) (z1 : Int32) (z2 : Int32) (i0 : 0 ≤ (v_told_units).toInt) (i1 : (v_told_units).toInt ≤ 5) : OK (FX6_unit n v_told_units a_chosen a_told_noLeads a_told_yesLeads a_told_settings z1 z2) (fun u => True) := by
  unfold FX6_unit
  refine OK_bd (sX6_isUnit n hn v_told_units z1) (fun u_2 p_u_2 => ?_)
  have p1565 := p_u_2
  refine OK_if (fun c1566 => ?_) (fun c1566 => ?_)
  · have v1567 : HQ ((0 : Int32)).toInt 0 := HQ.mk (by decide)
    have f1568 := eq32k rfl v1567.out c1566
    exact OK_some trivial
  · have v1569 : HQ ((0 : Int32)).toInt 0 := HQ.mk (by decide)
    have f1570 := neq32k rfl v1569.out c1566
    refine OK_if (fun c1571 => ?_) (fun c1571 => ?_)
    · have f1572 := eq32k rfl v1569.out c1571
      refine OK_ck (ckV rfl (by omega) (by omega)) ?_
      exact OK_some trivial
    · have f1573 := neq32k rfl v1569.out c1571
      refine OK_if (fun c1574 => ?_) (fun c1574 => ?_)
      · have v1575 : HQ ((1 : Int32)).toInt 1 := HQ.mk (by decide)
        have f1576 := eq32k rfl v1575.out c1574
        refine OK_ck (ckV rfl (by omega) (by omega)) ?_
        exact OK_some trivial
      · have v1577 : HQ ((1 : Int32)).toInt 1 := HQ.mk (by decide)
        have f1578 := neq32k rfl v1577.out c1574
        refine OK_if (fun c1579 => ?_) (fun c1579 => ?_)
        · have v1580 : HQ ((2 : Int32)).toInt 2 := HQ.mk (by decide)
          have f1581 := eq32k rfl v1580.out c1579
          refine OK_ck (ckV rfl (by omega) (by omega)) ?_
          exact OK_some trivial
        · have v1582 : HQ ((2 : Int32)).toInt 2 := HQ.mk (by decide)
          have f1583 := neq32k rfl v1582.out c1579
          refine OK_if (fun c1584 => ?_) (fun c1584 => ?_)
          · have v1585 : HQ ((3 : Int32)).toInt 3 := HQ.mk (by decide)
            have f1586 := eq32k rfl v1585.out c1584
            refine OK_ck (ckV rfl (by omega) (by omega)) ?_
            exact OK_some trivial
          · have v1587 : HQ ((3 : Int32)).toInt 3 := HQ.mk (by decide)
            have f1588 := neq32k rfl v1587.out c1584
            exact OK_some trivial
set_option maxHeartbeats 2000000 in
theorem sX6_setting (n : Nat) (hn : n = 3000) (v_told_units : Int32) (a_told_settings : Nat → Int32) (a_told_percents : Nat → Int32) (z1 : Int32) (z2 : Int32) (z3 : Int32) (i0 : 0 ≤ (v_told_units).toInt) (i1 : (v_told_units).toInt ≤ 5) (i2 : ∀ i : Nat, ((i : Int) < (v_told_units).toInt) → (1 ≤ (a_told_settings i).toInt ∧ (a_told_settings i).toInt ≤ 3)) : OK (FX6_setting n v_told_units a_told_settings a_told_percents z1 z2 z3) (fun u => True) := by
  unfold FX6_setting
  refine OK_bd (sX6_isSetting n hn v_told_units a_told_settings z1 z2 i0 i1 i2) (fun u_2 p_u_2 => ?_)
  have p1589 := p_u_2
  refine OK_if (fun c1590 => ?_) (fun c1590 => ?_)
  · have v1591 : HQ ((0 : Int32)).toInt 0 := HQ.mk (by decide)
    have f1592 := eq32k rfl v1591.out c1590
    exact OK_some trivial
  · have v1593 : HQ ((0 : Int32)).toInt 0 := HQ.mk (by decide)
    have f1594 := neq32k rfl v1593.out c1590
    refine OK_bd (sX6_isKind n hn z3) (fun u_5 p_u_5 => ?_)
    obtain ⟨p1595, p1596⟩ := p_u_5
    refine OK_if (fun c1597 => ?_) (fun c1597 => ?_)
    · have f1598 := eq32k rfl v1593.out c1597
      exact OK_some trivial
    · have f1599 := neq32k rfl v1593.out c1597
      refine OK_bd (sX2_byYes n hn a_told_percents z1 z2 z3 (by omega) (by omega) (by omega) (by omega) (by omega) (by omega)) (fun u_8 p_u_8 => ?_)
      exact OK_some trivial
set_option maxHeartbeats 2000000 in
theorem sX6_choose (n : Nat) (hn : n = 3000) (v_told_units : Int32) (a_told_settings : Nat → Int32) (a_chosen : Nat → Int32) (z1 : Int32) (z2 : Int32) (i0 : 0 ≤ (v_told_units).toInt) (i1 : (v_told_units).toInt ≤ 5) (i2 : ∀ i : Nat, ((i : Int) < (v_told_units).toInt) → (1 ≤ (a_told_settings i).toInt ∧ (a_told_settings i).toInt ≤ 3)) (i3 : ∀ i : Nat, (i < 5) → (0 ≤ (a_chosen i).toInt ∧ (a_chosen i).toInt ≤ 2)) : OK (FX6_choose n v_told_units a_told_settings a_chosen z1 z2) (fun u => (∀ i : Nat, (i < 5) → (0 ≤ (u.2 i).toInt ∧ (u.2 i).toInt ≤ 2))) := by
  unfold FX6_choose
  refine OK_bd (sX6_isSetting n hn v_told_units a_told_settings z1 z2 i0 i1 i2) (fun u_2 p_u_2 => ?_)
  have p1600 := p_u_2
  refine OK_if (fun c1601 => ?_) (fun c1601 => ?_)
  · have v1602 : HQ ((0 : Int32)).toInt 0 := HQ.mk (by decide)
    have f1603 := eq32k rfl v1602.out c1601
    exact OK_some (show (∀ i : Nat, (i < 5) → (0 ≤ (a_chosen i).toInt ∧ (a_chosen i).toInt ≤ 2)) from i3)
  · have v1604 : HQ ((0 : Int32)).toInt 0 := HQ.mk (by decide)
    have f1605 := neq32k rfl v1604.out c1601
    refine OK_ck (ckV rfl (by omega) (by omega)) ?_
    obtain ⟨m1606, v1607, f1608⟩ := tnV rfl (by omega)
    refine OK_lt (fun f_5 e_f_5 => ?_)
    rw [v1607.out] at e_f_5
    exact OK_some (show (∀ i : Nat, (i < 5) → (0 ≤ (f_5 i).toInt ∧ (f_5 i).toInt ≤ 2)) from (by
        intro i hi
        have f1609 := updV e_f_5 rfl i
        have f1610 := i3 i
        omega))
set_option maxHeartbeats 2000000 in
theorem sX6_whole (n : Nat) (hn : n = 3000) (v_ends_wholeOfAll : Int64) (v_told_units : Int32) (a_chosen : Nat → Int32) (a_ends_parts : Nat → Int64) (a_ends_rows : Nat → Int32) (a_ends_outs : Nat → Int32) (a_told_percents : Nat → Int32) (a_told_yesLeads : Nat → Int32) (a_told_noLeads : Nat → Int32) (a_ends_minors : Nat → Int64) (z1 : Int32) (i0 : 0 ≤ (v_told_units).toInt) (i1 : (v_told_units).toInt ≤ 5) (i2 : ∀ i : Nat, ((i : Int) < (v_told_units).toInt) → ((0 ≤ (a_told_yesLeads i).toInt ∧ (a_told_yesLeads i).toInt ≤ 4) ∨ (10 ≤ (a_told_yesLeads i).toInt ∧ (a_told_yesLeads i).toInt ≤ 13) ∨ (a_told_yesLeads i).toInt = 20)) (i3 : ∀ i : Nat, ((i : Int) < (v_told_units).toInt) → ((0 ≤ (a_told_noLeads i).toInt ∧ (a_told_noLeads i).toInt ≤ 4) ∨ (10 ≤ (a_told_noLeads i).toInt ∧ (a_told_noLeads i).toInt ≤ 13) ∨ (a_told_noLeads i).toInt = 20)) (i4 : ∀ i : Nat, (i < 5) → (0 ≤ (a_chosen i).toInt ∧ (a_chosen i).toInt ≤ 2)) : OK (FX6_whole n v_ends_wholeOfAll v_told_units a_chosen a_ends_parts a_ends_rows a_ends_outs a_told_percents a_told_yesLeads a_told_noLeads a_ends_minors z1) (fun u => True) := by
  unfold FX6_whole
  refine OK_bd (sX6_isKind n hn z1) (fun u_2 p_u_2 => ?_)
  obtain ⟨p1611, p1612⟩ := p_u_2
  refine OK_if (fun c1613 => ?_) (fun c1613 => ?_)
  · have v1614 : HQ ((0 : Int32)).toInt 0 := HQ.mk (by decide)
    have f1615 := eq32k rfl v1614.out c1613
    exact OK_some trivial
  · have v1616 : HQ ((0 : Int32)).toInt 0 := HQ.mk (by decide)
    have f1617 := neq32k rfl v1616.out c1613
    refine OK_bd (sX0_solve n hn v_ends_wholeOfAll v_told_units a_chosen a_ends_parts a_ends_rows a_ends_outs a_told_percents a_told_yesLeads a_told_noLeads a_ends_minors z1 i0 i1 i2 i3 i4 (by omega) (by omega)) (fun u_5 p_u_5 => ?_)
    exact OK_some trivial
set_option maxHeartbeats 2000000 in
theorem sX6_part (n : Nat) (hn : n = 3000) (v_ends_wholeOfAll : Int64) (v_told_units : Int32) (a_chosen : Nat → Int32) (a_ends_parts : Nat → Int64) (a_ends_rows : Nat → Int32) (a_ends_outs : Nat → Int32) (a_told_percents : Nat → Int32) (a_told_yesLeads : Nat → Int32) (a_told_noLeads : Nat → Int32) (a_ends_minors : Nat → Int64) (z1 : Int32) (z2 : Int32) (i0 : 0 ≤ (v_told_units).toInt) (i1 : (v_told_units).toInt ≤ 5) (i2 : ∀ i : Nat, ((i : Int) < (v_told_units).toInt) → ((0 ≤ (a_told_yesLeads i).toInt ∧ (a_told_yesLeads i).toInt ≤ 4) ∨ (10 ≤ (a_told_yesLeads i).toInt ∧ (a_told_yesLeads i).toInt ≤ 13) ∨ (a_told_yesLeads i).toInt = 20)) (i3 : ∀ i : Nat, ((i : Int) < (v_told_units).toInt) → ((0 ≤ (a_told_noLeads i).toInt ∧ (a_told_noLeads i).toInt ≤ 4) ∨ (10 ≤ (a_told_noLeads i).toInt ∧ (a_told_noLeads i).toInt ≤ 13) ∨ (a_told_noLeads i).toInt = 20)) (i4 : ∀ i : Nat, (i < 5) → (0 ≤ (a_chosen i).toInt ∧ (a_chosen i).toInt ≤ 2)) : OK (FX6_part n v_ends_wholeOfAll v_told_units a_chosen a_ends_parts a_ends_rows a_ends_outs a_told_percents a_told_yesLeads a_told_noLeads a_ends_minors z1 z2) (fun u => True) := by
  unfold FX6_part
  refine OK_bd (sX6_isKind n hn z1) (fun u_2 p_u_2 => ?_)
  obtain ⟨p1618, p1619⟩ := p_u_2
  refine OK_if (fun c1620 => ?_) (fun c1620 => ?_)
  · have v1621 : HQ ((0 : Int32)).toInt 0 := HQ.mk (by decide)
    have f1622 := eq32k rfl v1621.out c1620
    exact OK_some trivial
  · have v1623 : HQ ((0 : Int32)).toInt 0 := HQ.mk (by decide)
    have f1624 := neq32k rfl v1623.out c1620
    refine OK_bd (sX6_isOut n hn z2) (fun u_5 p_u_5 => ?_)
    have p1625 := p_u_5
    refine OK_if (fun c1626 => ?_) (fun c1626 => ?_)
    · have f1627 := eq32k rfl v1623.out c1626
      exact OK_some trivial
    · have f1628 := neq32k rfl v1623.out c1626
      refine OK_bd (sX0_solve n hn v_ends_wholeOfAll v_told_units a_chosen a_ends_parts a_ends_rows a_ends_outs a_told_percents a_told_yesLeads a_told_noLeads a_ends_minors z1 i0 i1 i2 i3 i4 (by omega) (by omega)) (fun u_8 p_u_8 => ?_)
      refine OK_ck (ckV rfl (by omega) (by omega)) ?_
      exact OK_some trivial
