set_option maxHeartbeats 2000000 in
theorem sX6_feed (n : Nat) (hn : n = 2200000000) (v_reader_tape_length : Int32) (a_reader_tape_bytes : Nat → Int32) (z1 : Int32) (z2 : Int32) (z3 : Int32) (z4 : Int32) (z5 : Int32) (i0 : 0 ≤ (v_reader_tape_length).toInt) (i1 : (v_reader_tape_length).toInt ≤ 1200) : OK (FX6_feed n v_reader_tape_length a_reader_tape_bytes z1 z2 z3 z4 z5) (fun u => (0 ≤ (u.2.1).toInt) ∧ ((u.2.1).toInt ≤ 1200)) := by
  unfold FX6_feed
  refine OK_if (fun c1487 => ?_) (fun c1487 => ?_)
  · have v1488 : HQ ((20 : Int32)).toInt 20 := HQ.mk (by decide)
    have v1489 : HQ ((v_reader_tape_length + (20 : Int32))).toInt ((v_reader_tape_length).toInt + 20) := HQ.mk (addV rfl v1488.out (by omega) (by omega))
    have v1490 : HQ ((1200 : Int32)).toInt 1200 := HQ.mk (by decide)
    have f1491 := le32k v1489.out v1490.out c1487
    refine OK_bd (sX4_put n hn v_reader_tape_length a_reader_tape_bytes z1 i0 i1) (fun u_3 p_u_3 => ?_)
    obtain ⟨p1492, p1493⟩ := p_u_3
    refine OK_bd (sX4_put n hn u_3.2.1 u_3.2.2 z2 p1492 p1493) (fun u_5 p_u_5 => ?_)
    obtain ⟨p1494, p1495⟩ := p_u_5
    refine OK_bd (sX4_put n hn u_5.2.1 u_5.2.2 z3 p1494 p1495) (fun u_7 p_u_7 => ?_)
    obtain ⟨p1496, p1497⟩ := p_u_7
    refine OK_bd (sX4_put n hn u_7.2.1 u_7.2.2 z4 p1496 p1497) (fun u_9 p_u_9 => ?_)
    obtain ⟨p1498, p1499⟩ := p_u_9
    refine OK_bd (sX4_put n hn u_9.2.1 u_9.2.2 z5 p1498 p1499) (fun u_11 p_u_11 => ?_)
    obtain ⟨p1500, p1501⟩ := p_u_11
    exact OK_some (show (0 ≤ (u_11.2.1).toInt) ∧ ((u_11.2.1).toInt ≤ 1200) from ⟨p1500, p1501⟩)
  · have v1502 : HQ ((20 : Int32)).toInt 20 := HQ.mk (by decide)
    have v1503 : HQ ((v_reader_tape_length + (20 : Int32))).toInt ((v_reader_tape_length).toInt + 20) := HQ.mk (addV rfl v1502.out (by omega) (by omega))
    have v1504 : HQ ((1200 : Int32)).toInt 1200 := HQ.mk (by decide)
    have f1505 := nle32k v1503.out v1504.out c1487
    exact OK_some (show (0 ≤ (v_reader_tape_length).toInt) ∧ ((v_reader_tape_length).toInt ≤ 1200) from ⟨i0, i1⟩)
set_option maxHeartbeats 2000000 in
theorem sX6_end (n : Nat) (hn : n = 2200000000) (v_reader_tape_length : Int32) (z1 : Int32) (i0 : 0 ≤ (v_reader_tape_length).toInt) (i1 : (v_reader_tape_length).toInt ≤ 1200) : OK (FX6_end n v_reader_tape_length z1) (fun u => (0 ≤ (u.2).toInt) ∧ ((u.2).toInt ≤ 1200)) := by
  unfold FX6_end
  refine OK_if (fun c1506 => ?_) (fun c1506 => ?_)
  · have v1507 : HQ ((0 : Int32)).toInt 0 := HQ.mk (by decide)
    have f1508 := lt32k rfl v1507.out c1506
    exact OK_some (show (0 ≤ (v_reader_tape_length).toInt) ∧ ((v_reader_tape_length).toInt ≤ 1200) from ⟨i0, i1⟩)
  · have v1509 : HQ ((0 : Int32)).toInt 0 := HQ.mk (by decide)
    have f1510 := nlt32k rfl v1509.out c1506
    refine OK_if (fun c1511 => ?_) (fun c1511 => ?_)
    · have f1512 := le32k rfl rfl c1511
      exact OK_some (show (0 ≤ (z1).toInt) ∧ ((z1).toInt ≤ 1200) from ⟨(by omega), (by omega)⟩)
    · have f1513 := nle32k rfl rfl c1511
      exact OK_some (show (0 ≤ (v_reader_tape_length).toInt) ∧ ((v_reader_tape_length).toInt ≤ 1200) from ⟨i0, i1⟩)
set_option maxHeartbeats 2000000 in
theorem sX6_plan (n : Nat) (hn : n = 2200000000) (v_faultNumber : Int32) (v_faultPlace : Int32) (v_reader_fault : Int32) (v_reader_faultPlace : Int32) (v_reader_nameCount : Int32) (v_reader_setCount : Int32) (v_reader_draft_units : Int32) (a_reader_draft_settings : Nat → Int32) (a_reader_draft_percents : Nat → Int32) (a_reader_draft_grades : Nat → Int32) (v_reader_tape_length : Int32) (v_reader_tape_next : Int32) (v_reader_tape_type : Int32) (v_reader_tape_place : Int32) (v_reader_tape_formerPlace : Int32) (v_reader_tape_word : Int64) (v_reader_tape_number : Int32) (a_reader_tape_bytes : Nat → Int32) (a_reader_names : Nat → Int64) (a_reader_namePlaces : Nat → Int32) (a_reader_nameUnits : Nat → Int32) (a_reader_nameSettings : Nat → Int32) (a_reader_draft_yesLeads : Nat → Int32) (a_reader_draft_noLeads : Nat → Int32) (a_reader_setValues : Nat → Int32) (a_reader_setNames : Nat → Int32) (a_reader_draft_gradeKinds : Nat → Int32) (a_reader_draft_gradePurities : Nat → Int32) (a_reader_draft_gradePrices : Nat → Int32) (v_told_units : Int32) (a_chosen : Nat → Int32) (i0 : 0 ≤ (v_reader_tape_length).toInt) (i1 : (v_reader_tape_length).toInt ≤ 1200) (i2 : ∀ i : Nat, (i < 4) → (0 ≤ (a_reader_draft_gradeKinds i).toInt ∧ (a_reader_draft_gradeKinds i).toInt ≤ 4)) (i3 : ∀ i : Nat, (i < 5) → (0 ≤ (a_chosen i).toInt ∧ (a_chosen i).toInt ≤ 2)) : OK (FX6_plan n v_faultNumber v_faultPlace v_reader_fault v_reader_faultPlace v_reader_nameCount v_reader_setCount v_reader_draft_units a_reader_draft_settings a_reader_draft_percents a_reader_draft_grades v_reader_tape_length v_reader_tape_next v_reader_tape_type v_reader_tape_place v_reader_tape_formerPlace v_reader_tape_word v_reader_tape_number a_reader_tape_bytes a_reader_names a_reader_namePlaces a_reader_nameUnits a_reader_nameSettings a_reader_draft_yesLeads a_reader_draft_noLeads a_reader_setValues a_reader_setNames a_reader_draft_gradeKinds a_reader_draft_gradePurities a_reader_draft_gradePrices v_told_units a_chosen) (fun u => (0 ≤ (u.2.2.2.2.2.2.2.2.2.2.2.2.2.1).toInt) ∧ ((u.2.2.2.2.2.2.2.2.2.2.2.2.2.1).toInt ≤ 1200) ∧ (0 ≤ (u.2.2.2.2.2.2.2.2.2.1).toInt) ∧ ((u.2.2.2.2.2.2.2.2.2.1).toInt ≤ 5) ∧ (∀ i : Nat, ((i : Int) < (u.2.2.2.2.2.2.2.2.2.1).toInt ∧ (u.2.2.2.2.1).toInt = 0) → ((0 ≤ (u.2.2.2.2.2.2.2.2.2.2.2.2.2.2.2.2.2.2.2.2.2.2.2.2.1 i).toInt ∧ (u.2.2.2.2.2.2.2.2.2.2.2.2.2.2.2.2.2.2.2.2.2.2.2.2.1 i).toInt ≤ 4) ∨ (10 ≤ (u.2.2.2.2.2.2.2.2.2.2.2.2.2.2.2.2.2.2.2.2.2.2.2.2.1 i).toInt ∧ (u.2.2.2.2.2.2.2.2.2.2.2.2.2.2.2.2.2.2.2.2.2.2.2.2.1 i).toInt ≤ 13) ∨ (u.2.2.2.2.2.2.2.2.2.2.2.2.2.2.2.2.2.2.2.2.2.2.2.2.1 i).toInt = 20)) ∧ (∀ i : Nat, ((i : Int) < (u.2.2.2.2.2.2.2.2.2.1).toInt ∧ (u.2.2.2.2.1).toInt = 0) → ((0 ≤ (u.2.2.2.2.2.2.2.2.2.2.2.2.2.2.2.2.2.2.2.2.2.2.2.2.2.1 i).toInt ∧ (u.2.2.2.2.2.2.2.2.2.2.2.2.2.2.2.2.2.2.2.2.2.2.2.2.2.1 i).toInt ≤ 4) ∨ (10 ≤ (u.2.2.2.2.2.2.2.2.2.2.2.2.2.2.2.2.2.2.2.2.2.2.2.2.2.1 i).toInt ∧ (u.2.2.2.2.2.2.2.2.2.2.2.2.2.2.2.2.2.2.2.2.2.2.2.2.2.1 i).toInt ≤ 13) ∨ (u.2.2.2.2.2.2.2.2.2.2.2.2.2.2.2.2.2.2.2.2.2.2.2.2.2.1 i).toInt = 20)) ∧ (∀ i : Nat, ((i : Int) < (u.2.2.2.2.2.2.2.2.2.1).toInt ∧ (u.2.2.2.2.1).toInt = 0) → (1 ≤ (u.2.2.2.2.2.2.2.2.2.2.1 i).toInt ∧ (u.2.2.2.2.2.2.2.2.2.2.1 i).toInt ≤ 3)) ∧ (∀ i : Nat, (i < 4) → (0 ≤ (u.2.2.2.2.2.2.2.2.2.2.2.2.1 i).toInt ∧ (u.2.2.2.2.2.2.2.2.2.2.2.2.1 i).toInt ≤ 4)) ∧ (∀ i : Nat, (i < 4) → (0 ≤ (u.2.2.2.2.2.2.2.2.2.2.2.2.2.2.2.2.2.2.2.2.2.2.2.2.2.2.2.2.1 i).toInt ∧ (u.2.2.2.2.2.2.2.2.2.2.2.2.2.2.2.2.2.2.2.2.2.2.2.2.2.2.2.2.1 i).toInt ≤ 4)) ∧ (∀ i : Nat, (i < 5) → (0 ≤ (u.2.2.2.2.2.2.2.2.2.2.2.2.2.2.2.2.2.2.2.2.2.2.2.2.2.2.2.2.2.2.2 i).toInt ∧ (u.2.2.2.2.2.2.2.2.2.2.2.2.2.2.2.2.2.2.2.2.2.2.2.2.2.2.2.2.2.2.2 i).toInt ≤ 2)) ∧ (u.2.1 = true → (u.2.2.2.2.1).toInt = 0)) := by
  unfold FX6_plan
  refine OK_bd (sX3_read n hn v_reader_fault v_reader_faultPlace v_reader_nameCount v_reader_setCount v_reader_draft_units a_reader_draft_settings a_reader_draft_percents a_reader_draft_grades v_reader_tape_length v_reader_tape_next v_reader_tape_type v_reader_tape_place v_reader_tape_formerPlace v_reader_tape_word v_reader_tape_number a_reader_tape_bytes a_reader_names a_reader_namePlaces a_reader_nameUnits a_reader_nameSettings a_reader_draft_yesLeads a_reader_draft_noLeads a_reader_setValues a_reader_setNames a_reader_draft_gradeKinds a_reader_draft_gradePurities a_reader_draft_gradePrices i0 i1 i2) (fun u_2 p_u_2 => ?_)
  obtain ⟨p1514, p1515, p1516, p1517, p1518, p1519, p1520⟩ := p_u_2
  refine OK_if (fun c1521 => ?_) (fun c1521 => ?_)
  · have v1522 : HQ ((0 : Int32)).toInt 0 := HQ.mk (by decide)
    have f1523 := eq32k rfl v1522.out c1521
    refine OK_bd (sJ7_fill_53178 n hn 5 a_chosen (0 : Int32) (by omega)) (fun u_5 p_u_5 => ?_)
    have p1524 := p_u_5
    clear p_u_5
    try simp only [v1522.out] at p1524
    exact OK_some (show (0 ≤ ((0 : Int32)).toInt) ∧ (((0 : Int32)).toInt ≤ 1200) ∧ (0 ≤ (u_2.2.2.2.2.2.1).toInt) ∧ ((u_2.2.2.2.2.2.1).toInt ≤ 5) ∧ (∀ i : Nat, ((i : Int) < (u_2.2.2.2.2.2.1).toInt ∧ (u_2.2.1).toInt = 0) → ((0 ≤ (u_2.2.2.2.2.2.2.2.2.2.2.2.2.2.2.2.2.2.2.2.1 i).toInt ∧ (u_2.2.2.2.2.2.2.2.2.2.2.2.2.2.2.2.2.2.2.2.1 i).toInt ≤ 4) ∨ (10 ≤ (u_2.2.2.2.2.2.2.2.2.2.2.2.2.2.2.2.2.2.2.2.1 i).toInt ∧ (u_2.2.2.2.2.2.2.2.2.2.2.2.2.2.2.2.2.2.2.2.1 i).toInt ≤ 13) ∨ (u_2.2.2.2.2.2.2.2.2.2.2.2.2.2.2.2.2.2.2.2.1 i).toInt = 20)) ∧ (∀ i : Nat, ((i : Int) < (u_2.2.2.2.2.2.1).toInt ∧ (u_2.2.1).toInt = 0) → ((0 ≤ (u_2.2.2.2.2.2.2.2.2.2.2.2.2.2.2.2.2.2.2.2.2.1 i).toInt ∧ (u_2.2.2.2.2.2.2.2.2.2.2.2.2.2.2.2.2.2.2.2.2.1 i).toInt ≤ 4) ∨ (10 ≤ (u_2.2.2.2.2.2.2.2.2.2.2.2.2.2.2.2.2.2.2.2.2.1 i).toInt ∧ (u_2.2.2.2.2.2.2.2.2.2.2.2.2.2.2.2.2.2.2.2.2.1 i).toInt ≤ 13) ∨ (u_2.2.2.2.2.2.2.2.2.2.2.2.2.2.2.2.2.2.2.2.2.1 i).toInt = 20)) ∧ (∀ i : Nat, ((i : Int) < (u_2.2.2.2.2.2.1).toInt ∧ (u_2.2.1).toInt = 0) → (1 ≤ (u_2.2.2.2.2.2.2.1 i).toInt ∧ (u_2.2.2.2.2.2.2.1 i).toInt ≤ 3)) ∧ (∀ i : Nat, (i < 4) → (0 ≤ (u_2.2.2.2.2.2.2.2.2.1 i).toInt ∧ (u_2.2.2.2.2.2.2.2.2.1 i).toInt ≤ 4)) ∧ (∀ i : Nat, (i < 4) → (0 ≤ (u_2.2.2.2.2.2.2.2.2.2.2.2.2.2.2.2.2.2.2.2.2.2.2.2.1 i).toInt ∧ (u_2.2.2.2.2.2.2.2.2.2.2.2.2.2.2.2.2.2.2.2.2.2.2.2.1 i).toInt ≤ 4)) ∧ (∀ i : Nat, (i < 5) → (0 ≤ (u_5.2 i).toInt ∧ (u_5.2 i).toInt ≤ 2)) ∧ (true = true → (u_2.2.1).toInt = 0) from ⟨(by (rw [v1522.out]) <;> omega), (by (rw [v1522.out]) <;> omega), p1514, p1515, p1516, p1517, p1518, p1519, p1520, (by
        intro i hi
        have f1525 := p1524 i
        have f1526 := i3 i
        omega), (by first | (intro h; exact absurd h (by decide)) | (intro _; omega))⟩)
  · have v1527 : HQ ((0 : Int32)).toInt 0 := HQ.mk (by decide)
    have f1528 := neq32k rfl v1527.out c1521
    exact OK_some (show (0 ≤ (v_reader_tape_length).toInt) ∧ ((v_reader_tape_length).toInt ≤ 1200) ∧ (0 ≤ (u_2.2.2.2.2.2.1).toInt) ∧ ((u_2.2.2.2.2.2.1).toInt ≤ 5) ∧ (∀ i : Nat, ((i : Int) < (u_2.2.2.2.2.2.1).toInt ∧ (u_2.2.1).toInt = 0) → ((0 ≤ (u_2.2.2.2.2.2.2.2.2.2.2.2.2.2.2.2.2.2.2.2.1 i).toInt ∧ (u_2.2.2.2.2.2.2.2.2.2.2.2.2.2.2.2.2.2.2.2.1 i).toInt ≤ 4) ∨ (10 ≤ (u_2.2.2.2.2.2.2.2.2.2.2.2.2.2.2.2.2.2.2.2.1 i).toInt ∧ (u_2.2.2.2.2.2.2.2.2.2.2.2.2.2.2.2.2.2.2.2.1 i).toInt ≤ 13) ∨ (u_2.2.2.2.2.2.2.2.2.2.2.2.2.2.2.2.2.2.2.2.1 i).toInt = 20)) ∧ (∀ i : Nat, ((i : Int) < (u_2.2.2.2.2.2.1).toInt ∧ (u_2.2.1).toInt = 0) → ((0 ≤ (u_2.2.2.2.2.2.2.2.2.2.2.2.2.2.2.2.2.2.2.2.2.1 i).toInt ∧ (u_2.2.2.2.2.2.2.2.2.2.2.2.2.2.2.2.2.2.2.2.2.1 i).toInt ≤ 4) ∨ (10 ≤ (u_2.2.2.2.2.2.2.2.2.2.2.2.2.2.2.2.2.2.2.2.2.1 i).toInt ∧ (u_2.2.2.2.2.2.2.2.2.2.2.2.2.2.2.2.2.2.2.2.2.1 i).toInt ≤ 13) ∨ (u_2.2.2.2.2.2.2.2.2.2.2.2.2.2.2.2.2.2.2.2.2.1 i).toInt = 20)) ∧ (∀ i : Nat, ((i : Int) < (u_2.2.2.2.2.2.1).toInt ∧ (u_2.2.1).toInt = 0) → (1 ≤ (u_2.2.2.2.2.2.2.1 i).toInt ∧ (u_2.2.2.2.2.2.2.1 i).toInt ≤ 3)) ∧ (∀ i : Nat, (i < 4) → (0 ≤ (u_2.2.2.2.2.2.2.2.2.1 i).toInt ∧ (u_2.2.2.2.2.2.2.2.2.1 i).toInt ≤ 4)) ∧ (∀ i : Nat, (i < 4) → (0 ≤ (u_2.2.2.2.2.2.2.2.2.2.2.2.2.2.2.2.2.2.2.2.2.2.2.2.1 i).toInt ∧ (u_2.2.2.2.2.2.2.2.2.2.2.2.2.2.2.2.2.2.2.2.2.2.2.2.1 i).toInt ≤ 4)) ∧ (∀ i : Nat, (i < 5) → (0 ≤ (a_chosen i).toInt ∧ (a_chosen i).toInt ≤ 2)) ∧ (false = true → (u_2.2.1).toInt = 0) from ⟨i0, i1, p1514, p1515, p1516, p1517, p1518, p1519, p1520, i3, (by first | (intro h; exact absurd h (by decide)) | (intro _; omega))⟩)
set_option maxHeartbeats 2000000 in
theorem sX6_fault (n : Nat) (hn : n = 2200000000) (v_faultNumber : Int32) (v_faultPlace : Int32) (z1 : Int32) : OK (FX6_fault n v_faultNumber v_faultPlace z1) (fun u => True) := by
  unfold FX6_fault
  refine OK_if (fun c1529 => ?_) (fun c1529 => ?_)
  · have v1530 : HQ ((0 : Int32)).toInt 0 := HQ.mk (by decide)
    have f1531 := eq32k rfl v1530.out c1529
    exact OK_some trivial
  · have v1532 : HQ ((0 : Int32)).toInt 0 := HQ.mk (by decide)
    have f1533 := neq32k rfl v1532.out c1529
    refine OK_if (fun c1534 => ?_) (fun c1534 => ?_)
    · have v1535 : HQ ((1 : Int32)).toInt 1 := HQ.mk (by decide)
      have f1536 := eq32k rfl v1535.out c1534
      exact OK_some trivial
    · have v1537 : HQ ((1 : Int32)).toInt 1 := HQ.mk (by decide)
      have f1538 := neq32k rfl v1537.out c1534
      exact OK_some trivial
set_option maxHeartbeats 2000000 in
theorem sX6_isUnit (n : Nat) (hn : n = 2200000000) (v_told_units : Int32) (z1 : Int32) : OK (FX6_isUnit n v_told_units z1) (fun u => ((u.1).toInt ≠ 0 → (0 ≤ (z1).toInt ∧ (z1).toInt < (v_told_units).toInt))) := by
  unfold FX6_isUnit
  refine OK_if (fun c1539 => ?_) (fun c1539 => ?_)
  · have v1540 : HQ ((0 : Int32)).toInt 0 := HQ.mk (by decide)
    have f1541 := lt32k rfl v1540.out c1539
    exact OK_some (show (((0 : Int32)).toInt ≠ 0 → (0 ≤ (z1).toInt ∧ (z1).toInt < (v_told_units).toInt)) from (by (rw [v1540.out]) <;> omega))
  · have v1542 : HQ ((0 : Int32)).toInt 0 := HQ.mk (by decide)
    have f1543 := nlt32k rfl v1542.out c1539
    refine OK_if (fun c1544 => ?_) (fun c1544 => ?_)
    · have f1545 := le32k rfl rfl c1544
      exact OK_some (show (((0 : Int32)).toInt ≠ 0 → (0 ≤ (z1).toInt ∧ (z1).toInt < (v_told_units).toInt)) from (by (rw [v1542.out]) <;> omega))
    · have f1546 := nle32k rfl rfl c1544
      have v1547 : HQ ((1 : Int32)).toInt 1 := HQ.mk (by decide)
      exact OK_some (show (((1 : Int32)).toInt ≠ 0 → (0 ≤ (z1).toInt ∧ (z1).toInt < (v_told_units).toInt)) from (by (rw [v1547.out]) <;> omega))
set_option maxHeartbeats 2000000 in
theorem sX6_isSetting (n : Nat) (hn : n = 2200000000) (v_told_units : Int32) (a_told_settings : Nat → Int32) (z1 : Int32) (z2 : Int32) (i0 : 0 ≤ (v_told_units).toInt) (i1 : (v_told_units).toInt ≤ 5) (i2 : ∀ i : Nat, ((i : Int) < (v_told_units).toInt) → (1 ≤ (a_told_settings i).toInt ∧ (a_told_settings i).toInt ≤ 3)) : OK (FX6_isSetting n v_told_units a_told_settings z1 z2) (fun u => ((u.1).toInt ≠ 0 → (0 ≤ (z1).toInt ∧ (z1).toInt < (v_told_units).toInt ∧ 0 ≤ (z2).toInt ∧ (z2).toInt ≤ 2))) := by
  unfold FX6_isSetting
  refine OK_bd (sX6_isUnit n hn v_told_units z1) (fun u_2 p_u_2 => ?_)
  have p1548 := p_u_2
  clear p_u_2
  refine OK_if (fun c1549 => ?_) (fun c1549 => ?_)
  · have v1550 : HQ ((0 : Int32)).toInt 0 := HQ.mk (by decide)
    have f1551 := eq32k rfl v1550.out c1549
    exact OK_some (show (((0 : Int32)).toInt ≠ 0 → (0 ≤ (z1).toInt ∧ (z1).toInt < (v_told_units).toInt ∧ 0 ≤ (z2).toInt ∧ (z2).toInt ≤ 2)) from (by (rw [v1550.out]) <;> omega))
  · have v1552 : HQ ((0 : Int32)).toInt 0 := HQ.mk (by decide)
    have f1553 := neq32k rfl v1552.out c1549
    refine OK_if (fun c1554 => ?_) (fun c1554 => ?_)
    · have f1555 := lt32k rfl v1552.out c1554
      exact OK_some (show (((0 : Int32)).toInt ≠ 0 → (0 ≤ (z1).toInt ∧ (z1).toInt < (v_told_units).toInt ∧ 0 ≤ (z2).toInt ∧ (z2).toInt ≤ 2)) from (by (rw [v1552.out]) <;> omega))
    · have f1556 := nlt32k rfl v1552.out c1554
      refine OK_ck (ckV rfl (by omega) (by omega)) ?_
      refine OK_if (fun c1557 => ?_) (fun c1557 => ?_)
      · obtain ⟨m1558, v1559, f1560⟩ := tnV (e := z1) rfl (by omega)
        have v1561 : HQ ((a_told_settings ((z1).toNatClampNeg))).toInt (a_told_settings m1558).toInt := HQ.mk (by rw [v1559.out])
        have f1562 := i2 m1558
        have f1563 := le32k v1561.out rfl c1557
        exact OK_some (show (((0 : Int32)).toInt ≠ 0 → (0 ≤ (z1).toInt ∧ (z1).toInt < (v_told_units).toInt ∧ 0 ≤ (z2).toInt ∧ (z2).toInt ≤ 2)) from (by (rw [v1552.out]) <;> omega))
      · obtain ⟨m1564, v1565, f1566⟩ := tnV (e := z1) rfl (by omega)
        have v1567 : HQ ((a_told_settings ((z1).toNatClampNeg))).toInt (a_told_settings m1564).toInt := HQ.mk (by rw [v1565.out])
        have f1568 := i2 m1564
        have f1569 := nle32k v1567.out rfl c1557
        have v1570 : HQ ((1 : Int32)).toInt 1 := HQ.mk (by decide)
        exact OK_some (show (((1 : Int32)).toInt ≠ 0 → (0 ≤ (z1).toInt ∧ (z1).toInt < (v_told_units).toInt ∧ 0 ≤ (z2).toInt ∧ (z2).toInt ≤ 2)) from (by (rw [v1570.out]) <;> omega))
