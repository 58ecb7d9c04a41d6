set_option maxHeartbeats 2000000 in
theorem sX6_feed (n : Nat) (hn : n = 3000) (v_reader_tape_length : Int32) (a_reader_tape_bytes : Nat → Int32) (z1 : Int32) (z2 : Int32) (z3 : Int32) (z4 : Int32) (z5 : Int32) (i0 : 0 ≤ (v_reader_tape_length).toInt) (i1 : (v_reader_tape_length).toInt ≤ 1200) : OK (FX6_feed n v_reader_tape_length a_reader_tape_bytes z1 z2 z3 z4 z5) (fun u => (0 ≤ (u.2.1).toInt) ∧ ((u.2.1).toInt ≤ 1200)) := by
  unfold FX6_feed
  refine OK_if (fun c1427 => ?_) (fun c1427 => ?_)
  · have v1428 : HQ ((20 : Int32)).toInt 20 := HQ.mk (by decide)
    have v1429 : HQ ((v_reader_tape_length + (20 : Int32))).toInt ((v_reader_tape_length).toInt + 20) := HQ.mk (addV rfl v1428.out (by omega) (by omega))
    have v1430 : HQ ((1200 : Int32)).toInt 1200 := HQ.mk (by decide)
    have f1431 := le32k v1429.out v1430.out c1427
    refine OK_bd (sX4_put n hn v_reader_tape_length a_reader_tape_bytes z1 i0 i1) (fun u_3 p_u_3 => ?_)
    obtain ⟨p1432, p1433⟩ := p_u_3
    refine OK_bd (sX4_put n hn u_3.2.1 u_3.2.2 z2 p1432 p1433) (fun u_5 p_u_5 => ?_)
    obtain ⟨p1434, p1435⟩ := p_u_5
    refine OK_bd (sX4_put n hn u_5.2.1 u_5.2.2 z3 p1434 p1435) (fun u_7 p_u_7 => ?_)
    obtain ⟨p1436, p1437⟩ := p_u_7
    refine OK_bd (sX4_put n hn u_7.2.1 u_7.2.2 z4 p1436 p1437) (fun u_9 p_u_9 => ?_)
    obtain ⟨p1438, p1439⟩ := p_u_9
    refine OK_bd (sX4_put n hn u_9.2.1 u_9.2.2 z5 p1438 p1439) (fun u_11 p_u_11 => ?_)
    obtain ⟨p1440, p1441⟩ := p_u_11
    exact OK_some (show (0 ≤ (u_11.2.1).toInt) ∧ ((u_11.2.1).toInt ≤ 1200) from ⟨p1440, p1441⟩)
  · have v1442 : HQ ((20 : Int32)).toInt 20 := HQ.mk (by decide)
    have v1443 : HQ ((v_reader_tape_length + (20 : Int32))).toInt ((v_reader_tape_length).toInt + 20) := HQ.mk (addV rfl v1442.out (by omega) (by omega))
    have v1444 : HQ ((1200 : Int32)).toInt 1200 := HQ.mk (by decide)
    have f1445 := nle32k v1443.out v1444.out c1427
    exact OK_some (show (0 ≤ (v_reader_tape_length).toInt) ∧ ((v_reader_tape_length).toInt ≤ 1200) from ⟨i0, i1⟩)
set_option maxHeartbeats 2000000 in
theorem sX6_end (n : Nat) (hn : n = 3000) (v_reader_tape_length : Int32) (z1 : Int32) (i0 : 0 ≤ (v_reader_tape_length).toInt) (i1 : (v_reader_tape_length).toInt ≤ 1200) : OK (FX6_end n v_reader_tape_length z1) (fun u => (0 ≤ (u.2).toInt) ∧ ((u.2).toInt ≤ 1200)) := by
  unfold FX6_end
  refine OK_if (fun c1446 => ?_) (fun c1446 => ?_)
  · have v1447 : HQ ((0 : Int32)).toInt 0 := HQ.mk (by decide)
    have f1448 := lt32k rfl v1447.out c1446
    exact OK_some (show (0 ≤ (v_reader_tape_length).toInt) ∧ ((v_reader_tape_length).toInt ≤ 1200) from ⟨i0, i1⟩)
  · have v1449 : HQ ((0 : Int32)).toInt 0 := HQ.mk (by decide)
    have f1450 := nlt32k rfl v1449.out c1446
    refine OK_if (fun c1451 => ?_) (fun c1451 => ?_)
    · have f1452 := le32k rfl rfl c1451
      exact OK_some (show (0 ≤ (z1).toInt) ∧ ((z1).toInt ≤ 1200) from ⟨(by omega), (by omega)⟩)
    · have f1453 := nle32k rfl rfl c1451
      exact OK_some (show (0 ≤ (v_reader_tape_length).toInt) ∧ ((v_reader_tape_length).toInt ≤ 1200) from ⟨i0, i1⟩)
set_option maxHeartbeats 2000000 in
theorem sX6_plan (n : Nat) (hn : n = 3000) (v_faultNumber : Int32) (v_faultPlace : Int32) (v_reader_fault : Int32) (v_reader_faultPlace : Int32) (v_reader_nameCount : Int32) (v_reader_setCount : Int32) (v_reader_draft_units : Int32) (a_reader_draft_settings : Nat → Int32) (a_reader_draft_percents : Nat → Int32) (a_reader_draft_grades : Nat → Int32) (v_reader_tape_length : Int32) (v_reader_tape_next : Int32) (v_reader_tape_type : Int32) (v_reader_tape_place : Int32) (v_reader_tape_formerPlace : Int32) (v_reader_tape_word : Int64) (v_reader_tape_number : Int32) (a_reader_tape_bytes : Nat → Int32) (a_reader_names : Nat → Int64) (a_reader_namePlaces : Nat → Int32) (a_reader_nameUnits : Nat → Int32) (a_reader_nameSettings : Nat → Int32) (a_reader_draft_yesLeads : Nat → Int32) (a_reader_draft_noLeads : Nat → Int32) (a_reader_setValues : Nat → Int32) (a_reader_setNames : Nat → Int32) (a_reader_draft_gradeKinds : Nat → Int32) (a_reader_draft_gradePurities : Nat → Int32) (a_reader_draft_gradePrices : Nat → Int32) (v_told_units : Int32) (a_chosen : Nat → Int32) (i0 : 0 ≤ (v_reader_tape_length).toInt) (i1 : (v_reader_tape_length).toInt ≤ 1200) (i2 : ∀ i : Nat, (i < 4) → (0 ≤ (a_reader_draft_gradeKinds i).toInt ∧ (a_reader_draft_gradeKinds i).toInt ≤ 4)) (i3 : ∀ i : Nat, (i < 5) → (0 ≤ (a_chosen i).toInt ∧ (a_chosen i).toInt ≤ 2)) : OK (FX6_plan n v_faultNumber v_faultPlace v_reader_fault v_reader_faultPlace v_reader_nameCount v_reader_setCount v_reader_draft_units a_reader_draft_settings a_reader_draft_percents a_reader_draft_grades v_reader_tape_length v_reader_tape_next v_reader_tape_type v_reader_tape_place v_reader_tape_formerPlace v_reader_tape_word v_reader_tape_number a_reader_tape_bytes a_reader_names a_reader_namePlaces a_reader_nameUnits a_reader_nameSettings a_reader_draft_yesLeads a_reader_draft_noLeads a_reader_setValues a_reader_setNames a_reader_draft_gradeKinds a_reader_draft_gradePurities a_reader_draft_gradePrices v_told_units a_chosen) (fun u => (0 ≤ (u.2.2.2.2.2.2.2.2.2.2.2.2.2.1).toInt) ∧ ((u.2.2.2.2.2.2.2.2.2.2.2.2.2.1).toInt ≤ 1200) ∧ (0 ≤ (u.2.2.2.2.2.2.2.2.2.1).toInt) ∧ ((u.2.2.2.2.2.2.2.2.2.1).toInt ≤ 5) ∧ (∀ i : Nat, ((i : Int) < (u.2.2.2.2.2.2.2.2.2.1).toInt ∧ (u.2.2.2.2.1).toInt = 0) → ((0 ≤ (u.2.2.2.2.2.2.2.2.2.2.2.2.2.2.2.2.2.2.2.2.2.2.2.2.1 i).toInt ∧ (u.2.2.2.2.2.2.2.2.2.2.2.2.2.2.2.2.2.2.2.2.2.2.2.2.1 i).toInt ≤ 4) ∨ (10 ≤ (u.2.2.2.2.2.2.2.2.2.2.2.2.2.2.2.2.2.2.2.2.2.2.2.2.1 i).toInt ∧ (u.2.2.2.2.2.2.2.2.2.2.2.2.2.2.2.2.2.2.2.2.2.2.2.2.1 i).toInt ≤ 13) ∨ (u.2.2.2.2.2.2.2.2.2.2.2.2.2.2.2.2.2.2.2.2.2.2.2.2.1 i).toInt = 20)) ∧ (∀ i : Nat, ((i : Int) < (u.2.2.2.2.2.2.2.2.2.1).toInt ∧ (u.2.2.2.2.1).toInt = 0) → ((0 ≤ (u.2.2.2.2.2.2.2.2.2.2.2.2.2.2.2.2.2.2.2.2.2.2.2.2.2.1 i).toInt ∧ (u.2.2.2.2.2.2.2.2.2.2.2.2.2.2.2.2.2.2.2.2.2.2.2.2.2.1 i).toInt ≤ 4) ∨ (10 ≤ (u.2.2.2.2.2.2.2.2.2.2.2.2.2.2.2.2.2.2.2.2.2.2.2.2.2.1 i).toInt ∧ (u.2.2.2.2.2.2.2.2.2.2.2.2.2.2.2.2.2.2.2.2.2.2.2.2.2.1 i).toInt ≤ 13) ∨ (u.2.2.2.2.2.2.2.2.2.2.2.2.2.2.2.2.2.2.2.2.2.2.2.2.2.1 i).toInt = 20)) ∧ (∀ i : Nat, ((i : Int) < (u.2.2.2.2.2.2.2.2.2.1).toInt ∧ (u.2.2.2.2.1).toInt = 0) → (1 ≤ (u.2.2.2.2.2.2.2.2.2.2.1 i).toInt ∧ (u.2.2.2.2.2.2.2.2.2.2.1 i).toInt ≤ 3)) ∧ (∀ i : Nat, (i < 4) → (0 ≤ (u.2.2.2.2.2.2.2.2.2.2.2.2.1 i).toInt ∧ (u.2.2.2.2.2.2.2.2.2.2.2.2.1 i).toInt ≤ 4)) ∧ (∀ i : Nat, (i < 4) → (0 ≤ (u.2.2.2.2.2.2.2.2.2.2.2.2.2.2.2.2.2.2.2.2.2.2.2.2.2.2.2.2.1 i).toInt ∧ (u.2.2.2.2.2.2.2.2.2.2.2.2.2.2.2.2.2.2.2.2.2.2.2.2.2.2.2.2.1 i).toInt ≤ 4)) ∧ (∀ i : Nat, (i < 5) → (0 ≤ (u.2.2.2.2.2.2.2.2.2.2.2.2.2.2.2.2.2.2.2.2.2.2.2.2.2.2.2.2.2.2.2 i).toInt ∧ (u.2.2.2.2.2.2.2.2.2.2.2.2.2.2.2.2.2.2.2.2.2.2.2.2.2.2.2.2.2.2.2 i).toInt ≤ 2)) ∧ (u.2.1 = true → (u.2.2.2.2.1).toInt = 0)) := by
  unfold FX6_plan
  refine OK_bd (sX3_read n hn v_reader_fault v_reader_faultPlace v_reader_nameCount v_reader_setCount v_reader_draft_units a_reader_draft_settings a_reader_draft_percents a_reader_draft_grades v_reader_tape_length v_reader_tape_next v_reader_tape_type v_reader_tape_place v_reader_tape_formerPlace v_reader_tape_word v_reader_tape_number a_reader_tape_bytes a_reader_names a_reader_namePlaces a_reader_nameUnits a_reader_nameSettings a_reader_draft_yesLeads a_reader_draft_noLeads a_reader_setValues a_reader_setNames a_reader_draft_gradeKinds a_reader_draft_gradePurities a_reader_draft_gradePrices i0 i1 i2) (fun u_2 p_u_2 => ?_)
  obtain ⟨p1454, p1455, p1456, p1457, p1458, p1459, p1460⟩ := p_u_2
  refine OK_if (fun c1461 => ?_) (fun c1461 => ?_)
  · have v1462 : HQ ((0 : Int32)).toInt 0 := HQ.mk (by decide)
    have f1463 := eq32k rfl v1462.out c1461
    refine OK_bd (sJ7_fill_53178 n hn 5 a_chosen (0 : Int32) (by omega)) (fun u_5 p_u_5 => ?_)
    have p1464 := p_u_5
    exact OK_some (show (0 ≤ ((0 : Int32)).toInt) ∧ (((0 : Int32)).toInt ≤ 1200) ∧ (0 ≤ (u_2.2.2.2.2.2.1).toInt) ∧ ((u_2.2.2.2.2.2.1).toInt ≤ 5) ∧ (∀ i : Nat, ((i : Int) < (u_2.2.2.2.2.2.1).toInt ∧ (u_2.2.1).toInt = 0) → ((0 ≤ (u_2.2.2.2.2.2.2.2.2.2.2.2.2.2.2.2.2.2.2.2.1 i).toInt ∧ (u_2.2.2.2.2.2.2.2.2.2.2.2.2.2.2.2.2.2.2.2.1 i).toInt ≤ 4) ∨ (10 ≤ (u_2.2.2.2.2.2.2.2.2.2.2.2.2.2.2.2.2.2.2.2.1 i).toInt ∧ (u_2.2.2.2.2.2.2.2.2.2.2.2.2.2.2.2.2.2.2.2.1 i).toInt ≤ 13) ∨ (u_2.2.2.2.2.2.2.2.2.2.2.2.2.2.2.2.2.2.2.2.1 i).toInt = 20)) ∧ (∀ i : Nat, ((i : Int) < (u_2.2.2.2.2.2.1).toInt ∧ (u_2.2.1).toInt = 0) → ((0 ≤ (u_2.2.2.2.2.2.2.2.2.2.2.2.2.2.2.2.2.2.2.2.2.1 i).toInt ∧ (u_2.2.2.2.2.2.2.2.2.2.2.2.2.2.2.2.2.2.2.2.2.1 i).toInt ≤ 4) ∨ (10 ≤ (u_2.2.2.2.2.2.2.2.2.2.2.2.2.2.2.2.2.2.2.2.2.1 i).toInt ∧ (u_2.2.2.2.2.2.2.2.2.2.2.2.2.2.2.2.2.2.2.2.2.1 i).toInt ≤ 13) ∨ (u_2.2.2.2.2.2.2.2.2.2.2.2.2.2.2.2.2.2.2.2.2.1 i).toInt = 20)) ∧ (∀ i : Nat, ((i : Int) < (u_2.2.2.2.2.2.1).toInt ∧ (u_2.2.1).toInt = 0) → (1 ≤ (u_2.2.2.2.2.2.2.1 i).toInt ∧ (u_2.2.2.2.2.2.2.1 i).toInt ≤ 3)) ∧ (∀ i : Nat, (i < 4) → (0 ≤ (u_2.2.2.2.2.2.2.2.2.1 i).toInt ∧ (u_2.2.2.2.2.2.2.2.2.1 i).toInt ≤ 4)) ∧ (∀ i : Nat, (i < 4) → (0 ≤ (u_2.2.2.2.2.2.2.2.2.2.2.2.2.2.2.2.2.2.2.2.2.2.2.2.1 i).toInt ∧ (u_2.2.2.2.2.2.2.2.2.2.2.2.2.2.2.2.2.2.2.2.2.2.2.2.1 i).toInt ≤ 4)) ∧ (∀ i : Nat, (i < 5) → (0 ≤ (u_5.2 i).toInt ∧ (u_5.2 i).toInt ≤ 2)) ∧ (true = true → (u_2.2.1).toInt = 0) from ⟨(by rw [v1462.out]; omega), (by rw [v1462.out]; omega), p1454, p1455, p1456, p1457, p1458, p1459, p1460, (by
        intro i hi
        have f1465 := p1464 i
        have f1466 := i3 i
        omega), (by first | (intro h; exact absurd h (by decide)) | (intro _; omega))⟩)
  · have v1467 : HQ ((0 : Int32)).toInt 0 := HQ.mk (by decide)
    have f1468 := neq32k rfl v1467.out c1461
    exact OK_some (show (0 ≤ (v_reader_tape_length).toInt) ∧ ((v_reader_tape_length).toInt ≤ 1200) ∧ (0 ≤ (u_2.2.2.2.2.2.1).toInt) ∧ ((u_2.2.2.2.2.2.1).toInt ≤ 5) ∧ (∀ i : Nat, ((i : Int) < (u_2.2.2.2.2.2.1).toInt ∧ (u_2.2.1).toInt = 0) → ((0 ≤ (u_2.2.2.2.2.2.2.2.2.2.2.2.2.2.2.2.2.2.2.2.1 i).toInt ∧ (u_2.2.2.2.2.2.2.2.2.2.2.2.2.2.2.2.2.2.2.2.1 i).toInt ≤ 4) ∨ (10 ≤ (u_2.2.2.2.2.2.2.2.2.2.2.2.2.2.2.2.2.2.2.2.1 i).toInt ∧ (u_2.2.2.2.2.2.2.2.2.2.2.2.2.2.2.2.2.2.2.2.1 i).toInt ≤ 13) ∨ (u_2.2.2.2.2.2.2.2.2.2.2.2.2.2.2.2.2.2.2.2.1 i).toInt = 20)) ∧ (∀ i : Nat, ((i : Int) < (u_2.2.2.2.2.2.1).toInt ∧ (u_2.2.1).toInt = 0) → ((0 ≤ (u_2.2.2.2.2.2.2.2.2.2.2.2.2.2.2.2.2.2.2.2.2.1 i).toInt ∧ (u_2.2.2.2.2.2.2.2.2.2.2.2.2.2.2.2.2.2.2.2.2.1 i).toInt ≤ 4) ∨ (10 ≤ (u_2.2.2.2.2.2.2.2.2.2.2.2.2.2.2.2.2.2.2.2.2.1 i).toInt ∧ (u_2.2.2.2.2.2.2.2.2.2.2.2.2.2.2.2.2.2.2.2.2.1 i).toInt ≤ 13) ∨ (u_2.2.2.2.2.2.2.2.2.2.2.2.2.2.2.2.2.2.2.2.2.1 i).toInt = 20)) ∧ (∀ i : Nat, ((i : Int) < (u_2.2.2.2.2.2.1).toInt ∧ (u_2.2.1).toInt = 0) → (1 ≤ (u_2.2.2.2.2.2.2.1 i).toInt ∧ (u_2.2.2.2.2.2.2.1 i).toInt ≤ 3)) ∧ (∀ i : Nat, (i < 4) → (0 ≤ (u_2.2.2.2.2.2.2.2.2.1 i).toInt ∧ (u_2.2.2.2.2.2.2.2.2.1 i).toInt ≤ 4)) ∧ (∀ i : Nat, (i < 4) → (0 ≤ (u_2.2.2.2.2.2.2.2.2.2.2.2.2.2.2.2.2.2.2.2.2.2.2.2.1 i).toInt ∧ (u_2.2.2.2.2.2.2.2.2.2.2.2.2.2.2.2.2.2.2.2.2.2.2.2.1 i).toInt ≤ 4)) ∧ (∀ i : Nat, (i < 5) → (0 ≤ (a_chosen i).toInt ∧ (a_chosen i).toInt ≤ 2)) ∧ (false = true → (u_2.2.1).toInt = 0) from ⟨i0, i1, p1454, p1455, p1456, p1457, p1458, p1459, p1460, i3, (by first | (intro h; exact absurd h (by decide)) | (intro _; omega))⟩)
set_option maxHeartbeats 2000000 in
theorem sX6_fault (n : Nat) (hn : n = 3000) (v_faultNumber : Int32) (v_faultPlace : Int32) (z1 : Int32) : OK (FX6_fault n v_faultNumber v_faultPlace z1) (fun u => True) := by
  unfold FX6_fault
  refine OK_if (fun c1469 => ?_) (fun c1469 => ?_)
  · have v1470 : HQ ((0 : Int32)).toInt 0 := HQ.mk (by decide)
    have f1471 := eq32k rfl v1470.out c1469
    exact OK_some trivial
  · have v1472 : HQ ((0 : Int32)).toInt 0 := HQ.mk (by decide)
    have f1473 := neq32k rfl v1472.out c1469
    refine OK_if (fun c1474 => ?_) (fun c1474 => ?_)
    · have v1475 : HQ ((1 : Int32)).toInt 1 := HQ.mk (by decide)
      have f1476 := eq32k rfl v1475.out c1474
      exact OK_some trivial
    · have v1477 : HQ ((1 : Int32)).toInt 1 := HQ.mk (by decide)
      have f1478 := neq32k rfl v1477.out c1474
      exact OK_some trivial
set_option maxHeartbeats 2000000 in
theorem sX6_isUnit (n : Nat) (hn : n = 3000) (v_told_units : Int32) (z1 : Int32) : OK (FX6_isUnit n v_told_units z1) (fun u => ((u.1).toInt ≠ 0 → (0 ≤ (z1).toInt ∧ (z1).toInt < (v_told_units).toInt))) := by
  unfold FX6_isUnit
  refine OK_if (fun c1479 => ?_) (fun c1479 => ?_)
  · have v1480 : HQ ((0 : Int32)).toInt 0 := HQ.mk (by decide)
    have f1481 := lt32k rfl v1480.out c1479
    exact OK_some (show (((0 : Int32)).toInt ≠ 0 → (0 ≤ (z1).toInt ∧ (z1).toInt < (v_told_units).toInt)) from (by rw [v1480.out]; omega))
  · have v1482 : HQ ((0 : Int32)).toInt 0 := HQ.mk (by decide)
    have f1483 := nlt32k rfl v1482.out c1479
    refine OK_if (fun c1484 => ?_) (fun c1484 => ?_)
    · have f1485 := le32k rfl rfl c1484
      exact OK_some (show (((0 : Int32)).toInt ≠ 0 → (0 ≤ (z1).toInt ∧ (z1).toInt < (v_told_units).toInt)) from (by rw [v1482.out]; omega))
    · have f1486 := nle32k rfl rfl c1484
      have v1487 : HQ ((1 : Int32)).toInt 1 := HQ.mk (by decide)
      exact OK_some (show (((1 : Int32)).toInt ≠ 0 → (0 ≤ (z1).toInt ∧ (z1).toInt < (v_told_units).toInt)) from (by rw [v1487.out]; omega))
set_option maxHeartbeats 2000000 in
theorem sX6_isSetting (n : Nat) (hn : n = 3000) (v_told_units : Int32) (a_told_settings : Nat → Int32) (z1 : Int32) (z2 : Int32) (i0 : 0 ≤ (v_told_units).toInt) (i1 : (v_told_units).toInt ≤ 5) (i2 : ∀ i : Nat, ((i : Int) < (v_told_units).toInt) → (1 ≤ (a_told_settings i).toInt ∧ (a_told_settings i).toInt ≤ 3)) : OK (FX6_isSetting n v_told_units a_told_settings z1 z2) (fun u => ((u.1).toInt ≠ 0 → (0 ≤ (z1).toInt ∧ (z1).toInt < (v_told_units).toInt ∧ 0 ≤ (z2).toInt ∧ (z2).toInt ≤ 2))) := by
  unfold FX6_isSetting
  refine OK_bd (sX6_isUnit n hn v_told_units z1) (fun u_2 p_u_2 => ?_)
  have p1488 := p_u_2
  refine OK_if (fun c1489 => ?_) (fun c1489 => ?_)
  · have v1490 : HQ ((0 : Int32)).toInt 0 := HQ.mk (by decide)
    have f1491 := eq32k rfl v1490.out c1489
    exact OK_some (show (((0 : Int32)).toInt ≠ 0 → (0 ≤ (z1).toInt ∧ (z1).toInt < (v_told_units).toInt ∧ 0 ≤ (z2).toInt ∧ (z2).toInt ≤ 2)) from (by rw [v1490.out]; omega))
  · have v1492 : HQ ((0 : Int32)).toInt 0 := HQ.mk (by decide)
    have f1493 := neq32k rfl v1492.out c1489
    refine OK_if (fun c1494 => ?_) (fun c1494 => ?_)
    · have f1495 := lt32k rfl v1492.out c1494
      exact OK_some (show (((0 : Int32)).toInt ≠ 0 → (0 ≤ (z1).toInt ∧ (z1).toInt < (v_told_units).toInt ∧ 0 ≤ (z2).toInt ∧ (z2).toInt ≤ 2)) from (by rw [v1492.out]; omega))
    · have f1496 := nlt32k rfl v1492.out c1494
      refine OK_ck (ckV rfl (by omega) (by omega)) ?_
      refine OK_if (fun c1497 => ?_) (fun c1497 => ?_)
      · obtain ⟨m1498, v1499, f1500⟩ := tnV rfl (by omega)
        have v1501 : HQ ((a_told_settings ((z1).toNatClampNeg))).toInt (a_told_settings m1498).toInt := HQ.mk (by rw [v1499.out])
        have f1502 := i2 m1498
        have f1503 := le32k v1501.out rfl c1497
        exact OK_some (show (((0 : Int32)).toInt ≠ 0 → (0 ≤ (z1).toInt ∧ (z1).toInt < (v_told_units).toInt ∧ 0 ≤ (z2).toInt ∧ (z2).toInt ≤ 2)) from (by rw [v1492.out]; omega))
      · obtain ⟨m1504, v1505, f1506⟩ := tnV rfl (by omega)
        have v1507 : HQ ((a_told_settings ((z1).toNatClampNeg))).toInt (a_told_settings m1504).toInt := HQ.mk (by rw [v1505.out])
        have f1508 := i2 m1504
        have f1509 := nle32k v1507.out rfl c1497
        have v1510 : HQ ((1 : Int32)).toInt 1 := HQ.mk (by decide)
        exact OK_some (show (((1 : Int32)).toInt ≠ 0 → (0 ≤ (z1).toInt ∧ (z1).toInt < (v_told_units).toInt ∧ 0 ≤ (z2).toInt ∧ (z2).toInt ≤ 2)) from (by rw [v1510.out]; omega))
