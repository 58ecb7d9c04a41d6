set_option maxHeartbeats 2000000 in
theorem sX7_isUnit (n : Nat) (hn : n = 2200000000) (v_bank : Int32) (a_unitMany : Nat → Int32) (z1 : Int32) (gM : Int) (i0 : 0 ≤ (v_bank).toInt) (i1 : (v_bank).toInt ≤ 1) (i2 : ∀ i : Nat, ((i : Int) = (v_bank).toInt) → ((a_unitMany i).toInt = gM)) (i3 : 0 ≤ gM) (i4 : gM ≤ 5) : OK (FX7_isUnit n v_bank a_unitMany z1) (fun u => ((u.1).toInt ≠ 0 → (0 ≤ (z1).toInt ∧ (z1).toInt < gM))) := by
  unfold FX7_isUnit
  refine OK_if (fun c3486 => ?_) (fun c3486 => ?_)
  · have v3487 : HQ ((0 : Int32)).toInt 0 := HQ.mk (by decide)
    have f3488 := lt32k rfl v3487.out c3486
    exact OK_some (show (((0 : Int32)).toInt ≠ 0 → (0 ≤ (z1).toInt ∧ (z1).toInt < gM)) from (by (rw [v3487.out]) <;> omega))
  · have v3489 : HQ ((0 : Int32)).toInt 0 := HQ.mk (by decide)
    have f3490 := nlt32k rfl v3489.out c3486
    refine OK_ck (ckV rfl (by omega) (by omega)) ?_
    refine OK_if (fun c3491 => ?_) (fun c3491 => ?_)
    · obtain ⟨m3492, v3493, f3494⟩ := tnV (e := v_bank) rfl (by omega)
      have v3495 : HQ ((a_unitMany ((v_bank).toNatClampNeg))).toInt (a_unitMany m3492).toInt := HQ.mk (by rw [v3493.out])
      have f3496 := i2 m3492
      have f3497 := le32k v3495.out rfl c3491
      exact OK_some (show (((0 : Int32)).toInt ≠ 0 → (0 ≤ (z1).toInt ∧ (z1).toInt < gM)) from (by (rw [v3489.out]) <;> omega))
    · obtain ⟨m3498, v3499, f3500⟩ := tnV (e := v_bank) rfl (by omega)
      have v3501 : HQ ((a_unitMany ((v_bank).toNatClampNeg))).toInt (a_unitMany m3498).toInt := HQ.mk (by rw [v3499.out])
      have f3502 := i2 m3498
      have f3503 := nle32k v3501.out rfl c3491
      have v3504 : HQ ((1 : Int32)).toInt 1 := HQ.mk (by decide)
      exact OK_some (show (((1 : Int32)).toInt ≠ 0 → (0 ≤ (z1).toInt ∧ (z1).toInt < gM)) from (by (rw [v3504.out]) <;> omega))
set_option maxHeartbeats 2000000 in
theorem sX7_settings (n : Nat) (hn : n = 2200000000) (v_bank : Int32) (a_settingMany : Nat → Int32) (z1 : Int32) (i0 : 0 ≤ (v_bank).toInt) (i1 : (v_bank).toInt ≤ 1) (i2 : 0 ≤ (z1).toInt) (i3 : (z1).toInt ≤ 4) (i4 : ∀ i : Nat, (i < 10) → (0 ≤ (a_settingMany i).toInt ∧ (a_settingMany i).toInt ≤ 3)) : OK (FX7_settings n v_bank a_settingMany z1) (fun u => (1 ≤ (u.1).toInt) ∧ ((u.1).toInt ≤ 3)) := by
  unfold FX7_settings
  have v3505 : HQ ((5 : Int32)).toInt 5 := HQ.mk (by decide)
  have v3506 : HQ (((5 : Int32) * v_bank)).toInt (5 * (v_bank).toInt) := HQ.mk (mulV v3505.out rfl (by omega) (by omega))
  have v3507 : HQ ((((5 : Int32) * v_bank) + z1)).toInt ((5 * (v_bank).toInt) + (z1).toInt) := HQ.mk (addV v3506.out rfl (by omega) (by omega))
  refine OK_ck (ckV v3507.out (by omega) (by omega)) ?_
  refine OK_if (fun c3508 => ?_) (fun c3508 => ?_)
  · obtain ⟨m3509, v3510, f3511⟩ := tnV (e := (((5 : Int32) * v_bank) + z1)) v3507.out (by omega)
    have v3512 : HQ ((a_settingMany (((((5 : Int32) * v_bank) + z1)).toNatClampNeg))).toInt (a_settingMany m3509).toInt := HQ.mk (by rw [v3510.out])
    have f3513 := i4 m3509
    have v3514 : HQ ((0 : Int32)).toInt 0 := HQ.mk (by decide)
    have f3515 := le32k v3512.out v3514.out c3508
    have v3516 : HQ ((1 : Int32)).toInt 1 := HQ.mk (by decide)
    exact OK_some (show (1 ≤ ((1 : Int32)).toInt) ∧ (((1 : Int32)).toInt ≤ 3) from ⟨(by (rw [v3516.out]) <;> omega), (by (rw [v3516.out]) <;> omega)⟩)
  · obtain ⟨m3517, v3518, f3519⟩ := tnV (e := (((5 : Int32) * v_bank) + z1)) v3507.out (by omega)
    have v3520 : HQ ((a_settingMany (((((5 : Int32) * v_bank) + z1)).toNatClampNeg))).toInt (a_settingMany m3517).toInt := HQ.mk (by rw [v3518.out])
    have f3521 := i4 m3517
    have v3522 : HQ ((0 : Int32)).toInt 0 := HQ.mk (by decide)
    have f3523 := nle32k v3520.out v3522.out c3508
    refine OK_ck (ckV v3507.out (by omega) (by omega)) ?_
    exact OK_some (show (1 ≤ ((a_settingMany (((((5 : Int32) * v_bank) + z1)).toNatClampNeg))).toInt) ∧ (((a_settingMany (((((5 : Int32) * v_bank) + z1)).toNatClampNeg))).toInt ≤ 3) from ⟨(by (rw [v3520.out]) <;> omega), (by (rw [v3520.out]) <;> omega)⟩)
set_option maxHeartbeats 2000000 in
theorem sX7_goes (n : Nat) (hn : n = 2200000000) (v_bank : Int32) (a_settingMany : Nat → Int32) (a_shares : Nat → Int32) (z1 : Int32) (z2 : Int32) (z3 : Int32) (i0 : 0 ≤ (v_bank).toInt) (i1 : (v_bank).toInt ≤ 1) (i2 : 0 ≤ (z1).toInt) (i3 : (z1).toInt ≤ 4) (i4 : 0 ≤ (z2).toInt) (i5 : (z2).toInt ≤ 2) (i6 : 0 ≤ (z3).toInt) (i7 : (z3).toInt ≤ 4) (i8 : ∀ i : Nat, (i < 10) → (0 ≤ (a_settingMany i).toInt ∧ (a_settingMany i).toInt ≤ 3)) : OK (FX7_goes n v_bank a_settingMany a_shares z1 z2 z3) (fun u => True) := by
  unfold FX7_goes
  have v3524 : HQ ((5 : Int32)).toInt 5 := HQ.mk (by decide)
  have v3525 : HQ (((5 : Int32) * v_bank)).toInt (5 * (v_bank).toInt) := HQ.mk (mulV v3524.out rfl (by omega) (by omega))
  have v3526 : HQ ((((5 : Int32) * v_bank) + z1)).toInt ((5 * (v_bank).toInt) + (z1).toInt) := HQ.mk (addV v3525.out rfl (by omega) (by omega))
  refine OK_ck (ckV v3526.out (by omega) (by omega)) ?_
  refine OK_if (fun c3527 => ?_) (fun c3527 => ?_)
  · obtain ⟨m3528, v3529, f3530⟩ := tnV (e := (((5 : Int32) * v_bank) + z1)) v3526.out (by omega)
    have v3531 : HQ ((a_settingMany (((((5 : Int32) * v_bank) + z1)).toNatClampNeg))).toInt (a_settingMany m3528).toInt := HQ.mk (by rw [v3529.out])
    have f3532 := i8 m3528
    have v3533 : HQ ((0 : Int32)).toInt 0 := HQ.mk (by decide)
    have f3534 := eq32k v3531.out v3533.out c3527
    exact OK_some trivial
  · obtain ⟨m3535, v3536, f3537⟩ := tnV (e := (((5 : Int32) * v_bank) + z1)) v3526.out (by omega)
    have v3538 : HQ ((a_settingMany (((((5 : Int32) * v_bank) + z1)).toNatClampNeg))).toInt (a_settingMany m3535).toInt := HQ.mk (by rw [v3536.out])
    have f3539 := i8 m3535
    have v3540 : HQ ((0 : Int32)).toInt 0 := HQ.mk (by decide)
    have f3541 := neq32k v3538.out v3540.out c3527
    have v3542 : HQ ((15 : Int32)).toInt 15 := HQ.mk (by decide)
    have v3543 : HQ (((15 : Int32) * (((5 : Int32) * v_bank) + z1))).toInt (15 * ((5 * (v_bank).toInt) + (z1).toInt)) := HQ.mk (mulV v3542.out v3526.out (by omega) (by omega))
    have v3544 : HQ (((5 : Int32) * z2)).toInt (5 * (z2).toInt) := HQ.mk (mulV v3524.out rfl (by omega) (by omega))
    have v3545 : HQ ((((15 : Int32) * (((5 : Int32) * v_bank) + z1)) + ((5 : Int32) * z2))).toInt ((15 * ((5 * (v_bank).toInt) + (z1).toInt)) + (5 * (z2).toInt)) := HQ.mk (addV v3543.out v3544.out (by omega) (by omega))
    have v3546 : HQ (((((15 : Int32) * (((5 : Int32) * v_bank) + z1)) + ((5 : Int32) * z2)) + z3)).toInt (((15 * ((5 * (v_bank).toInt) + (z1).toInt)) + (5 * (z2).toInt)) + (z3).toInt) := HQ.mk (addV v3545.out rfl (by omega) (by omega))
    refine OK_ck (ckV v3546.out (by omega) (by omega)) ?_
    exact OK_some trivial
set_option maxHeartbeats 2000000 in
theorem sX7_unit (n : Nat) (hn : n = 2200000000) (v_bank : Int32) (a_unitMany : Nat → Int32) (a_chosen : Nat → Int32) (a_noTo : Nat → Int32) (a_yesTo : Nat → Int32) (a_settingMany : Nat → Int32) (z1 : Int32) (z2 : Int32) (gM : Int) (i0 : 0 ≤ (v_bank).toInt) (i1 : (v_bank).toInt ≤ 1) (i2 : ∀ i : Nat, ((i : Int) = (v_bank).toInt) → ((a_unitMany i).toInt = gM)) (i3 : 0 ≤ gM) (i4 : gM ≤ 5) (i5 : ∀ i : Nat, (i < 10) → (0 ≤ (a_settingMany i).toInt ∧ (a_settingMany i).toInt ≤ 3)) : OK (FX7_unit n v_bank a_unitMany a_chosen a_noTo a_yesTo a_settingMany z1 z2) (fun u => True) := by
  unfold FX7_unit
  refine OK_bd (sX7_isUnit n hn v_bank a_unitMany z1 (gM) i0 i1 (by
      intro i hi
      have f3547 := i2 i
      omega) (by omega) (by omega)) (fun u_2 p_u_2 => ?_)
  have p3548 := p_u_2
  clear p_u_2
  refine OK_if (fun c3549 => ?_) (fun c3549 => ?_)
  · have v3550 : HQ ((0 : Int32)).toInt 0 := HQ.mk (by decide)
    have f3551 := eq32k rfl v3550.out c3549
    exact OK_some trivial
  · have v3552 : HQ ((0 : Int32)).toInt 0 := HQ.mk (by decide)
    have f3553 := neq32k rfl v3552.out c3549
    refine OK_if (fun c3554 => ?_) (fun c3554 => ?_)
    · have f3555 := eq32k rfl v3552.out c3554
      refine OK_bd (sX7_settings n hn v_bank a_settingMany z1 i0 i1 (by omega) (by omega) i5) (fun u_6 p_u_6 => ?_)
      obtain ⟨p3556, p3557⟩ := p_u_6
      exact OK_some trivial
    · have f3558 := neq32k rfl v3552.out c3554
      refine OK_if (fun c3559 => ?_) (fun c3559 => ?_)
      · have v3560 : HQ ((1 : Int32)).toInt 1 := HQ.mk (by decide)
        have f3561 := eq32k rfl v3560.out c3559
        have v3562 : HQ ((5 : Int32)).toInt 5 := HQ.mk (by decide)
        have v3563 : HQ (((5 : Int32) * v_bank)).toInt (5 * (v_bank).toInt) := HQ.mk (mulV v3562.out rfl (by omega) (by omega))
        have v3564 : HQ ((((5 : Int32) * v_bank) + z1)).toInt ((5 * (v_bank).toInt) + (z1).toInt) := HQ.mk (addV v3563.out rfl (by omega) (by omega))
        refine OK_ck (ckV v3564.out (by omega) (by omega)) ?_
        exact OK_some trivial
      · have v3565 : HQ ((1 : Int32)).toInt 1 := HQ.mk (by decide)
        have f3566 := neq32k rfl v3565.out c3559
        refine OK_if (fun c3567 => ?_) (fun c3567 => ?_)
        · have v3568 : HQ ((2 : Int32)).toInt 2 := HQ.mk (by decide)
          have f3569 := eq32k rfl v3568.out c3567
          have v3570 : HQ ((5 : Int32)).toInt 5 := HQ.mk (by decide)
          have v3571 : HQ (((5 : Int32) * v_bank)).toInt (5 * (v_bank).toInt) := HQ.mk (mulV v3570.out rfl (by omega) (by omega))
          have v3572 : HQ ((((5 : Int32) * v_bank) + z1)).toInt ((5 * (v_bank).toInt) + (z1).toInt) := HQ.mk (addV v3571.out rfl (by omega) (by omega))
          refine OK_ck (ckV v3572.out (by omega) (by omega)) ?_
          exact OK_some trivial
        · have v3573 : HQ ((2 : Int32)).toInt 2 := HQ.mk (by decide)
          have f3574 := neq32k rfl v3573.out c3567
          refine OK_if (fun c3575 => ?_) (fun c3575 => ?_)
          · have v3576 : HQ ((3 : Int32)).toInt 3 := HQ.mk (by decide)
            have f3577 := eq32k rfl v3576.out c3575
            refine OK_ck (ckV rfl (by omega) (by omega)) ?_
            exact OK_some trivial
          · have v3578 : HQ ((3 : Int32)).toInt 3 := HQ.mk (by decide)
            have f3579 := neq32k rfl v3578.out c3575
            exact OK_some trivial
set_option maxHeartbeats 2000000 in
theorem sFX7_setting_28 (n : Nat) (hn : n = 2200000000) (v_bank : Int32) (a_unitMany : Nat → Int32) (a_settingMany : Nat → Int32) (a_shares : Nat → Int32) (z1 : Int32) (z2 : Int32) (z3 : Int32) (gM : Int) (i0 : 0 ≤ (v_bank).toInt) (i1 : (v_bank).toInt ≤ 1) (i2 : ∀ i : Nat, ((i : Int) = (v_bank).toInt) → ((a_unitMany i).toInt = gM)) (i3 : 0 ≤ gM) (i4 : gM ≤ 5) (i5 : ∀ i : Nat, (i < 10) → (0 ≤ (a_settingMany i).toInt ∧ (a_settingMany i).toInt ≤ 3)) : OK (FX7_setting_28 n v_bank a_unitMany a_settingMany a_shares z1 z2 z3) (fun u => True) := by
  unfold FX7_setting_28
  exact OK_some trivial
set_option maxHeartbeats 2000000 in
theorem sX7_setting (n : Nat) (hn : n = 2200000000) (v_bank : Int32) (a_unitMany : Nat → Int32) (a_settingMany : Nat → Int32) (a_shares : Nat → Int32) (z1 : Int32) (z2 : Int32) (z3 : Int32) (gM : Int) (i0 : 0 ≤ (v_bank).toInt) (i1 : (v_bank).toInt ≤ 1) (i2 : ∀ i : Nat, ((i : Int) = (v_bank).toInt) → ((a_unitMany i).toInt = gM)) (i3 : 0 ≤ gM) (i4 : gM ≤ 5) (i5 : ∀ i : Nat, (i < 10) → (0 ≤ (a_settingMany i).toInt ∧ (a_settingMany i).toInt ≤ 3)) : OK (FX7_setting n v_bank a_unitMany a_settingMany a_shares z1 z2 z3) (fun u => True) := by
  unfold FX7_setting
  refine OK_bd (sX7_isUnit n hn v_bank a_unitMany z1 (gM) i0 i1 (by
      intro i hi
      have f3580 := i2 i
      omega) (by omega) (by omega)) (fun u_2 p_u_2 => ?_)
  have p3581 := p_u_2
  clear p_u_2
  refine OK_if (fun c3582 => ?_) (fun c3582 => ?_)
  · have v3583 : HQ ((0 : Int32)).toInt 0 := HQ.mk (by decide)
    have f3584 := eq32k rfl v3583.out c3582
    exact sFX7_setting_28 n hn v_bank a_unitMany a_settingMany a_shares z1 z2 z3 gM i0 i1 i2 i3 i4 i5
  · have v3585 : HQ ((0 : Int32)).toInt 0 := HQ.mk (by decide)
    have f3586 := neq32k rfl v3585.out c3582
    refine OK_bd (sX7_isKind n hn z3) (fun u_5 p_u_5 => ?_)
    obtain ⟨p3587, p3588, p3589⟩ := p_u_5
    refine OK_if (fun c3590 => ?_) (fun c3590 => ?_)
    · have f3591 := eq32k rfl v3585.out c3590
      exact sFX7_setting_28 n hn v_bank a_unitMany a_settingMany a_shares z1 z2 z3 gM i0 i1 i2 i3 i4 i5
    · have f3592 := neq32k rfl v3585.out c3590
      refine OK_if (fun c3593 => ?_) (fun c3593 => ?_)
      · have f3594 := lt32k rfl v3585.out c3593
        exact sFX7_setting_28 n hn v_bank a_unitMany a_settingMany a_shares z1 z2 z3 gM i0 i1 i2 i3 i4 i5
      · have f3595 := nlt32k rfl v3585.out c3593
        refine OK_bd (sX7_settings n hn v_bank a_settingMany z1 i0 i1 (by omega) (by omega) i5) (fun u_9 p_u_9 => ?_)
        obtain ⟨p3596, p3597⟩ := p_u_9
        refine OK_if (fun c3598 => ?_) (fun c3598 => ?_)
        · have f3599 := lt32k rfl rfl c3598
          refine OK_bd (sX7_goes n hn v_bank a_settingMany a_shares z1 z2 z3 i0 i1 (by omega) (by omega) (by omega) (by omega) (by omega) (by omega) i5) (fun u_12 p_u_12 => ?_)
          exact OK_some trivial
        · have f3600 := nlt32k rfl rfl c3598
          exact sFX7_setting_28 n hn v_bank a_unitMany a_settingMany a_shares z1 z2 z3 gM i0 i1 i2 i3 i4 i5
set_option maxHeartbeats 2000000 in
theorem sX7_choose (n : Nat) (hn : n = 2200000000) (v_bank : Int32) (a_unitMany : Nat → Int32) (a_settingMany : Nat → Int32) (a_chosen : Nat → Int32) (z1 : Int32) (z2 : Int32) (gM : Int) (i0 : 0 ≤ (v_bank).toInt) (i1 : (v_bank).toInt ≤ 1) (i2 : ∀ i : Nat, ((i : Int) = (v_bank).toInt) → ((a_unitMany i).toInt = gM)) (i3 : 0 ≤ gM) (i4 : gM ≤ 5) (i5 : ∀ i : Nat, (i < 10) → (0 ≤ (a_settingMany i).toInt ∧ (a_settingMany i).toInt ≤ 3)) (i6 : ∀ i : Nat, (i < 5) → (0 ≤ (a_chosen i).toInt ∧ (a_chosen i).toInt ≤ 2)) : OK (FX7_choose n v_bank a_unitMany a_settingMany a_chosen z1 z2) (fun u => (∀ i : Nat, (i < 5) → (0 ≤ (u.2 i).toInt ∧ (u.2 i).toInt ≤ 2))) := by
  unfold FX7_choose
  refine OK_bd (sX7_isUnit n hn v_bank a_unitMany z1 (gM) i0 i1 (by
      intro i hi
      have f3601 := i2 i
      omega) (by omega) (by omega)) (fun u_2 p_u_2 => ?_)
  have p3602 := p_u_2
  clear p_u_2
  refine OK_if (fun c3603 => ?_) (fun c3603 => ?_)
  · have v3604 : HQ ((0 : Int32)).toInt 0 := HQ.mk (by decide)
    have f3605 := eq32k rfl v3604.out c3603
    exact OK_some (show (∀ i : Nat, (i < 5) → (0 ≤ (a_chosen i).toInt ∧ (a_chosen i).toInt ≤ 2)) from i6)
  · have v3606 : HQ ((0 : Int32)).toInt 0 := HQ.mk (by decide)
    have f3607 := neq32k rfl v3606.out c3603
    refine OK_if (fun c3608 => ?_) (fun c3608 => ?_)
    · have f3609 := lt32k rfl v3606.out c3608
      exact OK_some (show (∀ i : Nat, (i < 5) → (0 ≤ (a_chosen i).toInt ∧ (a_chosen i).toInt ≤ 2)) from i6)
    · have f3610 := nlt32k rfl v3606.out c3608
      refine OK_bd (sX7_settings n hn v_bank a_settingMany z1 i0 i1 (by omega) (by omega) i5) (fun u_6 p_u_6 => ?_)
      obtain ⟨p3611, p3612⟩ := p_u_6
      refine OK_if (fun c3613 => ?_) (fun c3613 => ?_)
      · have f3614 := lt32k rfl rfl c3613
        refine OK_ck (ckV rfl (by omega) (by omega)) ?_
        obtain ⟨m3615, v3616, f3617⟩ := tnV (e := z1) rfl (by omega)
        refine OK_lt (fun f_9 e_f_9 => ?_)
        rw [v3616.out] at e_f_9
        exact OK_some (show (∀ i : Nat, (i < 5) → (0 ≤ (f_9 i).toInt ∧ (f_9 i).toInt ≤ 2)) from (by
            intro i hi
            have f3618 := updW e_f_9 rfl i
            have f3619 := i6 i
            omega))
      · have f3620 := nlt32k rfl rfl c3613
        exact OK_some (show (∀ i : Nat, (i < 5) → (0 ≤ (a_chosen i).toInt ∧ (a_chosen i).toInt ≤ 2)) from i6)
