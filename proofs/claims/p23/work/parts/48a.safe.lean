set_option maxHeartbeats 2000000 in
theorem sX7_isUnit (n : Nat) (hn : n = 2200000000) (v_bank : Int32) (a_unitMany : Nat → Int32) (z1 : Int32) (gM : Int) (i0 : 0 ≤ (v_bank).toInt) (i1 : (v_bank).toInt ≤ 1) (i2 : ∀ i : Nat, ((i : Int) = (v_bank).toInt) → ((a_unitMany i).toInt = gM)) (i3 : 0 ≤ gM) (i4 : gM ≤ 5) : OK (FX7_isUnit n v_bank a_unitMany z1) (fun u => ((u.1).toInt ≠ 0 → (0 ≤ (z1).toInt ∧ (z1).toInt < gM))) := by
  unfold FX7_isUnit
  refine OK_if (fun c3492 => ?_) (fun c3492 => ?_)
  · have v3493 : HQ ((0 : Int32)).toInt 0 := HQ.mk (by decide)
    have f3494 := lt32k rfl v3493.out c3492
    exact OK_some (show (((0 : Int32)).toInt ≠ 0 → (0 ≤ (z1).toInt ∧ (z1).toInt < gM)) from (by (rw [v3493.out]) <;> omega))
  · have v3495 : HQ ((0 : Int32)).toInt 0 := HQ.mk (by decide)
    have f3496 := nlt32k rfl v3495.out c3492
    refine OK_ck (ckV rfl (by omega) (by omega)) ?_
    refine OK_if (fun c3497 => ?_) (fun c3497 => ?_)
    · obtain ⟨m3498, v3499, f3500⟩ := tnV (e := v_bank) rfl (by omega)
      have v3501 : HQ ((a_unitMany ((v_bank).toNatClampNeg))).toInt (a_unitMany m3498).toInt := HQ.mk (by rw [v3499.out])
      have f3502 := i2 m3498
      have f3503 := le32k v3501.out rfl c3497
      exact OK_some (show (((0 : Int32)).toInt ≠ 0 → (0 ≤ (z1).toInt ∧ (z1).toInt < gM)) from (by (rw [v3495.out]) <;> omega))
    · obtain ⟨m3504, v3505, f3506⟩ := tnV (e := v_bank) rfl (by omega)
      have v3507 : HQ ((a_unitMany ((v_bank).toNatClampNeg))).toInt (a_unitMany m3504).toInt := HQ.mk (by rw [v3505.out])
      have f3508 := i2 m3504
      have f3509 := nle32k v3507.out rfl c3497
      have v3510 : HQ ((1 : Int32)).toInt 1 := HQ.mk (by decide)
      exact OK_some (show (((1 : Int32)).toInt ≠ 0 → (0 ≤ (z1).toInt ∧ (z1).toInt < gM)) from (by (rw [v3510.out]) <;> omega))
set_option maxHeartbeats 2000000 in
theorem sX7_settings (n : Nat) (hn : n = 2200000000) (v_bank : Int32) (a_settingMany : Nat → Int32) (z1 : Int32) (i0 : 0 ≤ (v_bank).toInt) (i1 : (v_bank).toInt ≤ 1) (i2 : 0 ≤ (z1).toInt) (i3 : (z1).toInt ≤ 4) (i4 : ∀ i : Nat, (i < 10) → (0 ≤ (a_settingMany i).toInt ∧ (a_settingMany i).toInt ≤ 3)) : OK (FX7_settings n v_bank a_settingMany z1) (fun u => (1 ≤ (u.1).toInt) ∧ ((u.1).toInt ≤ 3)) := by
  unfold FX7_settings
  have v3511 : HQ ((5 : Int32)).toInt 5 := HQ.mk (by decide)
  have v3512 : HQ (((5 : Int32) * v_bank)).toInt (5 * (v_bank).toInt) := HQ.mk (mulV v3511.out rfl (by omega) (by omega))
  have v3513 : HQ ((((5 : Int32) * v_bank) + z1)).toInt ((5 * (v_bank).toInt) + (z1).toInt) := HQ.mk (addV v3512.out rfl (by omega) (by omega))
  refine OK_ck (ckV v3513.out (by omega) (by omega)) ?_
  refine OK_if (fun c3514 => ?_) (fun c3514 => ?_)
  · obtain ⟨m3515, v3516, f3517⟩ := tnV (e := (((5 : Int32) * v_bank) + z1)) v3513.out (by omega)
    have v3518 : HQ ((a_settingMany (((((5 : Int32) * v_bank) + z1)).toNatClampNeg))).toInt (a_settingMany m3515).toInt := HQ.mk (by rw [v3516.out])
    have f3519 := i4 m3515
    have v3520 : HQ ((0 : Int32)).toInt 0 := HQ.mk (by decide)
    have f3521 := le32k v3518.out v3520.out c3514
    have v3522 : HQ ((1 : Int32)).toInt 1 := HQ.mk (by decide)
    exact OK_some (show (1 ≤ ((1 : Int32)).toInt) ∧ (((1 : Int32)).toInt ≤ 3) from ⟨(by (rw [v3522.out]) <;> omega), (by (rw [v3522.out]) <;> omega)⟩)
  · obtain ⟨m3523, v3524, f3525⟩ := tnV (e := (((5 : Int32) * v_bank) + z1)) v3513.out (by omega)
    have v3526 : HQ ((a_settingMany (((((5 : Int32) * v_bank) + z1)).toNatClampNeg))).toInt (a_settingMany m3523).toInt := HQ.mk (by rw [v3524.out])
    have f3527 := i4 m3523
    have v3528 : HQ ((0 : Int32)).toInt 0 := HQ.mk (by decide)
    have f3529 := nle32k v3526.out v3528.out c3514
    refine OK_ck (ckV v3513.out (by omega) (by omega)) ?_
    exact OK_some (show (1 ≤ ((a_settingMany (((((5 : Int32) * v_bank) + z1)).toNatClampNeg))).toInt) ∧ (((a_settingMany (((((5 : Int32) * v_bank) + z1)).toNatClampNeg))).toInt ≤ 3) from ⟨(by (rw [v3526.out]) <;> omega), (by (rw [v3526.out]) <;> omega)⟩)
set_option maxHeartbeats 2000000 in
theorem sX7_goes (n : Nat) (hn : n = 2200000000) (v_bank : Int32) (a_settingMany : Nat → Int32) (a_shares : Nat → Int32) (z1 : Int32) (z2 : Int32) (z3 : Int32) (i0 : 0 ≤ (v_bank).toInt) (i1 : (v_bank).toInt ≤ 1) (i2 : 0 ≤ (z1).toInt) (i3 : (z1).toInt ≤ 4) (i4 : 0 ≤ (z2).toInt) (i5 : (z2).toInt ≤ 2) (i6 : 0 ≤ (z3).toInt) (i7 : (z3).toInt ≤ 4) (i8 : ∀ i : Nat, (i < 10) → (0 ≤ (a_settingMany i).toInt ∧ (a_settingMany i).toInt ≤ 3)) : OK (FX7_goes n v_bank a_settingMany a_shares z1 z2 z3) (fun u => True) := by
  unfold FX7_goes
  have v3530 : HQ ((5 : Int32)).toInt 5 := HQ.mk (by decide)
  have v3531 : HQ (((5 : Int32) * v_bank)).toInt (5 * (v_bank).toInt) := HQ.mk (mulV v3530.out rfl (by omega) (by omega))
  have v3532 : HQ ((((5 : Int32) * v_bank) + z1)).toInt ((5 * (v_bank).toInt) + (z1).toInt) := HQ.mk (addV v3531.out rfl (by omega) (by omega))
  refine OK_ck (ckV v3532.out (by omega) (by omega)) ?_
  refine OK_if (fun c3533 => ?_) (fun c3533 => ?_)
  · obtain ⟨m3534, v3535, f3536⟩ := tnV (e := (((5 : Int32) * v_bank) + z1)) v3532.out (by omega)
    have v3537 : HQ ((a_settingMany (((((5 : Int32) * v_bank) + z1)).toNatClampNeg))).toInt (a_settingMany m3534).toInt := HQ.mk (by rw [v3535.out])
    have f3538 := i8 m3534
    have v3539 : HQ ((0 : Int32)).toInt 0 := HQ.mk (by decide)
    have f3540 := eq32k v3537.out v3539.out c3533
    exact OK_some trivial
  · obtain ⟨m3541, v3542, f3543⟩ := tnV (e := (((5 : Int32) * v_bank) + z1)) v3532.out (by omega)
    have v3544 : HQ ((a_settingMany (((((5 : Int32) * v_bank) + z1)).toNatClampNeg))).toInt (a_settingMany m3541).toInt := HQ.mk (by rw [v3542.out])
    have f3545 := i8 m3541
    have v3546 : HQ ((0 : Int32)).toInt 0 := HQ.mk (by decide)
    have f3547 := neq32k v3544.out v3546.out c3533
    have v3548 : HQ ((15 : Int32)).toInt 15 := HQ.mk (by decide)
    have v3549 : HQ (((15 : Int32) * (((5 : Int32) * v_bank) + z1))).toInt (15 * ((5 * (v_bank).toInt) + (z1).toInt)) := HQ.mk (mulV v3548.out v3532.out (by omega) (by omega))
    have v3550 : HQ (((5 : Int32) * z2)).toInt (5 * (z2).toInt) := HQ.mk (mulV v3530.out rfl (by omega) (by omega))
    have v3551 : HQ ((((15 : Int32) * (((5 : Int32) * v_bank) + z1)) + ((5 : Int32) * z2))).toInt ((15 * ((5 * (v_bank).toInt) + (z1).toInt)) + (5 * (z2).toInt)) := HQ.mk (addV v3549.out v3550.out (by omega) (by omega))
    have v3552 : HQ (((((15 : Int32) * (((5 : Int32) * v_bank) + z1)) + ((5 : Int32) * z2)) + z3)).toInt (((15 * ((5 * (v_bank).toInt) + (z1).toInt)) + (5 * (z2).toInt)) + (z3).toInt) := HQ.mk (addV v3551.out rfl (by omega) (by omega))
    refine OK_ck (ckV v3552.out (by omega) (by omega)) ?_
    exact OK_some trivial
set_option maxHeartbeats 2000000 in
theorem sX7_unit (n : Nat) (hn : n = 2200000000) (v_bank : Int32) (a_unitMany : Nat → Int32) (a_chosen : Nat → Int32) (a_noTo : Nat → Int32) (a_yesTo : Nat → Int32) (a_settingMany : Nat → Int32) (z1 : Int32) (z2 : Int32) (gM : Int) (i0 : 0 ≤ (v_bank).toInt) (i1 : (v_bank).toInt ≤ 1) (i2 : ∀ i : Nat, ((i : Int) = (v_bank).toInt) → ((a_unitMany i).toInt = gM)) (i3 : 0 ≤ gM) (i4 : gM ≤ 5) (i5 : ∀ i : Nat, (i < 10) → (0 ≤ (a_settingMany i).toInt ∧ (a_settingMany i).toInt ≤ 3)) : OK (FX7_unit n v_bank a_unitMany a_chosen a_noTo a_yesTo a_settingMany z1 z2) (fun u => True) := by
  unfold FX7_unit
  refine OK_bd (sX7_isUnit n hn v_bank a_unitMany z1 (gM) i0 i1 (by
      intro i hi
      have f3553 := i2 i
      omega) (by omega) (by omega)) (fun u_2 p_u_2 => ?_)
  have p3554 := p_u_2
  clear p_u_2
  refine OK_if (fun c3555 => ?_) (fun c3555 => ?_)
  · have v3556 : HQ ((0 : Int32)).toInt 0 := HQ.mk (by decide)
    have f3557 := eq32k rfl v3556.out c3555
    exact OK_some trivial
  · have v3558 : HQ ((0 : Int32)).toInt 0 := HQ.mk (by decide)
    have f3559 := neq32k rfl v3558.out c3555
    refine OK_if (fun c3560 => ?_) (fun c3560 => ?_)
    · have f3561 := eq32k rfl v3558.out c3560
      refine OK_bd (sX7_settings n hn v_bank a_settingMany z1 i0 i1 (by omega) (by omega) i5) (fun u_6 p_u_6 => ?_)
      obtain ⟨p3562, p3563⟩ := p_u_6
      exact OK_some trivial
    · have f3564 := neq32k rfl v3558.out c3560
      refine OK_if (fun c3565 => ?_) (fun c3565 => ?_)
      · have v3566 : HQ ((1 : Int32)).toInt 1 := HQ.mk (by decide)
        have f3567 := eq32k rfl v3566.out c3565
        have v3568 : HQ ((5 : Int32)).toInt 5 := HQ.mk (by decide)
        have v3569 : HQ (((5 : Int32) * v_bank)).toInt (5 * (v_bank).toInt) := HQ.mk (mulV v3568.out rfl (by omega) (by omega))
        have v3570 : HQ ((((5 : Int32) * v_bank) + z1)).toInt ((5 * (v_bank).toInt) + (z1).toInt) := HQ.mk (addV v3569.out rfl (by omega) (by omega))
        refine OK_ck (ckV v3570.out (by omega) (by omega)) ?_
        exact OK_some trivial
      · have v3571 : HQ ((1 : Int32)).toInt 1 := HQ.mk (by decide)
        have f3572 := neq32k rfl v3571.out c3565
        refine OK_if (fun c3573 => ?_) (fun c3573 => ?_)
        · have v3574 : HQ ((2 : Int32)).toInt 2 := HQ.mk (by decide)
          have f3575 := eq32k rfl v3574.out c3573
          have v3576 : HQ ((5 : Int32)).toInt 5 := HQ.mk (by decide)
          have v3577 : HQ (((5 : Int32) * v_bank)).toInt (5 * (v_bank).toInt) := HQ.mk (mulV v3576.out rfl (by omega) (by omega))
          have v3578 : HQ ((((5 : Int32) * v_bank) + z1)).toInt ((5 * (v_bank).toInt) + (z1).toInt) := HQ.mk (addV v3577.out rfl (by omega) (by omega))
          refine OK_ck (ckV v3578.out (by omega) (by omega)) ?_
          exact OK_some trivial
        · have v3579 : HQ ((2 : Int32)).toInt 2 := HQ.mk (by decide)
          have f3580 := neq32k rfl v3579.out c3573
          refine OK_if (fun c3581 => ?_) (fun c3581 => ?_)
          · have v3582 : HQ ((3 : Int32)).toInt 3 := HQ.mk (by decide)
            have f3583 := eq32k rfl v3582.out c3581
            refine OK_ck (ckV rfl (by omega) (by omega)) ?_
            exact OK_some trivial
          · have v3584 : HQ ((3 : Int32)).toInt 3 := HQ.mk (by decide)
            have f3585 := neq32k rfl v3584.out c3581
            exact OK_some trivial
set_option maxHeartbeats 2000000 in
theorem sFX7_setting_28 (n : Nat) (hn : n = 2200000000) (v_bank : Int32) (a_unitMany : Nat → Int32) (a_settingMany : Nat → Int32) (a_shares : Nat → Int32) (z1 : Int32) (z2 : Int32) (z3 : Int32) (gM : Int) (i0 : 0 ≤ (v_bank).toInt) (i1 : (v_bank).toInt ≤ 1) (i2 : ∀ i : Nat, ((i : Int) = (v_bank).toInt) → ((a_unitMany i).toInt = gM)) (i3 : 0 ≤ gM) (i4 : gM ≤ 5) (i5 : ∀ i : Nat, (i < 10) → (0 ≤ (a_settingMany i).toInt ∧ (a_settingMany i).toInt ≤ 3)) : OK (FX7_setting_28 n v_bank a_unitMany a_settingMany a_shares z1 z2 z3) (fun u => True) := by
  unfold FX7_setting_28
  exact OK_some trivial
set_option maxHeartbeats 2000000 in
theorem sX7_setting (n : Nat) (hn : n = 2200000000) (v_bank : Int32) (a_unitMany : Nat → Int32) (a_settingMany : Nat → Int32) (a_shares : Nat → Int32) (z1 : Int32) (z2 : Int32) (z3 : Int32) (gM : Int) (i0 : 0 ≤ (v_bank).toInt) (i1 : (v_bank).toInt ≤ 1) (i2 : ∀ i : Nat, ((i : Int) = (v_bank).toInt) → ((a_unitMany i).toInt = gM)) (i3 : 0 ≤ gM) (i4 : gM ≤ 5) (i5 : ∀ i : Nat, (i < 10) → (0 ≤ (a_settingMany i).toInt ∧ (a_settingMany i).toInt ≤ 3)) : OK (FX7_setting n v_bank a_unitMany a_settingMany a_shares z1 z2 z3) (fun u => True) := by
  unfold FX7_setting
  refine OK_bd (sX7_isUnit n hn v_bank a_unitMany z1 (gM) i0 i1 (by
      intro i hi
      have f3586 := i2 i
      omega) (by omega) (by omega)) (fun u_2 p_u_2 => ?_)
  have p3587 := p_u_2
  clear p_u_2
  refine OK_if (fun c3588 => ?_) (fun c3588 => ?_)
  · have v3589 : HQ ((0 : Int32)).toInt 0 := HQ.mk (by decide)
    have f3590 := eq32k rfl v3589.out c3588
    exact sFX7_setting_28 n hn v_bank a_unitMany a_settingMany a_shares z1 z2 z3 gM i0 i1 i2 i3 i4 i5
  · have v3591 : HQ ((0 : Int32)).toInt 0 := HQ.mk (by decide)
    have f3592 := neq32k rfl v3591.out c3588
    refine OK_bd (sX7_isKind n hn z3) (fun u_5 p_u_5 => ?_)
    obtain ⟨p3593, p3594, p3595⟩ := p_u_5
    refine OK_if (fun c3596 => ?_) (fun c3596 => ?_)
    · have f3597 := eq32k rfl v3591.out c3596
      exact sFX7_setting_28 n hn v_bank a_unitMany a_settingMany a_shares z1 z2 z3 gM i0 i1 i2 i3 i4 i5
    · have f3598 := neq32k rfl v3591.out c3596
      refine OK_if (fun c3599 => ?_) (fun c3599 => ?_)
      · have f3600 := lt32k rfl v3591.out c3599
        exact sFX7_setting_28 n hn v_bank a_unitMany a_settingMany a_shares z1 z2 z3 gM i0 i1 i2 i3 i4 i5
      · have f3601 := nlt32k rfl v3591.out c3599
        refine OK_bd (sX7_settings n hn v_bank a_settingMany z1 i0 i1 (by omega) (by omega) i5) (fun u_9 p_u_9 => ?_)
        obtain ⟨p3602, p3603⟩ := p_u_9
        refine OK_if (fun c3604 => ?_) (fun c3604 => ?_)
        · have f3605 := lt32k rfl rfl c3604
          refine OK_bd (sX7_goes n hn v_bank a_settingMany a_shares z1 z2 z3 i0 i1 (by omega) (by omega) (by omega) (by omega) (by omega) (by omega) i5) (fun u_12 p_u_12 => ?_)
          exact OK_some trivial
        · have f3606 := nlt32k rfl rfl c3604
          exact sFX7_setting_28 n hn v_bank a_unitMany a_settingMany a_shares z1 z2 z3 gM i0 i1 i2 i3 i4 i5
set_option maxHeartbeats 2000000 in
theorem sX7_choose (n : Nat) (hn : n = 2200000000) (v_bank : Int32) (a_unitMany : Nat → Int32) (a_settingMany : Nat → Int32) (a_chosen : Nat → Int32) (z1 : Int32) (z2 : Int32) (gM : Int) (i0 : 0 ≤ (v_bank).toInt) (i1 : (v_bank).toInt ≤ 1) (i2 : ∀ i : Nat, ((i : Int) = (v_bank).toInt) → ((a_unitMany i).toInt = gM)) (i3 : 0 ≤ gM) (i4 : gM ≤ 5) (i5 : ∀ i : Nat, (i < 10) → (0 ≤ (a_settingMany i).toInt ∧ (a_settingMany i).toInt ≤ 3)) (i6 : ∀ i : Nat, (i < 5) → (0 ≤ (a_chosen i).toInt ∧ (a_chosen i).toInt ≤ 2)) : OK (FX7_choose n v_bank a_unitMany a_settingMany a_chosen z1 z2) (fun u => (∀ i : Nat, (i < 5) → (0 ≤ (u.2 i).toInt ∧ (u.2 i).toInt ≤ 2))) := by
  unfold FX7_choose
  refine OK_bd (sX7_isUnit n hn v_bank a_unitMany z1 (gM) i0 i1 (by
      intro i hi
      have f3607 := i2 i
      omega) (by omega) (by omega)) (fun u_2 p_u_2 => ?_)
  have p3608 := p_u_2
  clear p_u_2
  refine OK_if (fun c3609 => ?_) (fun c3609 => ?_)
  · have v3610 : HQ ((0 : Int32)).toInt 0 := HQ.mk (by decide)
    have f3611 := eq32k rfl v3610.out c3609
    exact OK_some (show (∀ i : Nat, (i < 5) → (0 ≤ (a_chosen i).toInt ∧ (a_chosen i).toInt ≤ 2)) from i6)
  · have v3612 : HQ ((0 : Int32)).toInt 0 := HQ.mk (by decide)
    have f3613 := neq32k rfl v3612.out c3609
    refine OK_if (fun c3614 => ?_) (fun c3614 => ?_)
    · have f3615 := lt32k rfl v3612.out c3614
      exact OK_some (show (∀ i : Nat, (i < 5) → (0 ≤ (a_chosen i).toInt ∧ (a_chosen i).toInt ≤ 2)) from i6)
    · have f3616 := nlt32k rfl v3612.out c3614
      refine OK_bd (sX7_settings n hn v_bank a_settingMany z1 i0 i1 (by omega) (by omega) i5) (fun u_6 p_u_6 => ?_)
      obtain ⟨p3617, p3618⟩ := p_u_6
      refine OK_if (fun c3619 => ?_) (fun c3619 => ?_)
      · have f3620 := lt32k rfl rfl c3619
        refine OK_ck (ckV rfl (by omega) (by omega)) ?_
        obtain ⟨m3621, v3622, f3623⟩ := tnV (e := z1) rfl (by omega)
        refine OK_lt (fun f_9 e_f_9 => ?_)
        rw [v3622.out] at e_f_9
        exact OK_some (show (∀ i : Nat, (i < 5) → (0 ≤ (f_9 i).toInt ∧ (f_9 i).toInt ≤ 2)) from (by
            intro i hi
            have f3624 := updW e_f_9 rfl i
            have f3625 := i6 i
            omega))
      · have f3626 := nlt32k rfl rfl c3619
        exact OK_some (show (∀ i : Nat, (i < 5) → (0 ≤ (a_chosen i).toInt ∧ (a_chosen i).toInt ≤ 2)) from i6)
