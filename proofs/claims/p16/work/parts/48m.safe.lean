set_option maxHeartbeats 2000000 in
theorem sX7_about (n : Nat) (hn : n = 2200000000) (v_taped : Int32) (v_bank : Int32) (v_lorries : Int32) (v_cost : Int32) (a_gradeMany : Nat → Int32) (a_unitMany : Nat → Int32) (z1 : Int32) (i0 : 0 ≤ (v_bank).toInt) (i1 : (v_bank).toInt ≤ 1) : OK (FX7_about n v_taped v_bank v_lorries v_cost a_gradeMany a_unitMany z1) (fun u => True) := by
  unfold FX7_about
  refine OK_if (fun c4534 => ?_) (fun c4534 => ?_)
  · have v4535 : HQ ((0 : Int32)).toInt 0 := HQ.mk (by decide)
    have f4536 := eq32k rfl v4535.out c4534
    refine OK_ck (ckV rfl (by omega) (by omega)) ?_
    exact OK_some trivial
  · have v4537 : HQ ((0 : Int32)).toInt 0 := HQ.mk (by decide)
    have f4538 := neq32k rfl v4537.out c4534
    refine OK_if (fun c4539 => ?_) (fun c4539 => ?_)
    · have v4540 : HQ ((1 : Int32)).toInt 1 := HQ.mk (by decide)
      have f4541 := eq32k rfl v4540.out c4539
      exact OK_some trivial
    · have v4542 : HQ ((1 : Int32)).toInt 1 := HQ.mk (by decide)
      have f4543 := neq32k rfl v4542.out c4539
      refine OK_if (fun c4544 => ?_) (fun c4544 => ?_)
      · have v4545 : HQ ((2 : Int32)).toInt 2 := HQ.mk (by decide)
        have f4546 := eq32k rfl v4545.out c4544
        exact OK_some trivial
      · have v4547 : HQ ((2 : Int32)).toInt 2 := HQ.mk (by decide)
        have f4548 := neq32k rfl v4547.out c4544
        refine OK_if (fun c4549 => ?_) (fun c4549 => ?_)
        · have v4550 : HQ ((3 : Int32)).toInt 3 := HQ.mk (by decide)
          have f4551 := eq32k rfl v4550.out c4549
          exact OK_some trivial
        · have v4552 : HQ ((3 : Int32)).toInt 3 := HQ.mk (by decide)
          have f4553 := neq32k rfl v4552.out c4549
          refine OK_if (fun c4554 => ?_) (fun c4554 => ?_)
          · have v4555 : HQ ((10 : Int32)).toInt 10 := HQ.mk (by decide)
            have f4556 := lt32k rfl v4555.out c4554
            exact OK_some trivial
          · have v4557 : HQ ((10 : Int32)).toInt 10 := HQ.mk (by decide)
            have f4558 := nlt32k rfl v4557.out c4554
            refine OK_if (fun c4559 => ?_) (fun c4559 => ?_)
            · have v4560 : HQ ((14 : Int32)).toInt 14 := HQ.mk (by decide)
              have f4561 := le32k v4560.out rfl c4559
              exact OK_some trivial
            · have v4562 : HQ ((14 : Int32)).toInt 14 := HQ.mk (by decide)
              have f4563 := nle32k v4562.out rfl c4559
              have v4564 : HQ ((4 : Int32)).toInt 4 := HQ.mk (by decide)
              have v4565 : HQ (((4 : Int32) * v_bank)).toInt (4 * (v_bank).toInt) := HQ.mk (mulV v4564.out rfl (by omega) (by omega))
              have v4566 : HQ ((((4 : Int32) * v_bank) + z1)).toInt ((4 * (v_bank).toInt) + (z1).toInt) := HQ.mk (addV v4565.out rfl (by omega) (by omega))
              have v4567 : HQ (((((4 : Int32) * v_bank) + z1) - (10 : Int32))).toInt (((4 * (v_bank).toInt) + (z1).toInt) - 10) := HQ.mk (subV v4566.out v4557.out (by omega) (by omega))
              refine OK_ck (ckV v4567.out (by omega) (by omega)) ?_
              exact OK_some trivial
set_option maxHeartbeats 2000000 in
theorem sX7_fault (n : Nat) (hn : n = 2200000000) (v_faultKind : Int32) (v_faultPlace : Int32) (z1 : Int32) : OK (FX7_fault n v_faultKind v_faultPlace z1) (fun u => True) := by
  unfold FX7_fault
  refine OK_if (fun c4568 => ?_) (fun c4568 => ?_)
  · have v4569 : HQ ((0 : Int32)).toInt 0 := HQ.mk (by decide)
    have f4570 := eq32k rfl v4569.out c4568
    exact OK_some trivial
  · have v4571 : HQ ((0 : Int32)).toInt 0 := HQ.mk (by decide)
    have f4572 := neq32k rfl v4571.out c4568
    refine OK_if (fun c4573 => ?_) (fun c4573 => ?_)
    · have v4574 : HQ ((1 : Int32)).toInt 1 := HQ.mk (by decide)
      have f4575 := eq32k rfl v4574.out c4573
      exact OK_some trivial
    · have v4576 : HQ ((1 : Int32)).toInt 1 := HQ.mk (by decide)
      have f4577 := neq32k rfl v4576.out c4573
      exact OK_some trivial
set_option maxHeartbeats 2000000 in
theorem sFX7_feed_71 (n : Nat) (hn : n = 2200000000) (z1 : Int32) (z2 : Int32) (z3 : Int32) (z4 : Int32) (z5 : Int32) (k18 : Int32 → (Nat → Int32) → Int32 → Int32 → Int32 → Int32 → Int32 → Int32 → Option (Int32 × Int32 × (Nat → Int32))) (mB18 : Nat) (hk18 : ∀ (v_taped : Int32) (a_tape : Nat → Int32) (x1 : Int32) (x2 : Int32) (x3 : Int32) (x4 : Int32) (x5 : Int32) (x6 : Int32), (0 ≤ (v_taped).toInt) → ((v_taped).toInt ≤ 1200) → ((v_taped).toInt ≤ 1180) → (0 ≤ (x6).toInt) → ((x6).toInt ≤ 20) → (20 - (x6).toInt).toNat < mB18 → OK (k18 v_taped a_tape x1 x2 x3 x4 x5 x6) (fun u => (0 ≤ (u.2.1).toInt) ∧ ((u.2.1).toInt ≤ 1200))) (v_taped : Int32) (a_tape : Nat → Int32) (x1 : Int32) (x2 : Int32) (x3 : Int32) (x4 : Int32) (x5 : Int32) (x6 : Int32) (y0 : Int32) (i0 : 0 ≤ (v_taped).toInt) (i1 : (v_taped).toInt ≤ 1200) (i2 : (v_taped).toInt ≤ 1180) (i3 : 0 ≤ (x6).toInt) (i4 : (x6).toInt ≤ 19) (i5 : (20 - (x6).toInt).toNat ≤ mB18) : OK (FX7_feed_71 n z1 z2 z3 z4 z5 k18 v_taped a_tape x1 x2 x3 x4 x5 x6 y0) (fun u => (0 ≤ (u.2.1).toInt) ∧ ((u.2.1).toInt ≤ 1200)) := by
  unfold FX7_feed_71
  obtain ⟨y4578, v4579⟩ := HQ.any (((y0 >>> (((24 : Int32) - ((8 : Int32) * (x6 &&& (3 : Int32)))) &&& 31))).toInt8.toInt32).toInt
  refine OK_lt (fun x_8 e_x_8 => ?_)
  have f4580 : (x_8).toInt = y4578 := by rw [e_x_8]; exact v4579.out
  have v4581 : HQ ((v_taped + x6)).toInt ((v_taped).toInt + (x6).toInt) := HQ.mk (addV rfl rfl (by omega) (by omega))
  refine OK_ck (ckV v4581.out (by omega) (by omega)) ?_
  obtain ⟨m4582, v4583, f4584⟩ := tnV (e := (v_taped + x6)) v4581.out (by omega)
  obtain ⟨y4585, v4586⟩ := HQ.any ((vp_nar .byte x_8)).toInt
  refine OK_lt (fun f_10 e_f_10 => ?_)
  rw [v4583.out] at e_f_10
  have v4587 : HQ ((1 : Int32)).toInt 1 := HQ.mk (by decide)
  have v4588 : HQ ((x6 + (1 : Int32))).toInt ((x6).toInt + 1) := HQ.mk (addV rfl v4587.out (by omega) (by omega))
  refine OK_lt (fun x_11 e_x_11 => ?_)
  have f4589 : (x_11).toInt = ((x6).toInt + 1) := by rw [e_x_11]; exact v4588.out
  exact hk18 v_taped f_10 x1 x2 x3 x4 x5 x_11 i0 i1 i2 (by omega) (by omega) (by omega)
set_option maxHeartbeats 2000000 in
theorem sFX7_feed_18 (n : Nat) (hn : n = 2200000000) (z1 : Int32) (z2 : Int32) (z3 : Int32) (z4 : Int32) (z5 : Int32) (k18 : Int32 → (Nat → Int32) → Int32 → Int32 → Int32 → Int32 → Int32 → Int32 → Option (Int32 × Int32 × (Nat → Int32))) (mB18 : Nat) (hk18 : ∀ (v_taped : Int32) (a_tape : Nat → Int32) (x1 : Int32) (x2 : Int32) (x3 : Int32) (x4 : Int32) (x5 : Int32) (x6 : Int32), (0 ≤ (v_taped).toInt) → ((v_taped).toInt ≤ 1200) → ((v_taped).toInt ≤ 1180) → (0 ≤ (x6).toInt) → ((x6).toInt ≤ 20) → (20 - (x6).toInt).toNat < mB18 → OK (k18 v_taped a_tape x1 x2 x3 x4 x5 x6) (fun u => (0 ≤ (u.2.1).toInt) ∧ ((u.2.1).toInt ≤ 1200))) (v_taped : Int32) (a_tape : Nat → Int32) (x1 : Int32) (x2 : Int32) (x3 : Int32) (x4 : Int32) (x5 : Int32) (x6 : Int32) (i0 : 0 ≤ (v_taped).toInt) (i1 : (v_taped).toInt ≤ 1200) (i2 : (v_taped).toInt ≤ 1180) (i3 : 0 ≤ (x6).toInt) (i4 : (x6).toInt ≤ 20) (hmu : (20 - (x6).toInt).toNat ≤ mB18) : OK (FX7_feed_18 n z1 z2 z3 z4 z5 k18 v_taped a_tape x1 x2 x3 x4 x5 x6) (fun u => (0 ≤ (u.2.1).toInt) ∧ ((u.2.1).toInt ≤ 1200)) := by
  unfold FX7_feed_18
  refine OK_if (fun c4590 => ?_) (fun c4590 => ?_)
  · have v4591 : HQ ((20 : Int32)).toInt 20 := HQ.mk (by decide)
    have f4592 := le32k v4591.out rfl c4590
    have v4593 : HQ ((v_taped + (20 : Int32))).toInt ((v_taped).toInt + 20) := HQ.mk (addV rfl v4591.out (by omega) (by omega))
    refine OK_lt (fun x_3 e_x_3 => ?_)
    have f4594 : (x_3).toInt = ((v_taped).toInt + 20) := by rw [e_x_3]; exact v4593.out
    exact OK_some (show (0 ≤ (x_3).toInt) ∧ ((x_3).toInt ≤ 1200) from ⟨(by omega), (by omega)⟩)
  · have v4595 : HQ ((20 : Int32)).toInt 20 := HQ.mk (by decide)
    have f4596 := nle32k v4595.out rfl c4590
    refine OK_if (fun c4597 => ?_) (fun c4597 => ?_)
    · have v4598 : HQ ((4 : Int32)).toInt 4 := HQ.mk (by decide)
      have f4599 := le32k v4598.out rfl c4597
      refine OK_if (fun c4600 => ?_) (fun c4600 => ?_)
      · have v4601 : HQ ((8 : Int32)).toInt 8 := HQ.mk (by decide)
        have f4602 := le32k v4601.out rfl c4600
        refine OK_if (fun c4603 => ?_) (fun c4603 => ?_)
        · have v4604 : HQ ((12 : Int32)).toInt 12 := HQ.mk (by decide)
          have f4605 := le32k v4604.out rfl c4603
          refine OK_if (fun c4606 => ?_) (fun c4606 => ?_)
          · have v4607 : HQ ((16 : Int32)).toInt 16 := HQ.mk (by decide)
            have f4608 := le32k v4607.out rfl c4606
            exact sFX7_feed_71 n hn z1 z2 z3 z4 z5 k18 mB18 hk18 v_taped a_tape x1 x2 x3 x4 x5 x6 x5 i0 i1 i2 i3 (by omega) (by omega)
          · have v4609 : HQ ((16 : Int32)).toInt 16 := HQ.mk (by decide)
            have f4610 := nle32k v4609.out rfl c4606
            exact sFX7_feed_71 n hn z1 z2 z3 z4 z5 k18 mB18 hk18 v_taped a_tape x1 x2 x3 x4 x5 x6 x4 i0 i1 i2 i3 (by omega) (by omega)
        · have v4611 : HQ ((12 : Int32)).toInt 12 := HQ.mk (by decide)
          have f4612 := nle32k v4611.out rfl c4603
          exact sFX7_feed_71 n hn z1 z2 z3 z4 z5 k18 mB18 hk18 v_taped a_tape x1 x2 x3 x4 x5 x6 x3 i0 i1 i2 i3 (by omega) (by omega)
      · have v4613 : HQ ((8 : Int32)).toInt 8 := HQ.mk (by decide)
        have f4614 := nle32k v4613.out rfl c4600
        exact sFX7_feed_71 n hn z1 z2 z3 z4 z5 k18 mB18 hk18 v_taped a_tape x1 x2 x3 x4 x5 x6 x2 i0 i1 i2 i3 (by omega) (by omega)
    · have v4615 : HQ ((4 : Int32)).toInt 4 := HQ.mk (by decide)
      have f4616 := nle32k v4615.out rfl c4597
      exact sFX7_feed_71 n hn z1 z2 z3 z4 z5 k18 mB18 hk18 v_taped a_tape x1 x2 x3 x4 x5 x6 x1 i0 i1 i2 i3 (by omega) (by omega)
theorem sFX7_feed_18L (n : Nat) (hn : n = 2200000000) (z1 : Int32) (z2 : Int32) (z3 : Int32) (z4 : Int32) (z5 : Int32) : ∀ (j : Nat) (v_taped : Int32) (a_tape : Nat → Int32) (x1 : Int32) (x2 : Int32) (x3 : Int32) (x4 : Int32) (x5 : Int32) (x6 : Int32), (0 ≤ (v_taped).toInt) → ((v_taped).toInt ≤ 1200) → ((v_taped).toInt ≤ 1180) → (0 ≤ (x6).toInt) → ((x6).toInt ≤ 20) → (20 - (x6).toInt).toNat < j → OK (FX7_feed_18L n z1 z2 z3 z4 z5 j v_taped a_tape x1 x2 x3 x4 x5 x6) (fun u => (0 ≤ (u.2.1).toInt) ∧ ((u.2.1).toInt ≤ 1200)) := by
  intro j
  induction j with
  | zero => intro _ _ _ _ _ _ _ _ _ _ _ _ _ hj; exact absurd hj (Nat.not_lt_zero _)
  | succ j ih =>
    intro v_taped a_tape x1 x2 x3 x4 x5 x6 i0 i1 i2 i3 i4 hj
    exact sFX7_feed_18 n hn z1 z2 z3 z4 z5 (FX7_feed_18L n z1 z2 z3 z4 z5 j) ((20 - (x6).toInt).toNat) (fun y0 y1 y2 y3 y4 y5 y6 y7 w0 w1 w2 w3 w4 hlt => ih y0 y1 y2 y3 y4 y5 y6 y7 w0 w1 w2 w3 w4 (by omega)) v_taped a_tape x1 x2 x3 x4 x5 x6 i0 i1 i2 i3 i4 (Nat.le_refl _)
set_option maxHeartbeats 2000000 in
theorem sX7_feed (n : Nat) (hn : n = 2200000000) (v_taped : Int32) (a_tape : Nat → Int32) (z1 : Int32) (z2 : Int32) (z3 : Int32) (z4 : Int32) (z5 : Int32) (i0 : 0 ≤ (v_taped).toInt) (i1 : (v_taped).toInt ≤ 1200) : OK (FX7_feed n v_taped a_tape z1 z2 z3 z4 z5) (fun u => (0 ≤ (u.2.1).toInt) ∧ ((u.2.1).toInt ≤ 1200)) := by
  unfold FX7_feed
  refine OK_if (fun c4617 => ?_) (fun c4617 => ?_)
  · have v4618 : HQ ((20 : Int32)).toInt 20 := HQ.mk (by decide)
    have v4619 : HQ ((v_taped + (20 : Int32))).toInt ((v_taped).toInt + 20) := HQ.mk (addV rfl v4618.out (by omega) (by omega))
    have v4620 : HQ ((1200 : Int32)).toInt 1200 := HQ.mk (by decide)
    have f4621 := le32k v4619.out v4620.out c4617
    have v4622 : HQ ((0 : Int32)).toInt 0 := HQ.mk (by decide)
    exact sFX7_feed_18L n hn z1 z2 z3 z4 z5 n v_taped a_tape z1 z2 z3 z4 z5 (0 : Int32) i0 i1 (by omega) (by (rw [v4622.out]) <;> omega) (by (rw [v4622.out]) <;> omega) (by (rw [v4622.out]) <;> omega)
  · have v4623 : HQ ((20 : Int32)).toInt 20 := HQ.mk (by decide)
    have v4624 : HQ ((v_taped + (20 : Int32))).toInt ((v_taped).toInt + 20) := HQ.mk (addV rfl v4623.out (by omega) (by omega))
    have v4625 : HQ ((1200 : Int32)).toInt 1200 := HQ.mk (by decide)
    have f4626 := nle32k v4624.out v4625.out c4617
    exact OK_some (show (0 ≤ (v_taped).toInt) ∧ ((v_taped).toInt ≤ 1200) from ⟨i0, i1⟩)
set_option maxHeartbeats 2000000 in
theorem sX7_end (n : Nat) (hn : n = 2200000000) (v_taped : Int32) (z1 : Int32) (i0 : 0 ≤ (v_taped).toInt) (i1 : (v_taped).toInt ≤ 1200) : OK (FX7_end n v_taped z1) (fun u => (0 ≤ (u.2).toInt) ∧ ((u.2).toInt ≤ 1200)) := by
  unfold FX7_end
  refine OK_if (fun c4627 => ?_) (fun c4627 => ?_)
  · have v4628 : HQ ((0 : Int32)).toInt 0 := HQ.mk (by decide)
    have f4629 := lt32k rfl v4628.out c4627
    exact OK_some (show (0 ≤ (v_taped).toInt) ∧ ((v_taped).toInt ≤ 1200) from ⟨i0, i1⟩)
  · have v4630 : HQ ((0 : Int32)).toInt 0 := HQ.mk (by decide)
    have f4631 := nlt32k rfl v4630.out c4627
    refine OK_if (fun c4632 => ?_) (fun c4632 => ?_)
    · have f4633 := le32k rfl rfl c4632
      exact OK_some (show (0 ≤ (z1).toInt) ∧ ((z1).toInt ≤ 1200) from ⟨(by omega), (by omega)⟩)
    · have f4634 := nle32k rfl rfl c4632
      exact OK_some (show (0 ≤ (v_taped).toInt) ∧ ((v_taped).toInt ≤ 1200) from ⟨i0, i1⟩)
