set_option maxHeartbeats 2000000 in
theorem sX7_about (n : Nat) (hn : n = 2200000000) (v_taped : Int32) (v_bank : Int32) (v_lorries : Int32) (v_cost : Int32) (a_gradeMany : Nat → Int32) (a_unitMany : Nat → Int32) (z1 : Int32) (i0 : 0 ≤ (v_bank).toInt) (i1 : (v_bank).toInt ≤ 1) : OK (FX7_about n v_taped v_bank v_lorries v_cost a_gradeMany a_unitMany z1) (fun u => True) := by
  unfold FX7_about
  refine OK_if (fun c4538 => ?_) (fun c4538 => ?_)
  · have v4539 : HQ ((0 : Int32)).toInt 0 := HQ.mk (by decide)
    have f4540 := eq32k rfl v4539.out c4538
    refine OK_ck (ckV rfl (by omega) (by omega)) ?_
    exact OK_some trivial
  · have v4541 : HQ ((0 : Int32)).toInt 0 := HQ.mk (by decide)
    have f4542 := neq32k rfl v4541.out c4538
    refine OK_if (fun c4543 => ?_) (fun c4543 => ?_)
    · have v4544 : HQ ((1 : Int32)).toInt 1 := HQ.mk (by decide)
      have f4545 := eq32k rfl v4544.out c4543
      exact OK_some trivial
    · have v4546 : HQ ((1 : Int32)).toInt 1 := HQ.mk (by decide)
      have f4547 := neq32k rfl v4546.out c4543
      refine OK_if (fun c4548 => ?_) (fun c4548 => ?_)
      · have v4549 : HQ ((2 : Int32)).toInt 2 := HQ.mk (by decide)
        have f4550 := eq32k rfl v4549.out c4548
        exact OK_some trivial
      · have v4551 : HQ ((2 : Int32)).toInt 2 := HQ.mk (by decide)
        have f4552 := neq32k rfl v4551.out c4548
        refine OK_if (fun c4553 => ?_) (fun c4553 => ?_)
        · have v4554 : HQ ((3 : Int32)).toInt 3 := HQ.mk (by decide)
          have f4555 := eq32k rfl v4554.out c4553
          exact OK_some trivial
        · have v4556 : HQ ((3 : Int32)).toInt 3 := HQ.mk (by decide)
          have f4557 := neq32k rfl v4556.out c4553
          refine OK_if (fun c4558 => ?_) (fun c4558 => ?_)
          · have v4559 : HQ ((10 : Int32)).toInt 10 := HQ.mk (by decide)
            have f4560 := lt32k rfl v4559.out c4558
            exact OK_some trivial
          · have v4561 : HQ ((10 : Int32)).toInt 10 := HQ.mk (by decide)
            have f4562 := nlt32k rfl v4561.out c4558
            refine OK_if (fun c4563 => ?_) (fun c4563 => ?_)
            · have v4564 : HQ ((14 : Int32)).toInt 14 := HQ.mk (by decide)
              have f4565 := le32k v4564.out rfl c4563
              exact OK_some trivial
            · have v4566 : HQ ((14 : Int32)).toInt 14 := HQ.mk (by decide)
              have f4567 := nle32k v4566.out rfl c4563
              have v4568 : HQ ((4 : Int32)).toInt 4 := HQ.mk (by decide)
              have v4569 : HQ (((4 : Int32) * v_bank)).toInt (4 * (v_bank).toInt) := HQ.mk (mulV v4568.out rfl (by omega) (by omega))
              have v4570 : HQ ((((4 : Int32) * v_bank) + z1)).toInt ((4 * (v_bank).toInt) + (z1).toInt) := HQ.mk (addV v4569.out rfl (by omega) (by omega))
              have v4571 : HQ (((((4 : Int32) * v_bank) + z1) - (10 : Int32))).toInt (((4 * (v_bank).toInt) + (z1).toInt) - 10) := HQ.mk (subV v4570.out v4561.out (by omega) (by omega))
              refine OK_ck (ckV v4571.out (by omega) (by omega)) ?_
              exact OK_some trivial
set_option maxHeartbeats 2000000 in
theorem sX7_fault (n : Nat) (hn : n = 2200000000) (v_faultKind : Int32) (v_faultPlace : Int32) (z1 : Int32) : OK (FX7_fault n v_faultKind v_faultPlace z1) (fun u => True) := by
  unfold FX7_fault
  refine OK_if (fun c4572 => ?_) (fun c4572 => ?_)
  · have v4573 : HQ ((0 : Int32)).toInt 0 := HQ.mk (by decide)
    have f4574 := eq32k rfl v4573.out c4572
    exact OK_some trivial
  · have v4575 : HQ ((0 : Int32)).toInt 0 := HQ.mk (by decide)
    have f4576 := neq32k rfl v4575.out c4572
    refine OK_if (fun c4577 => ?_) (fun c4577 => ?_)
    · have v4578 : HQ ((1 : Int32)).toInt 1 := HQ.mk (by decide)
      have f4579 := eq32k rfl v4578.out c4577
      exact OK_some trivial
    · have v4580 : HQ ((1 : Int32)).toInt 1 := HQ.mk (by decide)
      have f4581 := neq32k rfl v4580.out c4577
      exact OK_some trivial
set_option maxHeartbeats 2000000 in
theorem sFX7_feed_71 (n : Nat) (hn : n = 2200000000) (z1 : Int32) (z2 : Int32) (z3 : Int32) (z4 : Int32) (z5 : Int32) (k18 : Int32 → (Nat → Int32) → Int32 → Int32 → Int32 → Int32 → Int32 → Int32 → Option (Int32 × Int32 × (Nat → Int32))) (mB18 : Nat) (hk18 : ∀ (v_taped : Int32) (a_tape : Nat → Int32) (x1 : Int32) (x2 : Int32) (x3 : Int32) (x4 : Int32) (x5 : Int32) (x6 : Int32), (0 ≤ (v_taped).toInt) → ((v_taped).toInt ≤ 1200) → ((v_taped).toInt ≤ 1180) → (0 ≤ (x6).toInt) → ((x6).toInt ≤ 20) → (20 - (x6).toInt).toNat < mB18 → OK (k18 v_taped a_tape x1 x2 x3 x4 x5 x6) (fun u => (0 ≤ (u.2.1).toInt) ∧ ((u.2.1).toInt ≤ 1200))) (v_taped : Int32) (a_tape : Nat → Int32) (x1 : Int32) (x2 : Int32) (x3 : Int32) (x4 : Int32) (x5 : Int32) (x6 : Int32) (y0 : Int32) (i0 : 0 ≤ (v_taped).toInt) (i1 : (v_taped).toInt ≤ 1200) (i2 : (v_taped).toInt ≤ 1180) (i3 : 0 ≤ (x6).toInt) (i4 : (x6).toInt ≤ 19) (i5 : (20 - (x6).toInt).toNat ≤ mB18) : OK (FX7_feed_71 n z1 z2 z3 z4 z5 k18 v_taped a_tape x1 x2 x3 x4 x5 x6 y0) (fun u => (0 ≤ (u.2.1).toInt) ∧ ((u.2.1).toInt ≤ 1200)) := by
  unfold FX7_feed_71
  obtain ⟨y4582, v4583⟩ := HQ.any (((y0 >>> (((24 : Int32) - ((8 : Int32) * (x6 &&& (3 : Int32)))) &&& 31))).toInt8.toInt32).toInt
  refine OK_lt (fun x_8 e_x_8 => ?_)
  have f4584 : (x_8).toInt = y4582 := by rw [e_x_8]; exact v4583.out
  have v4585 : HQ ((v_taped + x6)).toInt ((v_taped).toInt + (x6).toInt) := HQ.mk (addV rfl rfl (by omega) (by omega))
  refine OK_ck (ckV v4585.out (by omega) (by omega)) ?_
  obtain ⟨m4586, v4587, f4588⟩ := tnV (e := (v_taped + x6)) v4585.out (by omega)
  obtain ⟨y4589, v4590⟩ := HQ.any ((vp_nar .byte x_8)).toInt
  refine OK_lt (fun f_10 e_f_10 => ?_)
  rw [v4587.out] at e_f_10
  have v4591 : HQ ((1 : Int32)).toInt 1 := HQ.mk (by decide)
  have v4592 : HQ ((x6 + (1 : Int32))).toInt ((x6).toInt + 1) := HQ.mk (addV rfl v4591.out (by omega) (by omega))
  refine OK_lt (fun x_11 e_x_11 => ?_)
  have f4593 : (x_11).toInt = ((x6).toInt + 1) := by rw [e_x_11]; exact v4592.out
  exact hk18 v_taped f_10 x1 x2 x3 x4 x5 x_11 i0 i1 i2 (by omega) (by omega) (by omega)
set_option maxHeartbeats 2000000 in
theorem sFX7_feed_18 (n : Nat) (hn : n = 2200000000) (z1 : Int32) (z2 : Int32) (z3 : Int32) (z4 : Int32) (z5 : Int32) (k18 : Int32 → (Nat → Int32) → Int32 → Int32 → Int32 → Int32 → Int32 → Int32 → Option (Int32 × Int32 × (Nat → Int32))) (mB18 : Nat) (hk18 : ∀ (v_taped : Int32) (a_tape : Nat → Int32) (x1 : Int32) (x2 : Int32) (x3 : Int32) (x4 : Int32) (x5 : Int32) (x6 : Int32), (0 ≤ (v_taped).toInt) → ((v_taped).toInt ≤ 1200) → ((v_taped).toInt ≤ 1180) → (0 ≤ (x6).toInt) → ((x6).toInt ≤ 20) → (20 - (x6).toInt).toNat < mB18 → OK (k18 v_taped a_tape x1 x2 x3 x4 x5 x6) (fun u => (0 ≤ (u.2.1).toInt) ∧ ((u.2.1).toInt ≤ 1200))) (v_taped : Int32) (a_tape : Nat → Int32) (x1 : Int32) (x2 : Int32) (x3 : Int32) (x4 : Int32) (x5 : Int32) (x6 : Int32) (i0 : 0 ≤ (v_taped).toInt) (i1 : (v_taped).toInt ≤ 1200) (i2 : (v_taped).toInt ≤ 1180) (i3 : 0 ≤ (x6).toInt) (i4 : (x6).toInt ≤ 20) (hmu : (20 - (x6).toInt).toNat ≤ mB18) : OK (FX7_feed_18 n z1 z2 z3 z4 z5 k18 v_taped a_tape x1 x2 x3 x4 x5 x6) (fun u => (0 ≤ (u.2.1).toInt) ∧ ((u.2.1).toInt ≤ 1200)) := by
  unfold FX7_feed_18
  refine OK_if (fun c4594 => ?_) (fun c4594 => ?_)
  · have v4595 : HQ ((20 : Int32)).toInt 20 := HQ.mk (by decide)
    have f4596 := le32k v4595.out rfl c4594
    have v4597 : HQ ((v_taped + (20 : Int32))).toInt ((v_taped).toInt + 20) := HQ.mk (addV rfl v4595.out (by omega) (by omega))
    refine OK_lt (fun x_3 e_x_3 => ?_)
    have f4598 : (x_3).toInt = ((v_taped).toInt + 20) := by rw [e_x_3]; exact v4597.out
    exact OK_some (show (0 ≤ (x_3).toInt) ∧ ((x_3).toInt ≤ 1200) from ⟨(by omega), (by omega)⟩)
  · have v4599 : HQ ((20 : Int32)).toInt 20 := HQ.mk (by decide)
    have f4600 := nle32k v4599.out rfl c4594
    refine OK_if (fun c4601 => ?_) (fun c4601 => ?_)
    · have v4602 : HQ ((4 : Int32)).toInt 4 := HQ.mk (by decide)
      have f4603 := le32k v4602.out rfl c4601
      refine OK_if (fun c4604 => ?_) (fun c4604 => ?_)
      · have v4605 : HQ ((8 : Int32)).toInt 8 := HQ.mk (by decide)
        have f4606 := le32k v4605.out rfl c4604
        refine OK_if (fun c4607 => ?_) (fun c4607 => ?_)
        · have v4608 : HQ ((12 : Int32)).toInt 12 := HQ.mk (by decide)
          have f4609 := le32k v4608.out rfl c4607
          refine OK_if (fun c4610 => ?_) (fun c4610 => ?_)
          · have v4611 : HQ ((16 : Int32)).toInt 16 := HQ.mk (by decide)
            have f4612 := le32k v4611.out rfl c4610
            exact sFX7_feed_71 n hn z1 z2 z3 z4 z5 k18 mB18 hk18 v_taped a_tape x1 x2 x3 x4 x5 x6 x5 i0 i1 i2 i3 (by omega) (by omega)
          · have v4613 : HQ ((16 : Int32)).toInt 16 := HQ.mk (by decide)
            have f4614 := nle32k v4613.out rfl c4610
            exact sFX7_feed_71 n hn z1 z2 z3 z4 z5 k18 mB18 hk18 v_taped a_tape x1 x2 x3 x4 x5 x6 x4 i0 i1 i2 i3 (by omega) (by omega)
        · have v4615 : HQ ((12 : Int32)).toInt 12 := HQ.mk (by decide)
          have f4616 := nle32k v4615.out rfl c4607
          exact sFX7_feed_71 n hn z1 z2 z3 z4 z5 k18 mB18 hk18 v_taped a_tape x1 x2 x3 x4 x5 x6 x3 i0 i1 i2 i3 (by omega) (by omega)
      · have v4617 : HQ ((8 : Int32)).toInt 8 := HQ.mk (by decide)
        have f4618 := nle32k v4617.out rfl c4604
        exact sFX7_feed_71 n hn z1 z2 z3 z4 z5 k18 mB18 hk18 v_taped a_tape x1 x2 x3 x4 x5 x6 x2 i0 i1 i2 i3 (by omega) (by omega)
    · have v4619 : HQ ((4 : Int32)).toInt 4 := HQ.mk (by decide)
      have f4620 := nle32k v4619.out rfl c4601
      exact sFX7_feed_71 n hn z1 z2 z3 z4 z5 k18 mB18 hk18 v_taped a_tape x1 x2 x3 x4 x5 x6 x1 i0 i1 i2 i3 (by omega) (by omega)
theorem sFX7_feed_18L (n : Nat) (hn : n = 2200000000) (z1 : Int32) (z2 : Int32) (z3 : Int32) (z4 : Int32) (z5 : Int32) : ∀ (j : Nat) (v_taped : Int32) (a_tape : Nat → Int32) (x1 : Int32) (x2 : Int32) (x3 : Int32) (x4 : Int32) (x5 : Int32) (x6 : Int32), (0 ≤ (v_taped).toInt) → ((v_taped).toInt ≤ 1200) → ((v_taped).toInt ≤ 1180) → (0 ≤ (x6).toInt) → ((x6).toInt ≤ 20) → (20 - (x6).toInt).toNat < j → OK (FX7_feed_18L n z1 z2 z3 z4 z5 j v_taped a_tape x1 x2 x3 x4 x5 x6) (fun u => (0 ≤ (u.2.1).toInt) ∧ ((u.2.1).toInt ≤ 1200)) := by
  intro j
  induction j with
  | zero => intro _ _ _ _ _ _ _ _ _ _ _ _ _ hj; exact absurd hj (Nat.not_lt_zero _)
  | succ j ih =>
    intro v_taped a_tape x1 x2 x3 x4 x5 x6 i0 i1 i2 i3 i4 hj
    exact sFX7_feed_18 n hn z1 z2 z3 z4 z5 (FX7_feed_18L n z1 z2 z3 z4 z5 j) ((20 - (x6).toInt).toNat) (fun y0 y1 y2 y3 y4 y5 y6 y7 w0 w1 w2 w3 w4 hlt => ih y0 y1 y2 y3 y4 y5 y6 y7 w0 w1 w2 w3 w4 (by omega)) v_taped a_tape x1 x2 x3 x4 x5 x6 i0 i1 i2 i3 i4 (Nat.le_refl _)
set_option maxHeartbeats 2000000 in
theorem sX7_feed (n : Nat) (hn : n = 2200000000) (v_taped : Int32) (a_tape : Nat → Int32) (z1 : Int32) (z2 : Int32) (z3 : Int32) (z4 : Int32) (z5 : Int32) (i0 : 0 ≤ (v_taped).toInt) (i1 : (v_taped).toInt ≤ 1200) : OK (FX7_feed n v_taped a_tape z1 z2 z3 z4 z5) (fun u => (0 ≤ (u.2.1).toInt) ∧ ((u.2.1).toInt ≤ 1200)) := by
  unfold FX7_feed
  refine OK_if (fun c4621 => ?_) (fun c4621 => ?_)
  · have v4622 : HQ ((20 : Int32)).toInt 20 := HQ.mk (by decide)
    have v4623 : HQ ((v_taped + (20 : Int32))).toInt ((v_taped).toInt + 20) := HQ.mk (addV rfl v4622.out (by omega) (by omega))
    have v4624 : HQ ((1200 : Int32)).toInt 1200 := HQ.mk (by decide)
    have f4625 := le32k v4623.out v4624.out c4621
    have v4626 : HQ ((0 : Int32)).toInt 0 := HQ.mk (by decide)
    exact sFX7_feed_18L n hn z1 z2 z3 z4 z5 n v_taped a_tape z1 z2 z3 z4 z5 (0 : Int32) i0 i1 (by omega) (by (rw [v4626.out]) <;> omega) (by (rw [v4626.out]) <;> omega) (by (rw [v4626.out]) <;> omega)
  · have v4627 : HQ ((20 : Int32)).toInt 20 := HQ.mk (by decide)
    have v4628 : HQ ((v_taped + (20 : Int32))).toInt ((v_taped).toInt + 20) := HQ.mk (addV rfl v4627.out (by omega) (by omega))
    have v4629 : HQ ((1200 : Int32)).toInt 1200 := HQ.mk (by decide)
    have f4630 := nle32k v4628.out v4629.out c4621
    exact OK_some (show (0 ≤ (v_taped).toInt) ∧ ((v_taped).toInt ≤ 1200) from ⟨i0, i1⟩)
set_option maxHeartbeats 2000000 in
theorem sX7_end (n : Nat) (hn : n = 2200000000) (v_taped : Int32) (z1 : Int32) (i0 : 0 ≤ (v_taped).toInt) (i1 : (v_taped).toInt ≤ 1200) : OK (FX7_end n v_taped z1) (fun u => (0 ≤ (u.2).toInt) ∧ ((u.2).toInt ≤ 1200)) := by
  unfold FX7_end
  refine OK_if (fun c4631 => ?_) (fun c4631 => ?_)
  · have v4632 : HQ ((0 : Int32)).toInt 0 := HQ.mk (by decide)
    have f4633 := lt32k rfl v4632.out c4631
    exact OK_some (show (0 ≤ (v_taped).toInt) ∧ ((v_taped).toInt ≤ 1200) from ⟨i0, i1⟩)
  · have v4634 : HQ ((0 : Int32)).toInt 0 := HQ.mk (by decide)
    have f4635 := nlt32k rfl v4634.out c4631
    refine OK_if (fun c4636 => ?_) (fun c4636 => ?_)
    · have f4637 := le32k rfl rfl c4636
      exact OK_some (show (0 ≤ (z1).toInt) ∧ ((z1).toInt ≤ 1200) from ⟨(by omega), (by omega)⟩)
    · have f4638 := nle32k rfl rfl c4636
      exact OK_some (show (0 ≤ (v_taped).toInt) ∧ ((v_taped).toInt ≤ 1200) from ⟨i0, i1⟩)
