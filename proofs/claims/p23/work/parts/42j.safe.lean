set_option maxHeartbeats 2000000 in
theorem sFX1_earningsOf_71 (n : Nat) (hn : n = 2200000000) (a_totals : Nat → Int32) (a_p0_grades : Nat → Int32) (a_held : Nat → Int32) (a_p0_gradeKinds : Nat → Int32) (a_p0_gradePurities : Nat → Int32) (a_p0_gradePrices : Nat → Int32) (z2 : Int32) (k16 : Int32 → Int32 → Int32 → Int64 → Int32 → Option (Int32 × Unit)) (mB16 : Nat) (hk16 : ∀ (x2 : Int32) (x3 : Int32) (x4 : Int32) (x5 : Int64) (x7 : Int32), (0 ≤ (z2).toInt) → ((z2).toInt ≤ 3) → (∀ i : Nat, (i < 4) → (0 ≤ (a_p0_grades i).toInt ∧ (a_p0_grades i).toInt ≤ 4)) → (∀ i : Nat, (i < 4) → (0 ≤ (a_p0_gradeKinds i).toInt ∧ (a_p0_gradeKinds i).toInt ≤ 4)) → (0 ≤ (x2).toInt) → ((x2).toInt ≤ 3) → (0 ≤ (x7).toInt) → ((x7).toInt ≤ 4) → (4 - (x7).toInt).toNat < mB16 → OK (k16 x2 x3 x4 x5 x7) (fun u => True)) (x2 : Int32) (x3 : Int32) (x4 : Int32) (x5 : Int64) (x7 : Int32) (i0 : 0 ≤ (z2).toInt) (i1 : (z2).toInt ≤ 3) (i2 : ∀ i : Nat, (i < 4) → (0 ≤ (a_p0_grades i).toInt ∧ (a_p0_grades i).toInt ≤ 4)) (i3 : ∀ i : Nat, (i < 4) → (0 ≤ (a_p0_gradeKinds i).toInt ∧ (a_p0_gradeKinds i).toInt ≤ 4)) (i4 : 0 ≤ (x2).toInt) (i5 : (x2).toInt ≤ 3) (i6 : 0 ≤ (x7).toInt) (i7 : (x7).toInt ≤ 3) (i8 : (4 - (x7).toInt).toNat ≤ mB16) : OK (FX1_earningsOf_71 n a_totals a_p0_grades a_held a_p0_gradeKinds a_p0_gradePurities a_p0_gradePrices z2 k16 x2 x3 x4 x5 x7) (fun u => True) := by
  unfold FX1_earningsOf_71
  have v540 : HQ ((1 : Int32)).toInt 1 := HQ.mk (by decide)
  have v541 : HQ ((x7 + (1 : Int32))).toInt ((x7).toInt + 1) := HQ.mk (addV rfl v540.out (by omega) (by omega))
  refine OK_lt (fun x_13 e_x_13 => ?_)
  have f542 : (x_13).toInt = ((x7).toInt + 1) := by rw [e_x_13]; exact v541.out
  exact hk16 x2 x3 x4 x5 x_13 i0 i1 i2 i3 i4 i5 (by omega) (by omega) (by omega)
set_option maxHeartbeats 2000000 in
theorem sFX1_earningsOf_16 (n : Nat) (hn : n = 2200000000) (a_totals : Nat → Int32) (a_p0_grades : Nat → Int32) (a_held : Nat → Int32) (a_p0_gradeKinds : Nat → Int32) (a_p0_gradePurities : Nat → Int32) (a_p0_gradePrices : Nat → Int32) (z2 : Int32) (k16 : Int32 → Int32 → Int32 → Int64 → Int32 → Option (Int32 × Unit)) (mB16 : Nat) (hk16 : ∀ (x2 : Int32) (x3 : Int32) (x4 : Int32) (x5 : Int64) (x7 : Int32), (0 ≤ (z2).toInt) → ((z2).toInt ≤ 3) → (∀ i : Nat, (i < 4) → (0 ≤ (a_p0_grades i).toInt ∧ (a_p0_grades i).toInt ≤ 4)) → (∀ i : Nat, (i < 4) → (0 ≤ (a_p0_gradeKinds i).toInt ∧ (a_p0_gradeKinds i).toInt ≤ 4)) → (0 ≤ (x2).toInt) → ((x2).toInt ≤ 3) → (0 ≤ (x7).toInt) → ((x7).toInt ≤ 4) → (4 - (x7).toInt).toNat < mB16 → OK (k16 x2 x3 x4 x5 x7) (fun u => True)) (x2 : Int32) (x3 : Int32) (x4 : Int32) (x5 : Int64) (x7 : Int32) (i0 : 0 ≤ (z2).toInt) (i1 : (z2).toInt ≤ 3) (i2 : ∀ i : Nat, (i < 4) → (0 ≤ (a_p0_grades i).toInt ∧ (a_p0_grades i).toInt ≤ 4)) (i3 : ∀ i : Nat, (i < 4) → (0 ≤ (a_p0_gradeKinds i).toInt ∧ (a_p0_gradeKinds i).toInt ≤ 4)) (i4 : 0 ≤ (x2).toInt) (i5 : (x2).toInt ≤ 3) (i6 : 0 ≤ (x7).toInt) (i7 : (x7).toInt ≤ 4) (hmu : (4 - (x7).toInt).toNat ≤ mB16) : OK (FX1_earningsOf_16 n a_totals a_p0_grades a_held a_p0_gradeKinds a_p0_gradePurities a_p0_gradePrices z2 k16 x2 x3 x4 x5 x7) (fun u => True) := by
  unfold FX1_earningsOf_16
  refine OK_ck (ckV rfl (by omega) (by omega)) ?_
  refine OK_if (fun c543 => ?_) (fun c543 => ?_)
  · obtain ⟨m544, v545, f546⟩ := tnV (e := x2) rfl (by omega)
    have v547 : HQ ((a_p0_grades ((x2).toNatClampNeg))).toInt (a_p0_grades m544).toInt := HQ.mk (by rw [v545.out])
    have f548 := i2 m544
    have f549 := le32k v547.out rfl c543
    refine OK_ck (ckV rfl (by omega) (by omega)) ?_
    refine OK_ck (by decide) ?_
    exact OK_some trivial
  · obtain ⟨m550, v551, f552⟩ := tnV (e := x2) rfl (by omega)
    have v553 : HQ ((a_p0_grades ((x2).toNatClampNeg))).toInt (a_p0_grades m550).toInt := HQ.mk (by rw [v551.out])
    have f554 := i2 m550
    have f555 := nle32k v553.out rfl c543
    have v556 : HQ ((4 : Int32)).toInt 4 := HQ.mk (by decide)
    have v557 : HQ ((x2 * (4 : Int32))).toInt ((x2).toInt * 4) := HQ.mk (mulV rfl v556.out (by omega) (by omega))
    have v558 : HQ (((x2 * (4 : Int32)) + x7)).toInt (((x2).toInt * 4) + (x7).toInt) := HQ.mk (addV v557.out rfl (by omega) (by omega))
    refine OK_ck (ckV v558.out (by omega) (by omega)) ?_
    obtain ⟨m559, v560, f561⟩ := tnV (e := ((x2 * (4 : Int32)) + x7)) v558.out (by omega)
    have v562 : HQ ((a_p0_gradePurities ((((x2 * (4 : Int32)) + x7)).toNatClampNeg))).toInt (a_p0_gradePurities m559).toInt := HQ.mk (by rw [v560.out])
    refine OK_lt (fun x_8 e_x_8 => ?_)
    have f563 : (x_8).toInt = (a_p0_gradePurities m559).toInt := by rw [e_x_8]; exact v562.out
    refine OK_if (fun c564 => ?_) (fun c564 => ?_)
    · have f565 := lt32k rfl rfl c564
      exact sFX1_earningsOf_71 n hn a_totals a_p0_grades a_held a_p0_gradeKinds a_p0_gradePurities a_p0_gradePrices z2 k16 mB16 hk16 x2 x3 x4 x5 x7 i0 i1 i2 i3 i4 i5 i6 (by omega) (by omega)
    · have f566 := nlt32k rfl rfl c564
      refine OK_if (fun c567 => ?_) (fun c567 => ?_)
      · have f568 := le32k rfl rfl c567
        exact sFX1_earningsOf_71 n hn a_totals a_p0_grades a_held a_p0_gradeKinds a_p0_gradePurities a_p0_gradePrices z2 k16 mB16 hk16 x2 x3 x4 x5 x7 i0 i1 i2 i3 i4 i5 i6 (by omega) (by omega)
      · have f569 := nle32k rfl rfl c567
        refine OK_ck (ckV v558.out (by omega) (by omega)) ?_
        have v570 : HQ ((a_p0_gradePrices ((((x2 * (4 : Int32)) + x7)).toNatClampNeg))).toInt (a_p0_gradePrices m559).toInt := HQ.mk (by rw [v560.out])
        have v571 : HQ (((a_p0_gradePrices ((((x2 * (4 : Int32)) + x7)).toNatClampNeg))).toInt64).toInt (a_p0_gradePrices m559).toInt := HQ.mk ((Int32.toInt_toInt64 _).trans v570.out)
        refine OK_lt (fun x_12 e_x_12 => ?_)
        have f572 : (x_12).toInt = (a_p0_gradePrices m559).toInt := by rw [e_x_12]; exact v571.out
        exact sFX1_earningsOf_71 n hn a_totals a_p0_grades a_held a_p0_gradeKinds a_p0_gradePurities a_p0_gradePrices z2 k16 mB16 hk16 x2 x3 x_8 x_12 x7 i0 i1 i2 i3 i4 i5 i6 (by omega) (by omega)
theorem sFX1_earningsOf_16L (n : Nat) (hn : n = 2200000000) (a_totals : Nat → Int32) (a_p0_grades : Nat → Int32) (a_held : Nat → Int32) (a_p0_gradeKinds : Nat → Int32) (a_p0_gradePurities : Nat → Int32) (a_p0_gradePrices : Nat → Int32) (z2 : Int32) : ∀ (j : Nat) (x2 : Int32) (x3 : Int32) (x4 : Int32) (x5 : Int64) (x7 : Int32), (0 ≤ (z2).toInt) → ((z2).toInt ≤ 3) → (∀ i : Nat, (i < 4) → (0 ≤ (a_p0_grades i).toInt ∧ (a_p0_grades i).toInt ≤ 4)) → (∀ i : Nat, (i < 4) → (0 ≤ (a_p0_gradeKinds i).toInt ∧ (a_p0_gradeKinds i).toInt ≤ 4)) → (0 ≤ (x2).toInt) → ((x2).toInt ≤ 3) → (0 ≤ (x7).toInt) → ((x7).toInt ≤ 4) → (4 - (x7).toInt).toNat < j → OK (FX1_earningsOf_16L n a_totals a_p0_grades a_held a_p0_gradeKinds a_p0_gradePurities a_p0_gradePrices z2 j x2 x3 x4 x5 x7) (fun u => True) := by
  intro j
  induction j with
  | zero => intro _ _ _ _ _ _ _ _ _ _ _ _ _ hj; exact absurd hj (Nat.not_lt_zero _)
  | succ j ih =>
    intro x2 x3 x4 x5 x7 i0 i1 i2 i3 i4 i5 i6 i7 hj
    exact sFX1_earningsOf_16 n hn a_totals a_p0_grades a_held a_p0_gradeKinds a_p0_gradePurities a_p0_gradePrices z2 (FX1_earningsOf_16L n a_totals a_p0_grades a_held a_p0_gradeKinds a_p0_gradePurities a_p0_gradePrices z2 j) ((4 - (x7).toInt).toNat) (fun y0 y1 y2 y3 y4 w0 w1 w2 w3 w4 w5 w6 w7 hlt => ih y0 y1 y2 y3 y4 w0 w1 w2 w3 w4 w5 w6 w7 (by omega)) x2 x3 x4 x5 x7 i0 i1 i2 i3 i4 i5 i6 i7 (Nat.le_refl _)
set_option maxHeartbeats 2000000 in
theorem sX1_earningsOf (n : Nat) (hn : n = 2200000000) (a_totals : Nat → Int32) (a_p0_grades : Nat → Int32) (a_held : Nat → Int32) (a_p0_gradeKinds : Nat → Int32) (a_p0_gradePurities : Nat → Int32) (a_p0_gradePrices : Nat → Int32) (z2 : Int32) (i0 : 0 ≤ (z2).toInt) (i1 : (z2).toInt ≤ 3) (i2 : ∀ i : Nat, (i < 4) → (0 ≤ (a_p0_grades i).toInt ∧ (a_p0_grades i).toInt ≤ 4)) (i3 : ∀ i : Nat, (i < 4) → (0 ≤ (a_p0_gradeKinds i).toInt ∧ (a_p0_gradeKinds i).toInt ≤ 4)) : OK (FX1_earningsOf n a_totals a_p0_grades a_held a_p0_gradeKinds a_p0_gradePurities a_p0_gradePrices z2) (fun u => True) := by
  unfold FX1_earningsOf
  refine OK_bd (sX1_purityOf n hn a_totals a_p0_grades a_held a_p0_gradeKinds z2 i0 i1 i2 i3) (fun u_2 p_u_2 => ?_)
  have v573 : HQ ((0 : Int32)).toInt 0 := HQ.mk (by decide)
  exact sFX1_earningsOf_16L n hn a_totals a_p0_grades a_held a_p0_gradeKinds a_p0_gradePurities a_p0_gradePrices z2 n z2 u_2.1 (-1 : Int32) (0 : Int64) (0 : Int32) i0 i1 i2 i3 i0 i1 (by (rw [v573.out]) <;> omega) (by (rw [v573.out]) <;> omega) (by (rw [v573.out]) <;> omega)
set_option maxHeartbeats 2000000 in
theorem sFX1_worthOf_5 (n : Nat) (hn : n = 2200000000) (a_totals : Nat → Int32) (a_p0_grades : Nat → Int32) (a_held : Nat → Int32) (a_p0_gradeKinds : Nat → Int32) (a_p0_gradePurities : Nat → Int32) (a_p0_gradePrices : Nat → Int32) (z2 : Int32) (k5 : Int32 → Int32 → Int32 → Option (Int32 × Unit)) (mB5 : Nat) (hk5 : ∀ (x2 : Int32) (x3 : Int32) (x4 : Int32), (∀ i : Nat, (i < 4) → (0 ≤ (a_p0_grades i).toInt ∧ (a_p0_grades i).toInt ≤ 4)) → (∀ i : Nat, (i < 4) → (0 ≤ (a_p0_gradeKinds i).toInt ∧ (a_p0_gradeKinds i).toInt ≤ 4)) → (0 ≤ (x4).toInt) → ((x4).toInt ≤ 4) → (4 - (x4).toInt).toNat < mB5 → OK (k5 x2 x3 x4) (fun u => True)) (x2 : Int32) (x3 : Int32) (x4 : Int32) (i0 : ∀ i : Nat, (i < 4) → (0 ≤ (a_p0_grades i).toInt ∧ (a_p0_grades i).toInt ≤ 4)) (i1 : ∀ i : Nat, (i < 4) → (0 ≤ (a_p0_gradeKinds i).toInt ∧ (a_p0_gradeKinds i).toInt ≤ 4)) (i2 : 0 ≤ (x4).toInt) (i3 : (x4).toInt ≤ 4) (hmu : (4 - (x4).toInt).toNat ≤ mB5) : OK (FX1_worthOf_5 n a_totals a_p0_grades a_held a_p0_gradeKinds a_p0_gradePurities a_p0_gradePrices z2 k5 x2 x3 x4) (fun u => True) := by
  unfold FX1_worthOf_5
  refine OK_if (fun c574 => ?_) (fun c574 => ?_)
  · have v575 : HQ ((4 : Int32)).toInt 4 := HQ.mk (by decide)
    have f576 := le32k v575.out rfl c574
    refine OK_ck (ckV v575.out (by omega) (by omega)) ?_
    refine OK_ck (by decide) ?_
    exact OK_some trivial
  · have v577 : HQ ((4 : Int32)).toInt 4 := HQ.mk (by decide)
    have f578 := nle32k v577.out rfl c574
    refine OK_bd (sX1_earningsOf n hn a_totals a_p0_grades a_held a_p0_gradeKinds a_p0_gradePurities a_p0_gradePrices x4 i2 (by omega) i0 i1) (fun u_5 p_u_5 => ?_)
    refine OK_lt (fun x_6 e_x_6 => ?_)
    have v579 : HQ ((1 : Int32)).toInt 1 := HQ.mk (by decide)
    have v580 : HQ ((x4 + (1 : Int32))).toInt ((x4).toInt + 1) := HQ.mk (addV rfl v579.out (by omega) (by omega))
    refine OK_lt (fun x_7 e_x_7 => ?_)
    have f581 : (x_7).toInt = ((x4).toInt + 1) := by rw [e_x_7]; exact v580.out
    exact hk5 x2 x_6 x_7 i0 i1 (by omega) (by omega) (by omega)
theorem sFX1_worthOf_5L (n : Nat) (hn : n = 2200000000) (a_totals : Nat → Int32) (a_p0_grades : Nat → Int32) (a_held : Nat → Int32) (a_p0_gradeKinds : Nat → Int32) (a_p0_gradePurities : Nat → Int32) (a_p0_gradePrices : Nat → Int32) (z2 : Int32) : ∀ (j : Nat) (x2 : Int32) (x3 : Int32) (x4 : Int32), (∀ i : Nat, (i < 4) → (0 ≤ (a_p0_grades i).toInt ∧ (a_p0_grades i).toInt ≤ 4)) → (∀ i : Nat, (i < 4) → (0 ≤ (a_p0_gradeKinds i).toInt ∧ (a_p0_gradeKinds i).toInt ≤ 4)) → (0 ≤ (x4).toInt) → ((x4).toInt ≤ 4) → (4 - (x4).toInt).toNat < j → OK (FX1_worthOf_5L n a_totals a_p0_grades a_held a_p0_gradeKinds a_p0_gradePurities a_p0_gradePrices z2 j x2 x3 x4) (fun u => True) := by
  intro j
  induction j with
  | zero => intro _ _ _ _ _ _ _ hj; exact absurd hj (Nat.not_lt_zero _)
  | succ j ih =>
    intro x2 x3 x4 i0 i1 i2 i3 hj
    exact sFX1_worthOf_5 n hn a_totals a_p0_grades a_held a_p0_gradeKinds a_p0_gradePurities a_p0_gradePrices z2 (FX1_worthOf_5L n a_totals a_p0_grades a_held a_p0_gradeKinds a_p0_gradePurities a_p0_gradePrices z2 j) ((4 - (x4).toInt).toNat) (fun y0 y1 y2 w0 w1 w2 w3 hlt => ih y0 y1 y2 w0 w1 w2 w3 (by omega)) x2 x3 x4 i0 i1 i2 i3 (Nat.le_refl _)
set_option maxHeartbeats 2000000 in
theorem sX1_worthOf (n : Nat) (hn : n = 2200000000) (a_totals : Nat → Int32) (a_p0_grades : Nat → Int32) (a_held : Nat → Int32) (a_p0_gradeKinds : Nat → Int32) (a_p0_gradePurities : Nat → Int32) (a_p0_gradePrices : Nat → Int32) (z2 : Int32) (i0 : ∀ i : Nat, (i < 4) → (0 ≤ (a_p0_grades i).toInt ∧ (a_p0_grades i).toInt ≤ 4)) (i1 : ∀ i : Nat, (i < 4) → (0 ≤ (a_p0_gradeKinds i).toInt ∧ (a_p0_gradeKinds i).toInt ≤ 4)) : OK (FX1_worthOf n a_totals a_p0_grades a_held a_p0_gradeKinds a_p0_gradePurities a_p0_gradePrices z2) (fun u => True) := by
  unfold FX1_worthOf
  have v582 : HQ ((0 : Int32)).toInt 0 := HQ.mk (by decide)
  exact sFX1_worthOf_5L n hn a_totals a_p0_grades a_held a_p0_gradeKinds a_p0_gradePurities a_p0_gradePrices z2 n z2 (0 : Int32) (0 : Int32) i0 i1 (by (rw [v582.out]) <;> omega) (by (rw [v582.out]) <;> omega) (by (rw [v582.out]) <;> omega)
