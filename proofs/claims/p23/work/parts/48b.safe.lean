set_option maxHeartbeats 2000000 in
theorem sFX7_lead_48 (n : Nat) (hn : n = 2200000000) (z1 : Int32) (z2 : Int32) (z3 : Int32) (a_rows : Nat → Int64) (x3 : Int32) (y0 : Int32) (y1 : Int32) (i0 : 0 ≤ (z1).toInt) (i1 : (z1).toInt ≤ 4) (i2 : (0 ≤ (z2).toInt ∧ (z2).toInt ≤ 4) ∨ (10 ≤ (z2).toInt ∧ (z2).toInt ≤ 13) ∨ (z2).toInt = 20) (i3 : 5 ≤ (y1).toInt) (i4 : (y1).toInt ≤ 45) (i5 : 0 ≤ (y0).toInt) (i6 : (y0).toInt ≤ 4) : OK (FX7_lead_48 n z1 z2 z3 a_rows x3 y0 y1) (fun u => True) := by
  unfold FX7_lead_48
  have v3627 : HQ ((y1 + y0)).toInt ((y1).toInt + (y0).toInt) := HQ.mk (addV rfl rfl (by omega) (by omega))
  refine OK_lt (fun x_8 e_x_8 => ?_)
  have f3628 : (x_8).toInt = ((y1).toInt + (y0).toInt) := by rw [e_x_8]; exact v3627.out
  refine OK_ck (ckV rfl (by omega) (by omega)) ?_
  refine OK_lt (fun x_10 e_x_10 => ?_)
  refine OK_ck (ckV rfl (by omega) (by omega)) ?_
  obtain ⟨m3629, v3630, f3631⟩ := tnV (e := x_8) rfl (by omega)
  refine OK_lt (fun f_12 e_f_12 => ?_)
  rw [v3630.out] at e_f_12
  exact OK_some trivial
set_option maxHeartbeats 2000000 in
theorem sX7_lead (n : Nat) (hn : n = 2200000000) (a_rows : Nat → Int64) (z1 : Int32) (z2 : Int32) (z3 : Int32) (i0 : 0 ≤ (z1).toInt) (i1 : (z1).toInt ≤ 4) (i2 : (0 ≤ (z2).toInt ∧ (z2).toInt ≤ 4) ∨ (10 ≤ (z2).toInt ∧ (z2).toInt ≤ 13) ∨ (z2).toInt = 20) : OK (FX7_lead n a_rows z1 z2 z3) (fun u => True) := by
  unfold FX7_lead
  refine OK_if (fun c3632 => ?_) (fun c3632 => ?_)
  · have v3633 : HQ ((5 : Int32)).toInt 5 := HQ.mk (by decide)
    have f3634 := le32k v3633.out rfl c3632
    refine OK_if (fun c3635 => ?_) (fun c3635 => ?_)
    · have v3636 : HQ ((20 : Int32)).toInt 20 := HQ.mk (by decide)
      have f3637 := eq32k rfl v3636.out c3635
      have v3638 : HQ ((10 : Int32)).toInt 10 := HQ.mk (by decide)
      have v3639 : HQ (((10 : Int32) * z1)).toInt (10 * (z1).toInt) := HQ.mk (mulV v3638.out rfl (by omega) (by omega))
      have v3640 : HQ ((((10 : Int32) * z1) + (5 : Int32))).toInt ((10 * (z1).toInt) + 5) := HQ.mk (addV v3639.out v3633.out (by omega) (by omega))
      have v3641 : HQ ((4 : Int32)).toInt 4 := HQ.mk (by decide)
      exact sFX7_lead_48 n hn z1 z2 z3 a_rows z3 (4 : Int32) (((10 : Int32) * z1) + (5 : Int32)) i0 i1 i2 (by (rw [v3640.out]) <;> omega) (by (rw [v3640.out]) <;> omega) (by (rw [v3641.out]) <;> omega) (by (rw [v3641.out]) <;> omega)
    · have v3642 : HQ ((20 : Int32)).toInt 20 := HQ.mk (by decide)
      have f3643 := neq32k rfl v3642.out c3635
      have v3644 : HQ ((10 : Int32)).toInt 10 := HQ.mk (by decide)
      have v3645 : HQ (((10 : Int32) * z1)).toInt (10 * (z1).toInt) := HQ.mk (mulV v3644.out rfl (by omega) (by omega))
      have v3646 : HQ ((((10 : Int32) * z1) + (5 : Int32))).toInt ((10 * (z1).toInt) + 5) := HQ.mk (addV v3645.out v3633.out (by omega) (by omega))
      have v3647 : HQ ((z2 - (10 : Int32))).toInt ((z2).toInt - 10) := HQ.mk (subV rfl v3644.out (by omega) (by omega))
      exact sFX7_lead_48 n hn z1 z2 z3 a_rows z3 (z2 - (10 : Int32)) (((10 : Int32) * z1) + (5 : Int32)) i0 i1 i2 (by (rw [v3646.out]) <;> omega) (by (rw [v3646.out]) <;> omega) (by (rw [v3647.out]) <;> omega) (by (rw [v3647.out]) <;> omega)
  · have v3648 : HQ ((5 : Int32)).toInt 5 := HQ.mk (by decide)
    have f3649 := nle32k v3648.out rfl c3632
    have v3650 : HQ ((10 : Int32)).toInt 10 := HQ.mk (by decide)
    have v3651 : HQ (((10 : Int32) * z1)).toInt (10 * (z1).toInt) := HQ.mk (mulV v3650.out rfl (by omega) (by omega))
    have v3652 : HQ ((((10 : Int32) * z1) + z2)).toInt ((10 * (z1).toInt) + (z2).toInt) := HQ.mk (addV v3651.out rfl (by omega) (by omega))
    refine OK_lt (fun x_3 e_x_3 => ?_)
    have f3653 : (x_3).toInt = ((10 * (z1).toInt) + (z2).toInt) := by rw [e_x_3]; exact v3652.out
    refine OK_ck (ckV rfl (by omega) (by omega)) ?_
    refine OK_lt (fun x_5 e_x_5 => ?_)
    refine OK_ck (ckV rfl (by omega) (by omega)) ?_
    obtain ⟨m3654, v3655, f3656⟩ := tnV (e := x_3) rfl (by omega)
    refine OK_lt (fun f_7 e_f_7 => ?_)
    rw [v3655.out] at e_f_7
    exact OK_some trivial
set_option maxHeartbeats 2000000 in
theorem sFX7_change_2 (n : Nat) (hn : n = 2200000000) (z1 : Int32) (z2 : Int32) (gP : Int) (k2 : (Nat → Int64) → Int32 → Int32 → Int32 → Option (Unit × (Nat → Int64))) (mB2 : Nat) (hk2 : ∀ (a_rows : Nat → Int64) (x1 : Int32) (x2 : Int32) (x3 : Int32), (0 ≤ (z1).toInt) → ((z1).toInt ≤ 4) → (0 ≤ (z2).toInt) → ((z2).toInt ≤ 4) → ((x1).toInt = (z1).toInt) → ((x2).toInt = (z2).toInt) → (0 ≤ (x3).toInt) → ((x3).toInt ≤ 10) → (((z1).toInt ≠ (z2).toInt ∧ (x3).toInt ≤ (z2).toInt) → (a_rows (10 * (z1).toInt + (z2).toInt).toNat).toInt = gP) → (((z1).toInt ≠ (z2).toInt ∧ (z2).toInt < (x3).toInt) → (a_rows (11 * (z2).toInt).toNat).toInt = gP) → (10 - (x3).toInt).toNat < mB2 → OK (k2 a_rows x1 x2 x3) (fun u => ((z1).toInt ≠ (z2).toInt → (u.2 (11 * (z2).toInt).toNat).toInt = gP))) (a_rows : Nat → Int64) (x1 : Int32) (x2 : Int32) (x3 : Int32) (i0 : 0 ≤ (z1).toInt) (i1 : (z1).toInt ≤ 4) (i2 : 0 ≤ (z2).toInt) (i3 : (z2).toInt ≤ 4) (i4 : (x1).toInt = (z1).toInt) (i5 : (x2).toInt = (z2).toInt) (i6 : 0 ≤ (x3).toInt) (i7 : (x3).toInt ≤ 10) (c_ca : ((z1).toInt ≠ (z2).toInt ∧ (x3).toInt ≤ (z2).toInt) → (a_rows (10 * (z1).toInt + (z2).toInt).toNat).toInt = gP) (c_cb : ((z1).toInt ≠ (z2).toInt ∧ (z2).toInt < (x3).toInt) → (a_rows (11 * (z2).toInt).toNat).toInt = gP) (hmu : (10 - (x3).toInt).toNat ≤ mB2) : OK (FX7_change_2 n z1 z2 k2 a_rows x1 x2 x3) (fun u => ((z1).toInt ≠ (z2).toInt → (u.2 (11 * (z2).toInt).toNat).toInt = gP)) := by
  unfold FX7_change_2
  refine OK_if (fun c3657 => ?_) (fun c3657 => ?_)
  · have v3658 : HQ ((10 : Int32)).toInt 10 := HQ.mk (by decide)
    have f3659 := le32k v3658.out rfl c3657
    exact OK_some (show ((z1).toInt ≠ (z2).toInt → (a_rows (11 * (z2).toInt).toNat).toInt = gP) from (fun h => c_cb ⟨h, by omega⟩))
  · have v3660 : HQ ((10 : Int32)).toInt 10 := HQ.mk (by decide)
    have f3661 := nle32k v3660.out rfl c3657
    have v3662 : HQ (((10 : Int32) * x1)).toInt (10 * (x1).toInt) := HQ.mk (mulV v3660.out rfl (by omega) (by omega))
    have v3663 : HQ ((((10 : Int32) * x1) + x3)).toInt ((10 * (x1).toInt) + (x3).toInt) := HQ.mk (addV v3662.out rfl (by omega) (by omega))
    refine OK_ck (ckV v3663.out (by omega) (by omega)) ?_
    obtain ⟨m3664, v3665, f3666⟩ := tnV (e := (((10 : Int32) * x1) + x3)) v3663.out (by omega)
    have v3667 : HQ ((a_rows (((((10 : Int32) * x1) + x3)).toNatClampNeg))).toInt (a_rows m3664).toInt := HQ.mk (by rw [v3665.out])
    refine OK_lt (fun x_3 e_x_3 => ?_)
    have f3668 : (x_3).toInt = (a_rows m3664).toInt := by rw [e_x_3]; exact v3667.out
    have v3669 : HQ (((10 : Int32) * x2)).toInt (10 * (x2).toInt) := HQ.mk (mulV v3660.out rfl (by omega) (by omega))
    have v3670 : HQ ((((10 : Int32) * x2) + x3)).toInt ((10 * (x2).toInt) + (x3).toInt) := HQ.mk (addV v3669.out rfl (by omega) (by omega))
    refine OK_ck (ckV v3670.out (by omega) (by omega)) ?_
    obtain ⟨m3671, v3672, f3673⟩ := tnV (e := (((10 : Int32) * x2) + x3)) v3670.out (by omega)
    have v3674 : HQ ((a_rows (((((10 : Int32) * x2) + x3)).toNatClampNeg))).toInt (a_rows m3671).toInt := HQ.mk (by rw [v3672.out])
    refine OK_lt (fun x_5 e_x_5 => ?_)
    have f3675 : (x_5).toInt = (a_rows m3671).toInt := by rw [e_x_5]; exact v3674.out
    refine OK_ck (ckV v3663.out (by omega) (by omega)) ?_
    refine OK_lt (fun f_7 e_f_7 => ?_)
    rw [v3665.out] at e_f_7
    refine OK_ck (ckV v3670.out (by omega) (by omega)) ?_
    refine OK_lt (fun f_9 e_f_9 => ?_)
    rw [v3672.out] at e_f_9
    have v3676 : HQ ((1 : Int32)).toInt 1 := HQ.mk (by decide)
    have v3677 : HQ ((x3 + (1 : Int32))).toInt ((x3).toInt + 1) := HQ.mk (addV rfl v3676.out (by omega) (by omega))
    refine OK_lt (fun x_10 e_x_10 => ?_)
    have f3678 : (x_10).toInt = ((x3).toInt + 1) := by rw [e_x_10]; exact v3677.out
    exact hk2 f_9 x1 x2 x_10 i0 i1 i2 i3 i4 i5 (by omega) (by omega) (fun h => by rw [updL_ne e_f_9 (by omega), updL_ne e_f_7 (by omega)]; exact c_ca ⟨h.1, by omega⟩) (fun h => by
        by_cases q : (x3).toInt = (z2).toInt
        · rw [updL_eq e_f_9 (by omega), rows_at e_x_3 (y := 10 * (z1).toInt + (z2).toInt) (by unfold HQ at *; omega)]; exact c_ca ⟨h.1, by omega⟩
        · rw [updL_ne e_f_9 (by omega), updL_ne e_f_7 (by omega)]; exact c_cb ⟨h.1, by omega⟩) (by omega)
theorem sFX7_change_2L (n : Nat) (hn : n = 2200000000) (z1 : Int32) (z2 : Int32) (gP : Int) : ∀ (j : Nat) (a_rows : Nat → Int64) (x1 : Int32) (x2 : Int32) (x3 : Int32), (0 ≤ (z1).toInt) → ((z1).toInt ≤ 4) → (0 ≤ (z2).toInt) → ((z2).toInt ≤ 4) → ((x1).toInt = (z1).toInt) → ((x2).toInt = (z2).toInt) → (0 ≤ (x3).toInt) → ((x3).toInt ≤ 10) → (((z1).toInt ≠ (z2).toInt ∧ (x3).toInt ≤ (z2).toInt) → (a_rows (10 * (z1).toInt + (z2).toInt).toNat).toInt = gP) → (((z1).toInt ≠ (z2).toInt ∧ (z2).toInt < (x3).toInt) → (a_rows (11 * (z2).toInt).toNat).toInt = gP) → (10 - (x3).toInt).toNat < j → OK (FX7_change_2L n z1 z2 j a_rows x1 x2 x3) (fun u => ((z1).toInt ≠ (z2).toInt → (u.2 (11 * (z2).toInt).toNat).toInt = gP)) := by
  intro j
  induction j with
  | zero => intro _ _ _ _ _ _ _ _ _ _ _ _ _ _ hj; exact absurd hj (Nat.not_lt_zero _)
  | succ j ih =>
    intro a_rows x1 x2 x3 i0 i1 i2 i3 i4 i5 i6 i7 c_ca c_cb hj
    exact sFX7_change_2 n hn z1 z2 gP (FX7_change_2L n z1 z2 j) ((10 - (x3).toInt).toNat) (fun y0 y1 y2 y3 w0 w1 w2 w3 w4 w5 w6 w7 w8 w9 hlt => ih y0 y1 y2 y3 w0 w1 w2 w3 w4 w5 w6 w7 w8 w9 (by omega)) a_rows x1 x2 x3 i0 i1 i2 i3 i4 i5 i6 i7 c_ca c_cb (Nat.le_refl _)
set_option maxHeartbeats 2000000 in
theorem sX7_change (n : Nat) (hn : n = 2200000000) (a_rows : Nat → Int64) (z1 : Int32) (z2 : Int32) (gP : Int) (i0 : 0 ≤ (z1).toInt) (i1 : (z1).toInt ≤ 4) (i2 : 0 ≤ (z2).toInt) (i3 : (z2).toInt ≤ 4) (c_gp : (a_rows (10 * (z1).toInt + (z2).toInt).toNat).toInt = gP) : OK (FX7_change n a_rows z1 z2) (fun u => ((z1).toInt ≠ (z2).toInt → (u.2 (11 * (z2).toInt).toNat).toInt = gP)) := by
  unfold FX7_change
  have v3679 : HQ ((0 : Int32)).toInt 0 := HQ.mk (by decide)
  exact sFX7_change_2L n hn z1 z2 gP n a_rows z1 z2 (0 : Int32) i0 i1 i2 i3 (by omega) (by omega) (by (rw [v3679.out]) <;> omega) (by (rw [v3679.out]) <;> omega) (fun _ => c_gp) (fun h => absurd h.2 (by have z : (0 : Int32).toInt = 0 := (by decide); omega)) (by (rw [v3679.out]) <;> omega)
