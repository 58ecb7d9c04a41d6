set_option maxHeartbeats 2000000 in
theorem sFX7_share_151 (n : Nat) (hn : n = 2200000000) (v_lorries : Int32) (a_lTown : Nat → Int32) (a_isStruck : Nat → Int32) (a_lSampled : Nat → Int32) (a_lWeight : Nat → Int32) (z1 : Int32) (z2 : Int32) (z3 : Int32) (k112 : (Nat → Int32) → (Nat → Int64) → Int32 → Int32 → Option (Int32 × (Nat → Int32) × (Nat → Int64))) (mB112 : Nat) (hk112 : ∀ (a_gets : Nat → Int32) (a_rests : Nat → Int64) (x1 : Int32) (x6 : Int32), (0 ≤ (v_lorries).toInt) → ((v_lorries).toInt ≤ 60) → (0 ≤ (x1).toInt) → ((x1).toInt ≤ 4) → ((x6).toInt).toNat < mB112 → OK (k112 a_gets a_rests x1 x6) (fun u => True)) (k123 : (Nat → Int32) → (Nat → Int64) → Int32 → Int32 → Int32 → Int32 → Option (Int32 × (Nat → Int32) × (Nat → Int64))) (mB123 : Nat) (hk123 : ∀ (a_gets : Nat → Int32) (a_rests : Nat → Int64) (x1 : Int32) (x6 : Int32) (x7 : Int32) (x8 : Int32), (0 ≤ (v_lorries).toInt) → ((v_lorries).toInt ≤ 60) → (0 ≤ (x1).toInt) → ((x1).toInt ≤ 4) → (1 ≤ (x6).toInt) → (0 ≤ (x7).toInt) → ((x7).toInt ≤ 4) → (1 ≤ (x8).toInt) → ((x8).toInt ≤ 5) → (((x6).toInt).toNat ≤ mB112) → (5 - (x8).toInt).toNat < mB123 → OK (k123 a_gets a_rests x1 x6 x7 x8) (fun u => True)) (a_gets : Nat → Int32) (a_rests : Nat → Int64) (x1 : Int32) (x6 : Int32) (x7 : Int32) (x8 : Int32) (i0 : 0 ≤ (v_lorries).toInt) (i1 : (v_lorries).toInt ≤ 60) (i2 : 0 ≤ (x1).toInt) (i3 : (x1).toInt ≤ 4) (i4 : 1 ≤ (x6).toInt) (i5 : 0 ≤ (x7).toInt) (i6 : (x7).toInt ≤ 4) (i7 : 1 ≤ (x8).toInt) (i8 : (x8).toInt ≤ 4) (i9 : ((x6).toInt).toNat ≤ mB112) (i10 : (5 - (x8).toInt).toNat ≤ mB123) : OK (FX7_share_151 n v_lorries a_lTown a_isStruck a_lSampled a_lWeight z1 z2 z3 k112 k123 a_gets a_rests x1 x6 x7 x8) (fun u => True) := by
  unfold FX7_share_151
  have v4438 : HQ ((1 : Int32)).toInt 1 := HQ.mk (by decide)
  have v4439 : HQ ((x8 + (1 : Int32))).toInt ((x8).toInt + 1) := HQ.mk (addV rfl v4438.out (by omega) (by omega))
  refine OK_lt (fun x_41 e_x_41 => ?_)
  have f4440 : (x_41).toInt = ((x8).toInt + 1) := by rw [e_x_41]; exact v4439.out
  exact hk123 a_gets a_rests x1 x6 x7 x_41 i0 i1 i2 i3 i4 i5 i6 (by omega) (by omega) i9 (by omega)
set_option maxHeartbeats 2000000 in
theorem sFX7_share_123 (n : Nat) (hn : n = 2200000000) (v_lorries : Int32) (a_lTown : Nat → Int32) (a_isStruck : Nat → Int32) (a_lSampled : Nat → Int32) (a_lWeight : Nat → Int32) (z1 : Int32) (z2 : Int32) (z3 : Int32) (k112 : (Nat → Int32) → (Nat → Int64) → Int32 → Int32 → Option (Int32 × (Nat → Int32) × (Nat → Int64))) (mB112 : Nat) (hk112 : ∀ (a_gets : Nat → Int32) (a_rests : Nat → Int64) (x1 : Int32) (x6 : Int32), (0 ≤ (v_lorries).toInt) → ((v_lorries).toInt ≤ 60) → (0 ≤ (x1).toInt) → ((x1).toInt ≤ 4) → ((x6).toInt).toNat < mB112 → OK (k112 a_gets a_rests x1 x6) (fun u => True)) (k123 : (Nat → Int32) → (Nat → Int64) → Int32 → Int32 → Int32 → Int32 → Option (Int32 × (Nat → Int32) × (Nat → Int64))) (mB123 : Nat) (hk123 : ∀ (a_gets : Nat → Int32) (a_rests : Nat → Int64) (x1 : Int32) (x6 : Int32) (x7 : Int32) (x8 : Int32), (0 ≤ (v_lorries).toInt) → ((v_lorries).toInt ≤ 60) → (0 ≤ (x1).toInt) → ((x1).toInt ≤ 4) → (1 ≤ (x6).toInt) → (0 ≤ (x7).toInt) → ((x7).toInt ≤ 4) → (1 ≤ (x8).toInt) → ((x8).toInt ≤ 5) → (((x6).toInt).toNat ≤ mB112) → (5 - (x8).toInt).toNat < mB123 → OK (k123 a_gets a_rests x1 x6 x7 x8) (fun u => True)) (a_gets : Nat → Int32) (a_rests : Nat → Int64) (x1 : Int32) (x6 : Int32) (x7 : Int32) (x8 : Int32) (i0 : 0 ≤ (v_lorries).toInt) (i1 : (v_lorries).toInt ≤ 60) (i2 : 0 ≤ (x1).toInt) (i3 : (x1).toInt ≤ 4) (i4 : 1 ≤ (x6).toInt) (i5 : 0 ≤ (x7).toInt) (i6 : (x7).toInt ≤ 4) (i7 : 1 ≤ (x8).toInt) (i8 : (x8).toInt ≤ 5) (i9 : ((x6).toInt).toNat ≤ mB112) (hmu : (5 - (x8).toInt).toNat ≤ mB123) : OK (FX7_share_123 n v_lorries a_lTown a_isStruck a_lSampled a_lWeight z1 z2 z3 k112 k123 a_gets a_rests x1 x6 x7 x8) (fun u => True) := by
  unfold FX7_share_123
  have hrg := rg32 x6
  refine OK_if (fun c4441 => ?_) (fun c4441 => ?_)
  · have v4442 : HQ ((5 : Int32)).toInt 5 := HQ.mk (by decide)
    have f4443 := le32k v4442.out rfl c4441
    refine OK_ck (ckV rfl (by omega) (by omega)) ?_
    refine OK_lt (fun x_32 e_x_32 => ?_)
    refine OK_ck (ckV rfl (by omega) (by omega)) ?_
    obtain ⟨m4444, v4445, f4446⟩ := tnV (e := x7) rfl (by omega)
    refine OK_lt (fun f_34 e_f_34 => ?_)
    rw [v4445.out] at e_f_34
    refine OK_ck (ckV rfl (by omega) (by omega)) ?_
    refine OK_lt (fun f_36 e_f_36 => ?_)
    rw [v4445.out] at e_f_36
    have v4447 : HQ ((-1 : Int32)).toInt (-1) := HQ.mk (by decide)
    have v4448 : HQ ((x6 + (-1 : Int32))).toInt ((x6).toInt + (-1)) := HQ.mk (addV rfl v4447.out (by omega) (by omega))
    refine OK_lt (fun x_37 e_x_37 => ?_)
    have f4449 : (x_37).toInt = ((x6).toInt + (-1)) := by rw [e_x_37]; exact v4448.out
    exact hk112 f_34 f_36 x1 x_37 i0 i1 i2 i3 (by omega)
  · have v4450 : HQ ((5 : Int32)).toInt 5 := HQ.mk (by decide)
    have f4451 := nle32k v4450.out rfl c4441
    refine OK_ck (ckV rfl (by omega) (by omega)) ?_
    refine OK_ck (ckV rfl (by omega) (by omega)) ?_
    refine OK_if (fun c4452 => ?_) (fun c4452 => ?_)
    · obtain ⟨m4453, v4454, f4455⟩ := tnV (e := x8) rfl (by omega)
      have v4456 : HQ ((a_rests ((x8).toNatClampNeg))).toInt (a_rests m4453).toInt := HQ.mk (by rw [v4454.out])
      obtain ⟨m4457, v4458, f4459⟩ := tnV (e := x7) rfl (by omega)
      have v4460 : HQ ((a_rests ((x7).toNatClampNeg))).toInt (a_rests m4457).toInt := HQ.mk (by rw [v4458.out])
      obtain ⟨y4461, v4462, f4463⟩ := lgV (a := (a_rests ((x8).toNatClampNeg))) (b := (a_rests ((x7).toNatClampNeg))) v4456.out v4460.out
      have v4464 : HQ ((0 : Int32)).toInt 0 := HQ.mk (by decide)
      have f4465 := le32k v4462.out v4464.out c4452
      exact sFX7_share_151 n hn v_lorries a_lTown a_isStruck a_lSampled a_lWeight z1 z2 z3 k112 mB112 hk112 k123 mB123 hk123 a_gets a_rests x1 x6 x7 x8 i0 i1 i2 i3 i4 i5 i6 i7 (by omega) i9 (by omega)
    · obtain ⟨m4466, v4467, f4468⟩ := tnV (e := x8) rfl (by omega)
      have v4469 : HQ ((a_rests ((x8).toNatClampNeg))).toInt (a_rests m4466).toInt := HQ.mk (by rw [v4467.out])
      obtain ⟨m4470, v4471, f4472⟩ := tnV (e := x7) rfl (by omega)
      have v4473 : HQ ((a_rests ((x7).toNatClampNeg))).toInt (a_rests m4470).toInt := HQ.mk (by rw [v4471.out])
      obtain ⟨y4474, v4475, f4476⟩ := lgV (a := (a_rests ((x8).toNatClampNeg))) (b := (a_rests ((x7).toNatClampNeg))) v4469.out v4473.out
      have v4477 : HQ ((0 : Int32)).toInt 0 := HQ.mk (by decide)
      have f4478 := nle32k v4475.out v4477.out c4452
      exact sFX7_share_151 n hn v_lorries a_lTown a_isStruck a_lSampled a_lWeight z1 z2 z3 k112 mB112 hk112 k123 mB123 hk123 a_gets a_rests x1 x6 x8 x8 i0 i1 i2 i3 i4 (by omega) (by omega) i7 (by omega) i9 (by omega)
theorem sFX7_share_123L (n : Nat) (hn : n = 2200000000) (v_lorries : Int32) (a_lTown : Nat → Int32) (a_isStruck : Nat → Int32) (a_lSampled : Nat → Int32) (a_lWeight : Nat → Int32) (z1 : Int32) (z2 : Int32) (z3 : Int32) (k112 : (Nat → Int32) → (Nat → Int64) → Int32 → Int32 → Option (Int32 × (Nat → Int32) × (Nat → Int64))) (mB112 : Nat) (hk112 : ∀ (a_gets : Nat → Int32) (a_rests : Nat → Int64) (x1 : Int32) (x6 : Int32), (0 ≤ (v_lorries).toInt) → ((v_lorries).toInt ≤ 60) → (0 ≤ (x1).toInt) → ((x1).toInt ≤ 4) → ((x6).toInt).toNat < mB112 → OK (k112 a_gets a_rests x1 x6) (fun u => True)) : ∀ (j : Nat) (a_gets : Nat → Int32) (a_rests : Nat → Int64) (x1 : Int32) (x6 : Int32) (x7 : Int32) (x8 : Int32), (0 ≤ (v_lorries).toInt) → ((v_lorries).toInt ≤ 60) → (0 ≤ (x1).toInt) → ((x1).toInt ≤ 4) → (1 ≤ (x6).toInt) → (0 ≤ (x7).toInt) → ((x7).toInt ≤ 4) → (1 ≤ (x8).toInt) → ((x8).toInt ≤ 5) → (((x6).toInt).toNat ≤ mB112) → (5 - (x8).toInt).toNat < j → OK (FX7_share_123L n v_lorries a_lTown a_isStruck a_lSampled a_lWeight z1 z2 z3 k112 j a_gets a_rests x1 x6 x7 x8) (fun u => True) := by
  intro j
  induction j with
  | zero => intro _ _ _ _ _ _ _ _ _ _ _ _ _ _ _ _ hj; exact absurd hj (Nat.not_lt_zero _)
  | succ j ih =>
    intro a_gets a_rests x1 x6 x7 x8 i0 i1 i2 i3 i4 i5 i6 i7 i8 i9 hj
    exact sFX7_share_123 n hn v_lorries a_lTown a_isStruck a_lSampled a_lWeight z1 z2 z3 k112 mB112 hk112 (FX7_share_123L n v_lorries a_lTown a_isStruck a_lSampled a_lWeight z1 z2 z3 k112 j) ((5 - (x8).toInt).toNat) (fun y0 y1 y2 y3 y4 y5 w0 w1 w2 w3 w4 w5 w6 w7 w8 w9 hlt => ih y0 y1 y2 y3 y4 y5 w0 w1 w2 w3 w4 w5 w6 w7 w8 w9 (by omega)) a_gets a_rests x1 x6 x7 x8 i0 i1 i2 i3 i4 i5 i6 i7 i8 i9 (Nat.le_refl _)
set_option maxHeartbeats 2000000 in
theorem sFX7_share_112 (n : Nat) (hn : n = 2200000000) (v_lorries : Int32) (a_lTown : Nat → Int32) (a_isStruck : Nat → Int32) (a_lSampled : Nat → Int32) (a_lWeight : Nat → Int32) (z1 : Int32) (z2 : Int32) (z3 : Int32) (k112 : (Nat → Int32) → (Nat → Int64) → Int32 → Int32 → Option (Int32 × (Nat → Int32) × (Nat → Int64))) (mB112 : Nat) (hk112 : ∀ (a_gets : Nat → Int32) (a_rests : Nat → Int64) (x1 : Int32) (x6 : Int32), (0 ≤ (v_lorries).toInt) → ((v_lorries).toInt ≤ 60) → (0 ≤ (x1).toInt) → ((x1).toInt ≤ 4) → ((x6).toInt).toNat < mB112 → OK (k112 a_gets a_rests x1 x6) (fun u => True)) (a_gets : Nat → Int32) (a_rests : Nat → Int64) (x1 : Int32) (x6 : Int32) (i0 : 0 ≤ (v_lorries).toInt) (i1 : (v_lorries).toInt ≤ 60) (i2 : 0 ≤ (x1).toInt) (i3 : (x1).toInt ≤ 4) (hmu : ((x6).toInt).toNat ≤ mB112) : OK (FX7_share_112 n v_lorries a_lTown a_isStruck a_lSampled a_lWeight z1 z2 z3 k112 a_gets a_rests x1 x6) (fun u => True) := by
  unfold FX7_share_112
  have hrg := rg32 x6
  refine OK_if (fun c4479 => ?_) (fun c4479 => ?_)
  · have v4480 : HQ ((0 : Int32)).toInt 0 := HQ.mk (by decide)
    have f4481 := le32k rfl v4480.out c4479
    refine OK_ck (ckV rfl (by omega) (by omega)) ?_
    exact OK_some trivial
  · have v4482 : HQ ((0 : Int32)).toInt 0 := HQ.mk (by decide)
    have f4483 := nle32k rfl v4482.out c4479
    have v4484 : HQ ((1 : Int32)).toInt 1 := HQ.mk (by decide)
    exact sFX7_share_123L n hn v_lorries a_lTown a_isStruck a_lSampled a_lWeight z1 z2 z3 k112 mB112 hk112 n a_gets a_rests x1 x6 (0 : Int32) (1 : Int32) i0 i1 i2 i3 (by omega) (by (rw [v4482.out]) <;> omega) (by (rw [v4482.out]) <;> omega) (by (rw [v4484.out]) <;> omega) (by (rw [v4484.out]) <;> omega) (by omega) (by (rw [v4484.out]) <;> omega)
theorem sFX7_share_112L (n : Nat) (hn : n = 2200000000) (v_lorries : Int32) (a_lTown : Nat → Int32) (a_isStruck : Nat → Int32) (a_lSampled : Nat → Int32) (a_lWeight : Nat → Int32) (z1 : Int32) (z2 : Int32) (z3 : Int32) : ∀ (j : Nat) (a_gets : Nat → Int32) (a_rests : Nat → Int64) (x1 : Int32) (x6 : Int32), (0 ≤ (v_lorries).toInt) → ((v_lorries).toInt ≤ 60) → (0 ≤ (x1).toInt) → ((x1).toInt ≤ 4) → ((x6).toInt).toNat < j → OK (FX7_share_112L n v_lorries a_lTown a_isStruck a_lSampled a_lWeight z1 z2 z3 j a_gets a_rests x1 x6) (fun u => True) := by
  intro j
  induction j with
  | zero => intro _ _ _ _ _ _ _ _ hj; exact absurd hj (Nat.not_lt_zero _)
  | succ j ih =>
    intro a_gets a_rests x1 x6 i0 i1 i2 i3 hj
    exact sFX7_share_112 n hn v_lorries a_lTown a_isStruck a_lSampled a_lWeight z1 z2 z3 (FX7_share_112L n v_lorries a_lTown a_isStruck a_lSampled a_lWeight z1 z2 z3 j) (((x6).toInt).toNat) (fun y0 y1 y2 y3 w0 w1 w2 w3 hlt => ih y0 y1 y2 y3 w0 w1 w2 w3 (by omega)) a_gets a_rests x1 x6 i0 i1 i2 i3 (Nat.le_refl _)
set_option maxHeartbeats 2000000 in
theorem sFX7_share_50 (n : Nat) (hn : n = 2200000000) (v_lorries : Int32) (a_lTown : Nat → Int32) (a_isStruck : Nat → Int32) (a_lSampled : Nat → Int32) (a_lWeight : Nat → Int32) (z1 : Int32) (z2 : Int32) (z3 : Int32) (k50 : (Nat → Int32) → (Nat → Int64) → Int32 → Int32 → Int32 → Int64 → Int32 → Int32 → Option (Int32 × (Nat → Int32) × (Nat → Int64))) (mB50 : Nat) (hk50 : ∀ (a_gets : Nat → Int32) (a_rests : Nat → Int64) (x1 : Int32) (x2 : Int32) (x3 : Int32) (x4 : Int64) (x6 : Int32) (x7 : Int32), (0 ≤ (v_lorries).toInt) → ((v_lorries).toInt ≤ 60) → (0 ≤ (x1).toInt) → ((x1).toInt ≤ 4) → (0 ≤ (x2).toInt) → ((x2).toInt ≤ 4) → ((x4).toInt ≠ 0) → (0 ≤ (x7).toInt) → ((x7).toInt ≤ 5) → (5 - (x7).toInt).toNat < mB50 → OK (k50 a_gets a_rests x1 x2 x3 x4 x6 x7) (fun u => True)) (a_gets : Nat → Int32) (a_rests : Nat → Int64) (x1 : Int32) (x2 : Int32) (x3 : Int32) (x4 : Int64) (x6 : Int32) (x7 : Int32) (i0 : 0 ≤ (v_lorries).toInt) (i1 : (v_lorries).toInt ≤ 60) (i2 : 0 ≤ (x1).toInt) (i3 : (x1).toInt ≤ 4) (i4 : 0 ≤ (x2).toInt) (i5 : (x2).toInt ≤ 4) (i6 : (x4).toInt ≠ 0) (i7 : 0 ≤ (x7).toInt) (i8 : (x7).toInt ≤ 5) (hmu : (5 - (x7).toInt).toNat ≤ mB50) : OK (FX7_share_50 n v_lorries a_lTown a_isStruck a_lSampled a_lWeight z1 z2 z3 k50 a_gets a_rests x1 x2 x3 x4 x6 x7) (fun u => True) := by
  unfold FX7_share_50
  have hrg := rg32 x6
  refine OK_if (fun c4485 => ?_) (fun c4485 => ?_)
  · have v4486 : HQ ((5 : Int32)).toInt 5 := HQ.mk (by decide)
    have f4487 := le32k v4486.out rfl c4485
    exact sFX7_share_112L n hn v_lorries a_lTown a_isStruck a_lSampled a_lWeight z1 z2 z3 n a_gets a_rests x1 x6 i0 i1 i2 i3 (by omega)
  · have v4488 : HQ ((5 : Int32)).toInt 5 := HQ.mk (by decide)
    have f4489 := nle32k v4488.out rfl c4485
    refine OK_bd (sX7_broughtBy n hn v_lorries a_lTown a_isStruck a_lSampled a_lWeight x7 x2 i0 i1 i4 i5) (fun u_15 p_u_15 => ?_)
    refine OK_lt (fun x_16 e_x_16 => ?_)
    refine OK_ck (neV64 rfl (by omega)) ?_
    obtain ⟨y4490, v4491⟩ := HQ.any (((x_16 / x4)).toInt32).toInt
    refine OK_lt (fun x_18 e_x_18 => ?_)
    have f4492 : (x_18).toInt = y4490 := by rw [e_x_18]; exact v4491.out
    refine OK_ck (ckV rfl (by omega) (by omega)) ?_
    obtain ⟨m4493, v4494, f4495⟩ := tnV (e := x7) rfl (by omega)
    refine OK_lt (fun f_20 e_f_20 => ?_)
    rw [v4494.out] at e_f_20
    refine OK_ck (neV64 rfl (by omega)) ?_
    refine OK_lt (fun x_22 e_x_22 => ?_)
    refine OK_ck (ckV rfl (by omega) (by omega)) ?_
    refine OK_lt (fun f_24 e_f_24 => ?_)
    rw [v4494.out] at e_f_24
    refine OK_ck (ckV rfl (by omega) (by omega)) ?_
    refine OK_lt (fun x_26 e_x_26 => ?_)
    have v4496 : HQ ((1 : Int32)).toInt 1 := HQ.mk (by decide)
    have v4497 : HQ ((x7 + (1 : Int32))).toInt ((x7).toInt + 1) := HQ.mk (addV rfl v4496.out (by omega) (by omega))
    refine OK_lt (fun x_27 e_x_27 => ?_)
    have f4498 : (x_27).toInt = ((x7).toInt + 1) := by rw [e_x_27]; exact v4497.out
    exact hk50 f_20 f_24 x1 x2 x3 x4 x_26 x_27 i0 i1 i2 i3 i4 i5 i6 (by omega) (by omega) (by omega)
theorem sFX7_share_50L (n : Nat) (hn : n = 2200000000) (v_lorries : Int32) (a_lTown : Nat → Int32) (a_isStruck : Nat → Int32) (a_lSampled : Nat → Int32) (a_lWeight : Nat → Int32) (z1 : Int32) (z2 : Int32) (z3 : Int32) : ∀ (j : Nat) (a_gets : Nat → Int32) (a_rests : Nat → Int64) (x1 : Int32) (x2 : Int32) (x3 : Int32) (x4 : Int64) (x6 : Int32) (x7 : Int32), (0 ≤ (v_lorries).toInt) → ((v_lorries).toInt ≤ 60) → (0 ≤ (x1).toInt) → ((x1).toInt ≤ 4) → (0 ≤ (x2).toInt) → ((x2).toInt ≤ 4) → ((x4).toInt ≠ 0) → (0 ≤ (x7).toInt) → ((x7).toInt ≤ 5) → (5 - (x7).toInt).toNat < j → OK (FX7_share_50L n v_lorries a_lTown a_isStruck a_lSampled a_lWeight z1 z2 z3 j a_gets a_rests x1 x2 x3 x4 x6 x7) (fun u => True) := by
  intro j
  induction j with
  | zero => intro _ _ _ _ _ _ _ _ _ _ _ _ _ _ _ _ _ hj; exact absurd hj (Nat.not_lt_zero _)
  | succ j ih =>
    intro a_gets a_rests x1 x2 x3 x4 x6 x7 i0 i1 i2 i3 i4 i5 i6 i7 i8 hj
    exact sFX7_share_50 n hn v_lorries a_lTown a_isStruck a_lSampled a_lWeight z1 z2 z3 (FX7_share_50L n v_lorries a_lTown a_isStruck a_lSampled a_lWeight z1 z2 z3 j) ((5 - (x7).toInt).toNat) (fun y0 y1 y2 y3 y4 y5 y6 y7 w0 w1 w2 w3 w4 w5 w6 w7 w8 hlt => ih y0 y1 y2 y3 y4 y5 y6 y7 w0 w1 w2 w3 w4 w5 w6 w7 w8 (by omega)) a_gets a_rests x1 x2 x3 x4 x6 x7 i0 i1 i2 i3 i4 i5 i6 i7 i8 (Nat.le_refl _)
set_option maxHeartbeats 2000000 in
theorem sX7_share (n : Nat) (hn : n = 2200000000) (v_lorries : Int32) (a_lTown : Nat → Int32) (a_isStruck : Nat → Int32) (a_lSampled : Nat → Int32) (a_lWeight : Nat → Int32) (a_gets : Nat → Int32) (a_rests : Nat → Int64) (z1 : Int32) (z2 : Int32) (z3 : Int32) (i0 : 0 ≤ (v_lorries).toInt) (i1 : (v_lorries).toInt ≤ 60) : OK (FX7_share n v_lorries a_lTown a_isStruck a_lSampled a_lWeight a_gets a_rests z1 z2 z3) (fun u => True) := by
  unfold FX7_share
  refine OK_bd (sX7_isTown n hn z1) (fun u_2 p_u_2 => ?_)
  obtain ⟨p4499, p4500, p4501⟩ := p_u_2
  refine OK_if (fun c4502 => ?_) (fun c4502 => ?_)
  · have v4503 : HQ ((0 : Int32)).toInt 0 := HQ.mk (by decide)
    have f4504 := eq32k rfl v4503.out c4502
    exact OK_some trivial
  · have v4505 : HQ ((0 : Int32)).toInt 0 := HQ.mk (by decide)
    have f4506 := neq32k rfl v4505.out c4502
    refine OK_bd (sX7_isKind n hn z2) (fun u_5 p_u_5 => ?_)
    obtain ⟨p4507, p4508, p4509⟩ := p_u_5
    refine OK_if (fun c4510 => ?_) (fun c4510 => ?_)
    · have f4511 := eq32k rfl v4505.out c4510
      exact OK_some trivial
    · have f4512 := neq32k rfl v4505.out c4510
      refine OK_if (fun c4513 => ?_) (fun c4513 => ?_)
      · have f4514 := lt32k rfl v4505.out c4513
        exact OK_some trivial
      · have f4515 := nlt32k rfl v4505.out c4513
        refine OK_if (fun c4516 => ?_) (fun c4516 => ?_)
        · have v4517 : HQ ((10000000 : Int32)).toInt 10000000 := HQ.mk (by decide)
          have f4518 := le32k rfl v4517.out c4516
          refine OK_bd (sX7_broughtByAll n hn v_lorries a_lTown a_isStruck a_lSampled a_lWeight z2 i0 i1 (by omega) (by omega)) (fun u_10 p_u_10 => ?_)
          have v4519 : HQ ((u_10.1).toInt64).toInt (u_10.1).toInt := HQ.mk ((Int32.toInt_toInt64 _).trans rfl)
          refine OK_lt (fun x_11 e_x_11 => ?_)
          have f4520 : (x_11).toInt = (u_10.1).toInt := by rw [e_x_11]; exact v4519.out
          refine OK_if (fun c4521 => ?_) (fun c4521 => ?_)
          · have v4522 : HQ ((0 : Int64)).toInt 0 := HQ.mk (by decide)
            obtain ⟨y4523, v4524, f4525⟩ := lgV (a := x_11) (b := (0 : Int64)) rfl v4522.out
            have f4526 := eq32k v4524.out v4505.out c4521
            exact OK_some trivial
          · have v4527 : HQ ((0 : Int64)).toInt 0 := HQ.mk (by decide)
            obtain ⟨y4528, v4529, f4530⟩ := lgV (a := x_11) (b := (0 : Int64)) rfl v4527.out
            have f4531 := neq32k v4529.out v4505.out c4521
            exact sFX7_share_50L n hn v_lorries a_lTown a_isStruck a_lSampled a_lWeight z1 z2 z3 n a_gets a_rests z1 z2 z3 x_11 z3 (0 : Int32) i0 i1 (by omega) (by omega) (by omega) (by omega) (by omega) (by (rw [v4505.out]) <;> omega) (by (rw [v4505.out]) <;> omega) (by (rw [v4505.out]) <;> omega)
        · have v4532 : HQ ((10000000 : Int32)).toInt 10000000 := HQ.mk (by decide)
          have f4533 := nle32k rfl v4532.out c4516
          exact OK_some trivial
