set_option maxHeartbeats 2000000 in
theorem sFX7_share_151 (n : Nat) (hn : n = 2200000000) (v_lorries : Int32) (a_lTown : Nat → Int32) (a_isStruck : Nat → Int32) (a_lSampled : Nat → Int32) (a_lWeight : Nat → Int32) (z1 : Int32) (z2 : Int32) (z3 : Int32) (k112 : (Nat → Int32) → (Nat → Int64) → Int32 → Int32 → Option (Int32 × (Nat → Int32) × (Nat → Int64))) (mB112 : Nat) (hk112 : ∀ (a_gets : Nat → Int32) (a_rests : Nat → Int64) (x1 : Int32) (x6 : Int32), (0 ≤ (v_lorries).toInt) → ((v_lorries).toInt ≤ 60) → (0 ≤ (x1).toInt) → ((x1).toInt ≤ 4) → ((x6).toInt).toNat < mB112 → OK (k112 a_gets a_rests x1 x6) (fun u => True)) (k123 : (Nat → Int32) → (Nat → Int64) → Int32 → Int32 → Int32 → Int32 → Option (Int32 × (Nat → Int32) × (Nat → Int64))) (mB123 : Nat) (hk123 : ∀ (a_gets : Nat → Int32) (a_rests : Nat → Int64) (x1 : Int32) (x6 : Int32) (x7 : Int32) (x8 : Int32), (0 ≤ (v_lorries).toInt) → ((v_lorries).toInt ≤ 60) → (0 ≤ (x1).toInt) → ((x1).toInt ≤ 4) → (1 ≤ (x6).toInt) → (0 ≤ (x7).toInt) → ((x7).toInt ≤ 4) → (1 ≤ (x8).toInt) → ((x8).toInt ≤ 5) → (((x6).toInt).toNat ≤ mB112) → (5 - (x8).toInt).toNat < mB123 → OK (k123 a_gets a_rests x1 x6 x7 x8) (fun u => True)) (a_gets : Nat → Int32) (a_rests : Nat → Int64) (x1 : Int32) (x6 : Int32) (x7 : Int32) (x8 : Int32) (i0 : 0 ≤ (v_lorries).toInt) (i1 : (v_lorries).toInt ≤ 60) (i2 : 0 ≤ (x1).toInt) (i3 : (x1).toInt ≤ 4) (i4 : 1 ≤ (x6).toInt) (i5 : 0 ≤ (x7).toInt) (i6 : (x7).toInt ≤ 4) (i7 : 1 ≤ (x8).toInt) (i8 : (x8).toInt ≤ 4) (i9 : ((x6).toInt).toNat ≤ mB112) (i10 : (5 - (x8).toInt).toNat ≤ mB123) : OK (FX7_share_151 n v_lorries a_lTown a_isStruck a_lSampled a_lWeight z1 z2 z3 k112 k123 a_gets a_rests x1 x6 x7 x8) (fun u => True) := by
  unfold FX7_share_151
  have v4442 : HQ ((1 : Int32)).toInt 1 := HQ.mk (by decide)
  have v4443 : HQ ((x8 + (1 : Int32))).toInt ((x8).toInt + 1) := HQ.mk (addV rfl v4442.out (by omega) (by omega))
  refine OK_lt (fun x_41 e_x_41 => ?_)
  have f4444 : (x_41).toInt = ((x8).toInt + 1) := by rw [e_x_41]; exact v4443.out
  exact hk123 a_gets a_rests x1 x6 x7 x_41 i0 i1 i2 i3 i4 i5 i6 (by omega) (by omega) i9 (by omega)
set_option maxHeartbeats 2000000 in
theorem sFX7_share_123 (n : Nat) (hn : n = 2200000000) (v_lorries : Int32) (a_lTown : Nat → Int32) (a_isStruck : Nat → Int32) (a_lSampled : Nat → Int32) (a_lWeight : Nat → Int32) (z1 : Int32) (z2 : Int32) (z3 : Int32) (k112 : (Nat → Int32) → (Nat → Int64) → Int32 → Int32 → Option (Int32 × (Nat → Int32) × (Nat → Int64))) (mB112 : Nat) (hk112 : ∀ (a_gets : Nat → Int32) (a_rests : Nat → Int64) (x1 : Int32) (x6 : Int32), (0 ≤ (v_lorries).toInt) → ((v_lorries).toInt ≤ 60) → (0 ≤ (x1).toInt) → ((x1).toInt ≤ 4) → ((x6).toInt).toNat < mB112 → OK (k112 a_gets a_rests x1 x6) (fun u => True)) (k123 : (Nat → Int32) → (Nat → Int64) → Int32 → Int32 → Int32 → Int32 → Option (Int32 × (Nat → Int32) × (Nat → Int64))) (mB123 : Nat) (hk123 : ∀ (a_gets : Nat → Int32) (a_rests : Nat → Int64) (x1 : Int32) (x6 : Int32) (x7 : Int32) (x8 : Int32), (0 ≤ (v_lorries).toInt) → ((v_lorries).toInt ≤ 60) → (0 ≤ (x1).toInt) → ((x1).toInt ≤ 4) → (1 ≤ (x6).toInt) → (0 ≤ (x7).toInt) → ((x7).toInt ≤ 4) → (1 ≤ (x8).toInt) → ((x8).toInt ≤ 5) → (((x6).toInt).toNat ≤ mB112) → (5 - (x8).toInt).toNat < mB123 → OK (k123 a_gets a_rests x1 x6 x7 x8) (fun u => True)) (a_gets : Nat → Int32) (a_rests : Nat → Int64) (x1 : Int32) (x6 : Int32) (x7 : Int32) (x8 : Int32) (i0 : 0 ≤ (v_lorries).toInt) (i1 : (v_lorries).toInt ≤ 60) (i2 : 0 ≤ (x1).toInt) (i3 : (x1).toInt ≤ 4) (i4 : 1 ≤ (x6).toInt) (i5 : 0 ≤ (x7).toInt) (i6 : (x7).toInt ≤ 4) (i7 : 1 ≤ (x8).toInt) (i8 : (x8).toInt ≤ 5) (i9 : ((x6).toInt).toNat ≤ mB112) (hmu : (5 - (x8).toInt).toNat ≤ mB123) : OK (FX7_share_123 n v_lorries a_lTown a_isStruck a_lSampled a_lWeight z1 z2 z3 k112 k123 a_gets a_rests x1 x6 x7 x8) (fun u => True) := by
  unfold FX7_share_123
  have hrg := rg32 x6
  refine OK_if (fun c4445 => ?_) (fun c4445 => ?_)
  · have v4446 : HQ ((5 : Int32)).toInt 5 := HQ.mk (by decide)
    have f4447 := le32k v4446.out rfl c4445
    refine OK_ck (ckV rfl (by omega) (by omega)) ?_
    refine OK_lt (fun x_32 e_x_32 => ?_)
    refine OK_ck (ckV rfl (by omega) (by omega)) ?_
    obtain ⟨m4448, v4449, f4450⟩ := tnV (e := x7) rfl (by omega)
    refine OK_lt (fun f_34 e_f_34 => ?_)
    rw [v4449.out] at e_f_34
    refine OK_ck (ckV rfl (by omega) (by omega)) ?_
    refine OK_lt (fun f_36 e_f_36 => ?_)
    rw [v4449.out] at e_f_36
    have v4451 : HQ ((-1 : Int32)).toInt (-1) := HQ.mk (by decide)
    have v4452 : HQ ((x6 + (-1 : Int32))).toInt ((x6).toInt + (-1)) := HQ.mk (addV rfl v4451.out (by omega) (by omega))
    refine OK_lt (fun x_37 e_x_37 => ?_)
    have f4453 : (x_37).toInt = ((x6).toInt + (-1)) := by rw [e_x_37]; exact v4452.out
    exact hk112 f_34 f_36 x1 x_37 i0 i1 i2 i3 (by omega)
  · have v4454 : HQ ((5 : Int32)).toInt 5 := HQ.mk (by decide)
    have f4455 := nle32k v4454.out rfl c4445
    refine OK_ck (ckV rfl (by omega) (by omega)) ?_
    refine OK_ck (ckV rfl (by omega) (by omega)) ?_
    refine OK_if (fun c4456 => ?_) (fun c4456 => ?_)
    · obtain ⟨m4457, v4458, f4459⟩ := tnV (e := x8) rfl (by omega)
      have v4460 : HQ ((a_rests ((x8).toNatClampNeg))).toInt (a_rests m4457).toInt := HQ.mk (by rw [v4458.out])
      obtain ⟨m4461, v4462, f4463⟩ := tnV (e := x7) rfl (by omega)
      have v4464 : HQ ((a_rests ((x7).toNatClampNeg))).toInt (a_rests m4461).toInt := HQ.mk (by rw [v4462.out])
      obtain ⟨y4465, v4466, f4467⟩ := lgV (a := (a_rests ((x8).toNatClampNeg))) (b := (a_rests ((x7).toNatClampNeg))) v4460.out v4464.out
      have v4468 : HQ ((0 : Int32)).toInt 0 := HQ.mk (by decide)
      have f4469 := le32k v4466.out v4468.out c4456
      exact sFX7_share_151 n hn v_lorries a_lTown a_isStruck a_lSampled a_lWeight z1 z2 z3 k112 mB112 hk112 k123 mB123 hk123 a_gets a_rests x1 x6 x7 x8 i0 i1 i2 i3 i4 i5 i6 i7 (by omega) i9 (by omega)
    · obtain ⟨m4470, v4471, f4472⟩ := tnV (e := x8) rfl (by omega)
      have v4473 : HQ ((a_rests ((x8).toNatClampNeg))).toInt (a_rests m4470).toInt := HQ.mk (by rw [v4471.out])
      obtain ⟨m4474, v4475, f4476⟩ := tnV (e := x7) rfl (by omega)
      have v4477 : HQ ((a_rests ((x7).toNatClampNeg))).toInt (a_rests m4474).toInt := HQ.mk (by rw [v4475.out])
      obtain ⟨y4478, v4479, f4480⟩ := lgV (a := (a_rests ((x8).toNatClampNeg))) (b := (a_rests ((x7).toNatClampNeg))) v4473.out v4477.out
      have v4481 : HQ ((0 : Int32)).toInt 0 := HQ.mk (by decide)
      have f4482 := nle32k v4479.out v4481.out c4456
      exact sFX7_share_151 n hn v_lorries a_lTown a_isStruck a_lSampled a_lWeight z1 z2 z3 k112 mB112 hk112 k123 mB123 hk123 a_gets a_rests x1 x6 x8 x8 i0 i1 i2 i3 i4 (by omega) (by omega) i7 (by omega) i9 (by omega)
theorem sFX7_share_123L (n : Nat) (hn : n = 2200000000) (v_lorries : Int32) (a_lTown : Nat → Int32) (a_isStruck : Nat → Int32) (a_lSampled : Nat → Int32) (a_lWeight : Nat → Int32) (z1 : Int32) (z2 : Int32) (z3 : Int32) (k112 : (Nat → Int32) → (Nat → Int64) → Int32 → Int32 → Option (Int32 × (Nat → Int32) × (Nat → Int64))) (mB112 : Nat) (hk112 : ∀ (a_gets : Nat → Int32) (a_rests : Nat → Int64) (x1 : Int32) (x6 : Int32), (0 ≤ (v_lorries).toInt) → ((v_lorries).toInt ≤ 60) → (0 ≤ (x1).toInt) → ((x1).toInt ≤ 4) → ((x6).toInt).toNat < mB112 → OK (k112 a_gets a_rests x1 x6) (fun u => True)) : ∀ (j : Nat) (a_gets : Nat → Int32) (a_rests : Nat → Int64) (x1 : Int32) (x6 : Int32) (x7 : Int32) (x8 : Int32), (0 ≤ (v_lorries).toInt) → ((v_lorries).toInt ≤ 60) → (0 ≤ (x1).toInt) → ((x1).toInt ≤ 4) → (1 ≤ (x6).toInt) → (0 ≤ (x7).toInt) → ((x7).toInt ≤ 4) → (1 ≤ (x8).toInt) → ((x8).toInt ≤ 5) → (((x6).toInt).toNat ≤ mB112) → (5 - (x8).toInt).toNat < j → OK (FX7_share_123L n v_lorries a_lTown a_isStruck a_lSampled a_lWeight z1 z2 z3 k112 j a_gets a_rests x1 x6 x7 x8) (fun u => True) := by
  intro j
  induction j with
  | zero => intro _ _ _ _ _ _ _ _ _ _ _ _ _ _ _ _ hj; exact absurd hj (Nat.not_lt_zero _)
  | succ j ih =>
    intro a_gets a_rests x1 x6 x7 x8 i0 i1 i2 i3 i4 i5 i6 i7 i8 i9 hj
    exact sFX7_share_123 n hn v_lorries a_lTown a_isStruck a_lSampled a_lWeight z1 z2 z3 k112 mB112 hk112 (FX7_share_123L n v_lorries a_lTown a_isStruck a_lSampled a_lWeight z1 z2 z3 k112 j) ((5 - (x8).toInt).toNat) (fun y0 y1 y2 y3 y4 y5 w0 w1 w2 w3 w4 w5 w6 w7 w8 w9 hlt => ih y0 y1 y2 y3 y4 y5 w0 w1 w2 w3 w4 w5 w6 w7 w8 w9 (by omega)) a_gets a_rests x1 x6 x7 x8 i0 i1 i2 i3 i4 i5 i6 i7 i8 i9 (Nat.le_refl _)
set_option maxHeartbeats 2000000 in
theorem sFX7_share_112 (n : Nat) (hn : n = 2200000000) (v_lorries : Int32) (a_lTown : Nat → Int32) (a_isStruck : Nat → Int32) (a_lSampled : Nat → Int32) (a_lWeight : Nat → Int32) (z1 : Int32) (z2 : Int32) (z3 : Int32) (k112 : (Nat → Int32) → (Nat → Int64) → Int32 → Int32 → Option (Int32 × (Nat → Int32) × (Nat → Int64))) (mB112 : Nat) (hk112 : ∀ (a_gets : Nat → Int32) (a_rests : Nat → Int64) (x1 : Int32) (x6 : Int32), (0 ≤ (v_lorries).toInt) → ((v_lorries).toInt ≤ 60) → (0 ≤ (x1).toInt) → ((x1).toInt ≤ 4) → ((x6).toInt).toNat < mB112 → OK (k112 a_gets a_rests x1 x6) (fun u => True)) (a_gets : Nat → Int32) (a_rests : Nat → Int64) (x1 : Int32) (x6 : Int32) (i0 : 0 ≤ (v_lorries).toInt) (i1 : (v_lorries).toInt ≤ 60) (i2 : 0 ≤ (x1).toInt) (i3 : (x1).toInt ≤ 4) (hmu : ((x6).toInt).toNat ≤ mB112) : OK (FX7_share_112 n v_lorries a_lTown a_isStruck a_lSampled a_lWeight z1 z2 z3 k112 a_gets a_rests x1 x6) (fun u => True) := by
  unfold FX7_share_112
  have hrg := rg32 x6
  refine OK_if (fun c4483 => ?_) (fun c4483 => ?_)
  · have v4484 : HQ ((0 : Int32)).toInt 0 := HQ.mk (by decide)
    have f4485 := le32k rfl v4484.out c4483
    refine OK_ck (ckV rfl (by omega) (by omega)) ?_
    exact OK_some trivial
  · have v4486 : HQ ((0 : Int32)).toInt 0 := HQ.mk (by decide)
    have f4487 := nle32k rfl v4486.out c4483
    have v4488 : HQ ((1 : Int32)).toInt 1 := HQ.mk (by decide)
    exact sFX7_share_123L n hn v_lorries a_lTown a_isStruck a_lSampled a_lWeight z1 z2 z3 k112 mB112 hk112 n a_gets a_rests x1 x6 (0 : Int32) (1 : Int32) i0 i1 i2 i3 (by omega) (by (rw [v4486.out]) <;> omega) (by (rw [v4486.out]) <;> omega) (by (rw [v4488.out]) <;> omega) (by (rw [v4488.out]) <;> omega) (by omega) (by (rw [v4488.out]) <;> omega)
theorem sFX7_share_112L (n : Nat) (hn : n = 2200000000) (v_lorries : Int32) (a_lTown : Nat → Int32) (a_isStruck : Nat → Int32) (a_lSampled : Nat → Int32) (a_lWeight : Nat → Int32) (z1 : Int32) (z2 : Int32) (z3 : Int32) : ∀ (j : Nat) (a_gets : Nat → Int32) (a_rests : Nat → Int64) (x1 : Int32) (x6 : Int32), (0 ≤ (v_lorries).toInt) → ((v_lorries).toInt ≤ 60) → (0 ≤ (x1).toInt) → ((x1).toInt ≤ 4) → ((x6).toInt).toNat < j → OK (FX7_share_112L n v_lorries a_lTown a_isStruck a_lSampled a_lWeight z1 z2 z3 j a_gets a_rests x1 x6) (fun u => True) := by
  intro j
  induction j with
  | zero => intro _ _ _ _ _ _ _ _ hj; exact absurd hj (Nat.not_lt_zero _)
  | succ j ih =>
    intro a_gets a_rests x1 x6 i0 i1 i2 i3 hj
    exact sFX7_share_112 n hn v_lorries a_lTown a_isStruck a_lSampled a_lWeight z1 z2 z3 (FX7_share_112L n v_lorries a_lTown a_isStruck a_lSampled a_lWeight z1 z2 z3 j) (((x6).toInt).toNat) (fun y0 y1 y2 y3 w0 w1 w2 w3 hlt => ih y0 y1 y2 y3 w0 w1 w2 w3 (by omega)) a_gets a_rests x1 x6 i0 i1 i2 i3 (Nat.le_refl _)
set_option maxHeartbeats 2000000 in
theorem sFX7_share_50 (n : Nat) (hn : n = 2200000000) (v_lorries : Int32) (a_lTown : Nat → Int32) (a_isStruck : Nat → Int32) (a_lSampled : Nat → Int32) (a_lWeight : Nat → Int32) (z1 : Int32) (z2 : Int32) (z3 : Int32) (k50 : (Nat → Int32) → (Nat → Int64) → Int32 → Int32 → Int32 → Int64 → Int32 → Int32 → Option (Int32 × (Nat → Int32) × (Nat → Int64))) (mB50 : Nat) (hk50 : ∀ (a_gets : Nat → Int32) (a_rests : Nat → Int64) (x1 : Int32) (x2 : Int32) (x3 : Int32) (x4 : Int64) (x6 : Int32) (x7 : Int32), (0 ≤ (v_lorries).toInt) → ((v_lorries).toInt ≤ 60) → (0 ≤ (x1).toInt) → ((x1).toInt ≤ 4) → (0 ≤ (x2).toInt) → ((x2).toInt ≤ 4) → ((x4).toInt ≠ 0) → (0 ≤ (x7).toInt) → ((x7).toInt ≤ 5) → (5 - (x7).toInt).toNat < mB50 → OK (k50 a_gets a_rests x1 x2 x3 x4 x6 x7) (fun u => True)) (a_gets : Nat → Int32) (a_rests : Nat → Int64) (x1 : Int32) (x2 : Int32) (x3 : Int32) (x4 : Int64) (x6 : Int32) (x7 : Int32) (i0 : 0 ≤ (v_lorries).toInt) (i1 : (v_lorries).toInt ≤ 60) (i2 : 0 ≤ (x1).toInt) (i3 : (x1).toInt ≤ 4) (i4 : 0 ≤ (x2).toInt) (i5 : (x2).toInt ≤ 4) (i6 : (x4).toInt ≠ 0) (i7 : 0 ≤ (x7).toInt) (i8 : (x7).toInt ≤ 5) (hmu : (5 - (x7).toInt).toNat ≤ mB50) : OK (FX7_share_50 n v_lorries a_lTown a_isStruck a_lSampled a_lWeight z1 z2 z3 k50 a_gets a_rests x1 x2 x3 x4 x6 x7) (fun u => True) := by
  unfold FX7_share_50
  have hrg := rg32 x6
  refine OK_if (fun c4489 => ?_) (fun c4489 => ?_)
  · have v4490 : HQ ((5 : Int32)).toInt 5 := HQ.mk (by decide)
    have f4491 := le32k v4490.out rfl c4489
    exact sFX7_share_112L n hn v_lorries a_lTown a_isStruck a_lSampled a_lWeight z1 z2 z3 n a_gets a_rests x1 x6 i0 i1 i2 i3 (by omega)
  · have v4492 : HQ ((5 : Int32)).toInt 5 := HQ.mk (by decide)
    have f4493 := nle32k v4492.out rfl c4489
    refine OK_bd (sX7_broughtBy n hn v_lorries a_lTown a_isStruck a_lSampled a_lWeight x7 x2 i0 i1 i4 i5) (fun u_15 p_u_15 => ?_)
    refine OK_lt (fun x_16 e_x_16 => ?_)
    refine OK_ck (neV64 rfl (by omega)) ?_
    obtain ⟨y4494, v4495⟩ := HQ.any (((x_16 / x4)).toInt32).toInt
    refine OK_lt (fun x_18 e_x_18 => ?_)
    have f4496 : (x_18).toInt = y4494 := by rw [e_x_18]; exact v4495.out
    refine OK_ck (ckV rfl (by omega) (by omega)) ?_
    obtain ⟨m4497, v4498, f4499⟩ := tnV (e := x7) rfl (by omega)
    refine OK_lt (fun f_20 e_f_20 => ?_)
    rw [v4498.out] at e_f_20
    refine OK_ck (neV64 rfl (by omega)) ?_
    refine OK_lt (fun x_22 e_x_22 => ?_)
    refine OK_ck (ckV rfl (by omega) (by omega)) ?_
    refine OK_lt (fun f_24 e_f_24 => ?_)
    rw [v4498.out] at e_f_24
    refine OK_ck (ckV rfl (by omega) (by omega)) ?_
    refine OK_lt (fun x_26 e_x_26 => ?_)
    have v4500 : HQ ((1 : Int32)).toInt 1 := HQ.mk (by decide)
    have v4501 : HQ ((x7 + (1 : Int32))).toInt ((x7).toInt + 1) := HQ.mk (addV rfl v4500.out (by omega) (by omega))
    refine OK_lt (fun x_27 e_x_27 => ?_)
    have f4502 : (x_27).toInt = ((x7).toInt + 1) := by rw [e_x_27]; exact v4501.out
    exact hk50 f_20 f_24 x1 x2 x3 x4 x_26 x_27 i0 i1 i2 i3 i4 i5 i6 (by omega) (by omega) (by omega)
theorem sFX7_share_50L (n : Nat) (hn : n = 2200000000) (v_lorries : Int32) (a_lTown : Nat → Int32) (a_isStruck : Nat → Int32) (a_lSampled : Nat → Int32) (a_lWeight : Nat → Int32) (z1 : Int32) (z2 : Int32) (z3 : Int32) : ∀ (j : Nat) (a_gets : Nat → Int32) (a_rests : Nat → Int64) (x1 : Int32) (x2 : Int32) (x3 : Int32) (x4 : Int64) (x6 : Int32) (x7 : Int32), (0 ≤ (v_lorries).toInt) → ((v_lorries).toInt ≤ 60) → (0 ≤ (x1).toInt) → ((x1).toInt ≤ 4) → (0 ≤ (x2).toInt) → ((x2).toInt ≤ 4) → ((x4).toInt ≠ 0) → (0 ≤ (x7).toInt) → ((x7).toInt ≤ 5) → (5 - (x7).toInt).toNat < j → OK (FX7_share_50L n v_lorries a_lTown a_isStruck a_lSampled a_lWeight z1 z2 z3 j a_gets a_rests x1 x2 x3 x4 x6 x7) (fun u => True) := by
  intro j
  induction j with
  | zero => intro _ _ _ _ _ _ _ _ _ _ _ _ _ _ _ _ _ hj; exact absurd hj (Nat.not_lt_zero _)
  | succ j ih =>
    intro a_gets a_rests x1 x2 x3 x4 x6 x7 i0 i1 i2 i3 i4 i5 i6 i7 i8 hj
    exact sFX7_share_50 n hn v_lorries a_lTown a_isStruck a_lSampled a_lWeight z1 z2 z3 (FX7_share_50L n v_lorries a_lTown a_isStruck a_lSampled a_lWeight z1 z2 z3 j) ((5 - (x7).toInt).toNat) (fun y0 y1 y2 y3 y4 y5 y6 y7 w0 w1 w2 w3 w4 w5 w6 w7 w8 hlt => ih y0 y1 y2 y3 y4 y5 y6 y7 w0 w1 w2 w3 w4 w5 w6 w7 w8 (by omega)) a_gets a_rests x1 x2 x3 x4 x6 x7 i0 i1 i2 i3 i4 i5 i6 i7 i8 (Nat.le_refl _)
set_option maxHeartbeats 2000000 in
theorem sX7_share (n : Nat) (hn : n = 2200000000) (v_lorries : Int32) (a_lTown : Nat → Int32) (a_isStruck : Nat → Int32) (a_lSampled : Nat → Int32) (a_lWeight : Nat → Int32) (a_gets : Nat → Int32) (a_rests : Nat → Int64) (z1 : Int32) (z2 : Int32) (z3 : Int32) (i0 : 0 ≤ (v_lorries).toInt) (i1 : (v_lorries).toInt ≤ 60) : OK (FX7_share n v_lorries a_lTown a_isStruck a_lSampled a_lWeight a_gets a_rests z1 z2 z3) (fun u => True) := by
  unfold FX7_share
  refine OK_bd (sX7_isTown n hn z1) (fun u_2 p_u_2 => ?_)
  obtain ⟨p4503, p4504, p4505⟩ := p_u_2
  refine OK_if (fun c4506 => ?_) (fun c4506 => ?_)
  · have v4507 : HQ ((0 : Int32)).toInt 0 := HQ.mk (by decide)
    have f4508 := eq32k rfl v4507.out c4506
    exact OK_some trivial
  · have v4509 : HQ ((0 : Int32)).toInt 0 := HQ.mk (by decide)
    have f4510 := neq32k rfl v4509.out c4506
    refine OK_bd (sX7_isKind n hn z2) (fun u_5 p_u_5 => ?_)
    obtain ⟨p4511, p4512, p4513⟩ := p_u_5
    refine OK_if (fun c4514 => ?_) (fun c4514 => ?_)
    · have f4515 := eq32k rfl v4509.out c4514
      exact OK_some trivial
    · have f4516 := neq32k rfl v4509.out c4514
      refine OK_if (fun c4517 => ?_) (fun c4517 => ?_)
      · have f4518 := lt32k rfl v4509.out c4517
        exact OK_some trivial
      · have f4519 := nlt32k rfl v4509.out c4517
        refine OK_if (fun c4520 => ?_) (fun c4520 => ?_)
        · have v4521 : HQ ((10000000 : Int32)).toInt 10000000 := HQ.mk (by decide)
          have f4522 := le32k rfl v4521.out c4520
          refine OK_bd (sX7_broughtByAll n hn v_lorries a_lTown a_isStruck a_lSampled a_lWeight z2 i0 i1 (by omega) (by omega)) (fun u_10 p_u_10 => ?_)
          have v4523 : HQ ((u_10.1).toInt64).toInt (u_10.1).toInt := HQ.mk ((Int32.toInt_toInt64 _).trans rfl)
          refine OK_lt (fun x_11 e_x_11 => ?_)
          have f4524 : (x_11).toInt = (u_10.1).toInt := by rw [e_x_11]; exact v4523.out
          refine OK_if (fun c4525 => ?_) (fun c4525 => ?_)
          · have v4526 : HQ ((0 : Int64)).toInt 0 := HQ.mk (by decide)
            obtain ⟨y4527, v4528, f4529⟩ := lgV (a := x_11) (b := (0 : Int64)) rfl v4526.out
            have f4530 := eq32k v4528.out v4509.out c4525
            exact OK_some trivial
          · have v4531 : HQ ((0 : Int64)).toInt 0 := HQ.mk (by decide)
            obtain ⟨y4532, v4533, f4534⟩ := lgV (a := x_11) (b := (0 : Int64)) rfl v4531.out
            have f4535 := neq32k v4533.out v4509.out c4525
            exact sFX7_share_50L n hn v_lorries a_lTown a_isStruck a_lSampled a_lWeight z1 z2 z3 n a_gets a_rests z1 z2 z3 x_11 z3 (0 : Int32) i0 i1 (by omega) (by omega) (by omega) (by omega) (by omega) (by (rw [v4509.out]) <;> omega) (by (rw [v4509.out]) <;> omega) (by (rw [v4509.out]) <;> omega)
        · have v4536 : HQ ((10000000 : Int32)).toInt 10000000 := HQ.mk (by decide)
          have f4537 := nle32k rfl v4536.out c4520
          exact OK_some trivial
