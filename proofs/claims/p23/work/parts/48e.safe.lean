set_option maxHeartbeats 2000000 in
theorem sX7_brought (n : Nat) (hn : n = 2200000000) (v_lorries : Int32) (a_lTown : Nat → Int32) (a_isStruck : Nat → Int32) (a_lSampled : Nat → Int32) (a_lWeight : Nat → Int32) (z1 : Int32) (z2 : Int32) (i0 : 0 ≤ (v_lorries).toInt) (i1 : (v_lorries).toInt ≤ 60) : OK (FX7_brought n v_lorries a_lTown a_isStruck a_lSampled a_lWeight z1 z2) (fun u => True) := by
  unfold FX7_brought
  refine OK_bd (sX7_isTown n hn z1) (fun u_2 p_u_2 => ?_)
  obtain ⟨p3976, p3977, p3978⟩ := p_u_2
  refine OK_if (fun c3979 => ?_) (fun c3979 => ?_)
  · have v3980 : HQ ((0 : Int32)).toInt 0 := HQ.mk (by decide)
    have f3981 := eq32k rfl v3980.out c3979
    exact OK_some trivial
  · have v3982 : HQ ((0 : Int32)).toInt 0 := HQ.mk (by decide)
    have f3983 := neq32k rfl v3982.out c3979
    refine OK_bd (sX7_isKind n hn z2) (fun u_5 p_u_5 => ?_)
    obtain ⟨p3984, p3985, p3986⟩ := p_u_5
    refine OK_if (fun c3987 => ?_) (fun c3987 => ?_)
    · have f3988 := eq32k rfl v3982.out c3987
      exact OK_some trivial
    · have f3989 := neq32k rfl v3982.out c3987
      refine OK_bd (sX7_broughtBy n hn v_lorries a_lTown a_isStruck a_lSampled a_lWeight z1 z2 i0 i1 (by omega) (by omega)) (fun u_8 p_u_8 => ?_)
      exact OK_some trivial
set_option maxHeartbeats 2000000 in
theorem sFX7_broughtByAll_4 (n : Nat) (hn : n = 2200000000) (v_lorries : Int32) (a_lTown : Nat → Int32) (a_isStruck : Nat → Int32) (a_lSampled : Nat → Int32) (a_lWeight : Nat → Int32) (z1 : Int32) (k4 : Int32 → Int32 → Int32 → Option (Int32 × Unit)) (mB4 : Nat) (hk4 : ∀ (x1 : Int32) (x2 : Int32) (x3 : Int32), (0 ≤ (v_lorries).toInt) → ((v_lorries).toInt ≤ 60) → (0 ≤ (z1).toInt) → ((z1).toInt ≤ 4) → ((x1).toInt = (z1).toInt) → (0 ≤ (x3).toInt) → ((x3).toInt ≤ 5) → (5 - (x3).toInt).toNat < mB4 → OK (k4 x1 x2 x3) (fun u => True)) (x1 : Int32) (x2 : Int32) (x3 : Int32) (i0 : 0 ≤ (v_lorries).toInt) (i1 : (v_lorries).toInt ≤ 60) (i2 : 0 ≤ (z1).toInt) (i3 : (z1).toInt ≤ 4) (i4 : (x1).toInt = (z1).toInt) (i5 : 0 ≤ (x3).toInt) (i6 : (x3).toInt ≤ 5) (hmu : (5 - (x3).toInt).toNat ≤ mB4) : OK (FX7_broughtByAll_4 n v_lorries a_lTown a_isStruck a_lSampled a_lWeight z1 k4 x1 x2 x3) (fun u => True) := by
  unfold FX7_broughtByAll_4
  refine OK_if (fun c3990 => ?_) (fun c3990 => ?_)
  · have v3991 : HQ ((5 : Int32)).toInt 5 := HQ.mk (by decide)
    have f3992 := le32k v3991.out rfl c3990
    exact OK_some trivial
  · have v3993 : HQ ((5 : Int32)).toInt 5 := HQ.mk (by decide)
    have f3994 := nle32k v3993.out rfl c3990
    refine OK_bd (sX7_broughtBy n hn v_lorries a_lTown a_isStruck a_lSampled a_lWeight x3 x1 i0 i1 (by omega) (by omega)) (fun u_3 p_u_3 => ?_)
    refine OK_lt (fun x_4 e_x_4 => ?_)
    have v3995 : HQ ((1 : Int32)).toInt 1 := HQ.mk (by decide)
    have v3996 : HQ ((x3 + (1 : Int32))).toInt ((x3).toInt + 1) := HQ.mk (addV rfl v3995.out (by omega) (by omega))
    refine OK_lt (fun x_5 e_x_5 => ?_)
    have f3997 : (x_5).toInt = ((x3).toInt + 1) := by rw [e_x_5]; exact v3996.out
    exact hk4 x1 x_4 x_5 i0 i1 i2 i3 i4 (by omega) (by omega) (by omega)
theorem sFX7_broughtByAll_4L (n : Nat) (hn : n = 2200000000) (v_lorries : Int32) (a_lTown : Nat → Int32) (a_isStruck : Nat → Int32) (a_lSampled : Nat → Int32) (a_lWeight : Nat → Int32) (z1 : Int32) : ∀ (j : Nat) (x1 : Int32) (x2 : Int32) (x3 : Int32), (0 ≤ (v_lorries).toInt) → ((v_lorries).toInt ≤ 60) → (0 ≤ (z1).toInt) → ((z1).toInt ≤ 4) → ((x1).toInt = (z1).toInt) → (0 ≤ (x3).toInt) → ((x3).toInt ≤ 5) → (5 - (x3).toInt).toNat < j → OK (FX7_broughtByAll_4L n v_lorries a_lTown a_isStruck a_lSampled a_lWeight z1 j x1 x2 x3) (fun u => True) := by
  intro j
  induction j with
  | zero => intro _ _ _ _ _ _ _ _ _ _ hj; exact absurd hj (Nat.not_lt_zero _)
  | succ j ih =>
    intro x1 x2 x3 i0 i1 i2 i3 i4 i5 i6 hj
    exact sFX7_broughtByAll_4 n hn v_lorries a_lTown a_isStruck a_lSampled a_lWeight z1 (FX7_broughtByAll_4L n v_lorries a_lTown a_isStruck a_lSampled a_lWeight z1 j) ((5 - (x3).toInt).toNat) (fun y0 y1 y2 w0 w1 w2 w3 w4 w5 w6 hlt => ih y0 y1 y2 w0 w1 w2 w3 w4 w5 w6 (by omega)) x1 x2 x3 i0 i1 i2 i3 i4 i5 i6 (Nat.le_refl _)
set_option maxHeartbeats 2000000 in
theorem sX7_broughtByAll (n : Nat) (hn : n = 2200000000) (v_lorries : Int32) (a_lTown : Nat → Int32) (a_isStruck : Nat → Int32) (a_lSampled : Nat → Int32) (a_lWeight : Nat → Int32) (z1 : Int32) (i0 : 0 ≤ (v_lorries).toInt) (i1 : (v_lorries).toInt ≤ 60) (i2 : 0 ≤ (z1).toInt) (i3 : (z1).toInt ≤ 4) : OK (FX7_broughtByAll n v_lorries a_lTown a_isStruck a_lSampled a_lWeight z1) (fun u => True) := by
  unfold FX7_broughtByAll
  have v3998 : HQ ((0 : Int32)).toInt 0 := HQ.mk (by decide)
  exact sFX7_broughtByAll_4L n hn v_lorries a_lTown a_isStruck a_lSampled a_lWeight z1 n z1 (0 : Int32) (0 : Int32) i0 i1 i2 i3 (by omega) (by (rw [v3998.out]) <;> omega) (by (rw [v3998.out]) <;> omega) (by (rw [v3998.out]) <;> omega)
set_option maxHeartbeats 2000000 in
theorem sX7_inflow (n : Nat) (hn : n = 2200000000) (a_hand : Nat → Int32) (z1 : Int32) (z2 : Int32) : OK (FX7_inflow n a_hand z1 z2) (fun u => ((0 ≤ (z1).toInt ∧ (z1).toInt ≤ 4 ∧ -1 ≤ (z2).toInt ∧ (z2).toInt ≤ 1000000 ∧ (u.1).toInt = 1) ∨ (¬ (0 ≤ (z1).toInt ∧ (z1).toInt ≤ 4 ∧ -1 ≤ (z2).toInt ∧ (z2).toInt ≤ 1000000) ∧ (u.1).toInt = 0))) := by
  unfold FX7_inflow
  refine OK_bd (sX7_isKind n hn z1) (fun u_2 p_u_2 => ?_)
  obtain ⟨p3999, p4000, p4001⟩ := p_u_2
  refine OK_if (fun c4002 => ?_) (fun c4002 => ?_)
  · have v4003 : HQ ((0 : Int32)).toInt 0 := HQ.mk (by decide)
    have f4004 := eq32k rfl v4003.out c4002
    exact OK_some (show ((0 ≤ (z1).toInt ∧ (z1).toInt ≤ 4 ∧ -1 ≤ (z2).toInt ∧ (z2).toInt ≤ 1000000 ∧ ((0 : Int32)).toInt = 1) ∨ (¬ (0 ≤ (z1).toInt ∧ (z1).toInt ≤ 4 ∧ -1 ≤ (z2).toInt ∧ (z2).toInt ≤ 1000000) ∧ ((0 : Int32)).toInt = 0)) from (by (rw [v4003.out]) <;> omega))
  · have v4005 : HQ ((0 : Int32)).toInt 0 := HQ.mk (by decide)
    have f4006 := neq32k rfl v4005.out c4002
    refine OK_if (fun c4007 => ?_) (fun c4007 => ?_)
    · have v4008 : HQ ((-1 : Int32)).toInt (-1) := HQ.mk (by decide)
      have f4009 := lt32k rfl v4008.out c4007
      exact OK_some (show ((0 ≤ (z1).toInt ∧ (z1).toInt ≤ 4 ∧ -1 ≤ (z2).toInt ∧ (z2).toInt ≤ 1000000 ∧ ((0 : Int32)).toInt = 1) ∨ (¬ (0 ≤ (z1).toInt ∧ (z1).toInt ≤ 4 ∧ -1 ≤ (z2).toInt ∧ (z2).toInt ≤ 1000000) ∧ ((0 : Int32)).toInt = 0)) from (by (rw [v4005.out]) <;> omega))
    · have v4010 : HQ ((-1 : Int32)).toInt (-1) := HQ.mk (by decide)
      have f4011 := nlt32k rfl v4010.out c4007
      refine OK_if (fun c4012 => ?_) (fun c4012 => ?_)
      · have v4013 : HQ ((1000000 : Int32)).toInt 1000000 := HQ.mk (by decide)
        have f4014 := le32k rfl v4013.out c4012
        refine OK_ck (ckV rfl (by omega) (by omega)) ?_
        obtain ⟨m4015, v4016, f4017⟩ := tnV (e := z1) rfl (by omega)
        refine OK_lt (fun f_7 e_f_7 => ?_)
        rw [v4016.out] at e_f_7
        have v4018 : HQ ((1 : Int32)).toInt 1 := HQ.mk (by decide)
        exact OK_some (show ((0 ≤ (z1).toInt ∧ (z1).toInt ≤ 4 ∧ -1 ≤ (z2).toInt ∧ (z2).toInt ≤ 1000000 ∧ ((1 : Int32)).toInt = 1) ∨ (¬ (0 ≤ (z1).toInt ∧ (z1).toInt ≤ 4 ∧ -1 ≤ (z2).toInt ∧ (z2).toInt ≤ 1000000) ∧ ((1 : Int32)).toInt = 0)) from (by (rw [v4018.out]) <;> omega))
      · have v4019 : HQ ((1000000 : Int32)).toInt 1000000 := HQ.mk (by decide)
        have f4020 := nle32k rfl v4019.out c4012
        exact OK_some (show ((0 ≤ (z1).toInt ∧ (z1).toInt ≤ 4 ∧ -1 ≤ (z2).toInt ∧ (z2).toInt ≤ 1000000 ∧ ((0 : Int32)).toInt = 1) ∨ (¬ (0 ≤ (z1).toInt ∧ (z1).toInt ≤ 4 ∧ -1 ≤ (z2).toInt ∧ (z2).toInt ≤ 1000000) ∧ ((0 : Int32)).toInt = 0)) from (by (rw [v4005.out]) <;> omega))
set_option maxHeartbeats 2000000 in
theorem sX7_inflowOf (n : Nat) (hn : n = 2200000000) (v_lorries : Int32) (a_hand : Nat → Int32) (a_lTown : Nat → Int32) (a_isStruck : Nat → Int32) (a_lSampled : Nat → Int32) (a_lWeight : Nat → Int32) (z1 : Int32) (i0 : 0 ≤ (v_lorries).toInt) (i1 : (v_lorries).toInt ≤ 60) (i2 : 0 ≤ (z1).toInt) (i3 : (z1).toInt ≤ 4) : OK (FX7_inflowOf n v_lorries a_hand a_lTown a_isStruck a_lSampled a_lWeight z1) (fun u => True) := by
  unfold FX7_inflowOf
  refine OK_ck (ckV rfl (by omega) (by omega)) ?_
  refine OK_if (fun c4021 => ?_) (fun c4021 => ?_)
  · obtain ⟨m4022, v4023, f4024⟩ := tnV (e := z1) rfl (by omega)
    have v4025 : HQ ((a_hand ((z1).toNatClampNeg))).toInt (a_hand m4022).toInt := HQ.mk (by rw [v4023.out])
    have v4026 : HQ ((0 : Int32)).toInt 0 := HQ.mk (by decide)
    have f4027 := lt32k v4025.out v4026.out c4021
    refine OK_bd (sX7_broughtByAll n hn v_lorries a_lTown a_isStruck a_lSampled a_lWeight z1 i0 i1 i2 i3) (fun u_4 p_u_4 => ?_)
    refine OK_if (fun c4028 => ?_) (fun c4028 => ?_)
    · have v4029 : HQ ((1000000 : Int32)).toInt 1000000 := HQ.mk (by decide)
      have f4030 := le32k v4029.out rfl c4028
      exact OK_some trivial
    · have v4031 : HQ ((1000000 : Int32)).toInt 1000000 := HQ.mk (by decide)
      have f4032 := nle32k v4031.out rfl c4028
      exact OK_some trivial
  · obtain ⟨m4033, v4034, f4035⟩ := tnV (e := z1) rfl (by omega)
    have v4036 : HQ ((a_hand ((z1).toNatClampNeg))).toInt (a_hand m4033).toInt := HQ.mk (by rw [v4034.out])
    have v4037 : HQ ((0 : Int32)).toInt 0 := HQ.mk (by decide)
    have f4038 := nlt32k v4036.out v4037.out c4021
    refine OK_ck (ckV rfl (by omega) (by omega)) ?_
    exact OK_some trivial
set_option maxHeartbeats 2000000 in
theorem sX7_comes (n : Nat) (hn : n = 2200000000) (v_lorries : Int32) (a_hand : Nat → Int32) (a_lTown : Nat → Int32) (a_isStruck : Nat → Int32) (a_lSampled : Nat → Int32) (a_lWeight : Nat → Int32) (z1 : Int32) (i0 : 0 ≤ (v_lorries).toInt) (i1 : (v_lorries).toInt ≤ 60) : OK (FX7_comes n v_lorries a_hand a_lTown a_isStruck a_lSampled a_lWeight z1) (fun u => True) := by
  unfold FX7_comes
  refine OK_bd (sX7_isKind n hn z1) (fun u_2 p_u_2 => ?_)
  obtain ⟨p4039, p4040, p4041⟩ := p_u_2
  refine OK_if (fun c4042 => ?_) (fun c4042 => ?_)
  · have v4043 : HQ ((0 : Int32)).toInt 0 := HQ.mk (by decide)
    have f4044 := eq32k rfl v4043.out c4042
    exact OK_some trivial
  · have v4045 : HQ ((0 : Int32)).toInt 0 := HQ.mk (by decide)
    have f4046 := neq32k rfl v4045.out c4042
    refine OK_bd (sX7_inflowOf n hn v_lorries a_hand a_lTown a_isStruck a_lSampled a_lWeight z1 i0 i1 (by omega) (by omega)) (fun u_5 p_u_5 => ?_)
    exact OK_some trivial
