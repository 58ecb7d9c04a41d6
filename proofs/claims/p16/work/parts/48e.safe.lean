set_option maxHeartbeats 2000000 in
theorem sX7_brought (n : Nat) (hn : n = 2200000000) (v_lorries : Int32) (a_lTown : Nat → Int32) (a_isStruck : Nat → Int32) (a_lSampled : Nat → Int32) (a_lWeight : Nat → Int32) (z1 : Int32) (z2 : Int32) (i0 : 0 ≤ (v_lorries).toInt) (i1 : (v_lorries).toInt ≤ 60) : OK (FX7_brought n v_lorries a_lTown a_isStruck a_lSampled a_lWeight z1 z2) (fun u => True) := by
  unfold FX7_brought
  refine OK_bd (sX7_isTown n hn z1) (fun u_2 p_u_2 => ?_)
  obtain ⟨p3970, p3971, p3972⟩ := p_u_2
  refine OK_if (fun c3973 => ?_) (fun c3973 => ?_)
  · have v3974 : HQ ((0 : Int32)).toInt 0 := HQ.mk (by decide)
    have f3975 := eq32k rfl v3974.out c3973
    exact OK_some trivial
  · have v3976 : HQ ((0 : Int32)).toInt 0 := HQ.mk (by decide)
    have f3977 := neq32k rfl v3976.out c3973
    refine OK_bd (sX7_isKind n hn z2) (fun u_5 p_u_5 => ?_)
    obtain ⟨p3978, p3979, p3980⟩ := p_u_5
    refine OK_if (fun c3981 => ?_) (fun c3981 => ?_)
    · have f3982 := eq32k rfl v3976.out c3981
      exact OK_some trivial
    · have f3983 := neq32k rfl v3976.out c3981
      refine OK_bd (sX7_broughtBy n hn v_lorries a_lTown a_isStruck a_lSampled a_lWeight z1 z2 i0 i1 (by omega) (by omega)) (fun u_8 p_u_8 => ?_)
      exact OK_some trivial
set_option maxHeartbeats 2000000 in
theorem sFX7_broughtByAll_4 (n : Nat) (hn : n = 2200000000) (v_lorries : Int32) (a_lTown : Nat → Int32) (a_isStruck : Nat → Int32) (a_lSampled : Nat → Int32) (a_lWeight : Nat → Int32) (z1 : Int32) (k4 : Int32 → Int32 → Int32 → Option (Int32 × Unit)) (mB4 : Nat) (hk4 : ∀ (x1 : Int32) (x2 : Int32) (x3 : Int32), (0 ≤ (v_lorries).toInt) → ((v_lorries).toInt ≤ 60) → (0 ≤ (z1).toInt) → ((z1).toInt ≤ 4) → ((x1).toInt = (z1).toInt) → (0 ≤ (x3).toInt) → ((x3).toInt ≤ 5) → (5 - (x3).toInt).toNat < mB4 → OK (k4 x1 x2 x3) (fun u => True)) (x1 : Int32) (x2 : Int32) (x3 : Int32) (i0 : 0 ≤ (v_lorries).toInt) (i1 : (v_lorries).toInt ≤ 60) (i2 : 0 ≤ (z1).toInt) (i3 : (z1).toInt ≤ 4) (i4 : (x1).toInt = (z1).toInt) (i5 : 0 ≤ (x3).toInt) (i6 : (x3).toInt ≤ 5) (hmu : (5 - (x3).toInt).toNat ≤ mB4) : OK (FX7_broughtByAll_4 n v_lorries a_lTown a_isStruck a_lSampled a_lWeight z1 k4 x1 x2 x3) (fun u => True) := by
  unfold FX7_broughtByAll_4
  refine OK_if (fun c3984 => ?_) (fun c3984 => ?_)
  · have v3985 : HQ ((5 : Int32)).toInt 5 := HQ.mk (by decide)
    have f3986 := le32k v3985.out rfl c3984
    exact OK_some trivial
  · have v3987 : HQ ((5 : Int32)).toInt 5 := HQ.mk (by decide)
    have f3988 := nle32k v3987.out rfl c3984
    refine OK_bd (sX7_broughtBy n hn v_lorries a_lTown a_isStruck a_lSampled a_lWeight x3 x1 i0 i1 (by omega) (by omega)) (fun u_3 p_u_3 => ?_)
    refine OK_lt (fun x_4 e_x_4 => ?_)
    have v3989 : HQ ((1 : Int32)).toInt 1 := HQ.mk (by decide)
    have v3990 : HQ ((x3 + (1 : Int32))).toInt ((x3).toInt + 1) := HQ.mk (addV rfl v3989.out (by omega) (by omega))
    refine OK_lt (fun x_5 e_x_5 => ?_)
    have f3991 : (x_5).toInt = ((x3).toInt + 1) := by rw [e_x_5]; exact v3990.out
    exact hk4 x1 x_4 x_5 i0 i1 i2 i3 i4 (by omega) (by omega) (by omega)
theorem sFX7_broughtByAll_4L (n : Nat) (hn : n = 2200000000) (v_lorries : Int32) (a_lTown : Nat → Int32) (a_isStruck : Nat → Int32) (a_lSampled : Nat → Int32) (a_lWeight : Nat → Int32) (z1 : Int32) : ∀ (j : Nat) (x1 : Int32) (x2 : Int32) (x3 : Int32), (0 ≤ (v_lorries).toInt) → ((v_lorries).toInt ≤ 60) → (0 ≤ (z1).toInt) → ((z1).toInt ≤ 4) → ((x1).toInt = (z1).toInt) → (0 ≤ (x3).toInt) → ((x3).toInt ≤ 5) → (5 - (x3).toInt).toNat < j → OK (FX7_broughtByAll_4L n v_lorries a_lTown a_isStruck a_lSampled a_lWeight z1 j x1 x2 x3) (fun u => True) := by
  intro j
  induction j with
  | zero => intro _ _ _ _ _ _ _ _ _ _ hj; exact absurd hj (Nat.not_lt_zero _)
  | succ j ih =>
    intro x1 x2 x3 i0 i1 i2 i3 i4 i5 i6 hj
    exact sFX7_broughtByAll_4 n hn v_lorries a_lTown a_isStruck a_lSampled a_lWeight z1 (FX7_broughtByAll_4L n v_lorries a_lTown a_isStruck a_lSampled a_lWeight z1 j) ((5 - (x3).toInt).toNat) (fun y0 y1 y2 w0 w1 w2 w3 w4 w5 w6 hlt => ih y0 y1 y2 w0 w1 w2 w3 w4 w5 w6 (by omega)) x1 x2 x3 i0 i1 i2 i3 i4 i5 i6 (Nat.le_refl _)
set_option maxHeartbeats 2000000 in
theorem sX7_broughtByAll (n : Nat) (hn : n = 2200000000) (v_lorries : Int32) (a_lTown : Nat → Int32) (a_isStruck : Nat → Int32) (a_lSampled : Nat → Int32) (a_lWeight : Nat → Int32) (z1 : Int32) (i0 : 0 ≤ (v_lorries).toInt) (i1 : (v_lorries).toInt ≤ 60) (i2 : 0 ≤ (z1).toInt) (i3 : (z1).toInt ≤ 4) : OK (FX7_broughtByAll n v_lorries a_lTown a_isStruck a_lSampled a_lWeight z1) (fun u => True) := by
  unfold FX7_broughtByAll
  have v3992 : HQ ((0 : Int32)).toInt 0 := HQ.mk (by decide)
  exact sFX7_broughtByAll_4L n hn v_lorries a_lTown a_isStruck a_lSampled a_lWeight z1 n z1 (0 : Int32) (0 : Int32) i0 i1 i2 i3 (by omega) (by (rw [v3992.out]) <;> omega) (by (rw [v3992.out]) <;> omega) (by (rw [v3992.out]) <;> omega)
set_option maxHeartbeats 2000000 in
theorem sX7_inflow (n : Nat) (hn : n = 2200000000) (a_hand : Nat → Int32) (z1 : Int32) (z2 : Int32) : OK (FX7_inflow n a_hand z1 z2) (fun u => ((0 ≤ (z1).toInt ∧ (z1).toInt ≤ 4 ∧ -1 ≤ (z2).toInt ∧ (z2).toInt ≤ 1000000 ∧ (u.1).toInt = 1) ∨ (¬ (0 ≤ (z1).toInt ∧ (z1).toInt ≤ 4 ∧ -1 ≤ (z2).toInt ∧ (z2).toInt ≤ 1000000) ∧ (u.1).toInt = 0))) := by
  unfold FX7_inflow
  refine OK_bd (sX7_isKind n hn z1) (fun u_2 p_u_2 => ?_)
  obtain ⟨p3993, p3994, p3995⟩ := p_u_2
  refine OK_if (fun c3996 => ?_) (fun c3996 => ?_)
  · have v3997 : HQ ((0 : Int32)).toInt 0 := HQ.mk (by decide)
    have f3998 := eq32k rfl v3997.out c3996
    exact OK_some (show ((0 ≤ (z1).toInt ∧ (z1).toInt ≤ 4 ∧ -1 ≤ (z2).toInt ∧ (z2).toInt ≤ 1000000 ∧ ((0 : Int32)).toInt = 1) ∨ (¬ (0 ≤ (z1).toInt ∧ (z1).toInt ≤ 4 ∧ -1 ≤ (z2).toInt ∧ (z2).toInt ≤ 1000000) ∧ ((0 : Int32)).toInt = 0)) from (by (rw [v3997.out]) <;> omega))
  · have v3999 : HQ ((0 : Int32)).toInt 0 := HQ.mk (by decide)
    have f4000 := neq32k rfl v3999.out c3996
    refine OK_if (fun c4001 => ?_) (fun c4001 => ?_)
    · have v4002 : HQ ((-1 : Int32)).toInt (-1) := HQ.mk (by decide)
      have f4003 := lt32k rfl v4002.out c4001
      exact OK_some (show ((0 ≤ (z1).toInt ∧ (z1).toInt ≤ 4 ∧ -1 ≤ (z2).toInt ∧ (z2).toInt ≤ 1000000 ∧ ((0 : Int32)).toInt = 1) ∨ (¬ (0 ≤ (z1).toInt ∧ (z1).toInt ≤ 4 ∧ -1 ≤ (z2).toInt ∧ (z2).toInt ≤ 1000000) ∧ ((0 : Int32)).toInt = 0)) from (by (rw [v3999.out]) <;> omega))
    · have v4004 : HQ ((-1 : Int32)).toInt (-1) := HQ.mk (by decide)
      have f4005 := nlt32k rfl v4004.out c4001
      refine OK_if (fun c4006 => ?_) (fun c4006 => ?_)
      · have v4007 : HQ ((1000000 : Int32)).toInt 1000000 := HQ.mk (by decide)
        have f4008 := le32k rfl v4007.out c4006
        refine OK_ck (ckV rfl (by omega) (by omega)) ?_
        obtain ⟨m4009, v4010, f4011⟩ := tnV (e := z1) rfl (by omega)
        refine OK_lt (fun f_7 e_f_7 => ?_)
        rw [v4010.out] at e_f_7
        have v4012 : HQ ((1 : Int32)).toInt 1 := HQ.mk (by decide)
        exact OK_some (show ((0 ≤ (z1).toInt ∧ (z1).toInt ≤ 4 ∧ -1 ≤ (z2).toInt ∧ (z2).toInt ≤ 1000000 ∧ ((1 : Int32)).toInt = 1) ∨ (¬ (0 ≤ (z1).toInt ∧ (z1).toInt ≤ 4 ∧ -1 ≤ (z2).toInt ∧ (z2).toInt ≤ 1000000) ∧ ((1 : Int32)).toInt = 0)) from (by (rw [v4012.out]) <;> omega))
      · have v4013 : HQ ((1000000 : Int32)).toInt 1000000 := HQ.mk (by decide)
        have f4014 := nle32k rfl v4013.out c4006
        exact OK_some (show ((0 ≤ (z1).toInt ∧ (z1).toInt ≤ 4 ∧ -1 ≤ (z2).toInt ∧ (z2).toInt ≤ 1000000 ∧ ((0 : Int32)).toInt = 1) ∨ (¬ (0 ≤ (z1).toInt ∧ (z1).toInt ≤ 4 ∧ -1 ≤ (z2).toInt ∧ (z2).toInt ≤ 1000000) ∧ ((0 : Int32)).toInt = 0)) from (by (rw [v3999.out]) <;> omega))
set_option maxHeartbeats 2000000 in
theorem sX7_inflowOf (n : Nat) (hn : n = 2200000000) (v_lorries : Int32) (a_hand : Nat → Int32) (a_lTown : Nat → Int32) (a_isStruck : Nat → Int32) (a_lSampled : Nat → Int32) (a_lWeight : Nat → Int32) (z1 : Int32) (i0 : 0 ≤ (v_lorries).toInt) (i1 : (v_lorries).toInt ≤ 60) (i2 : 0 ≤ (z1).toInt) (i3 : (z1).toInt ≤ 4) : OK (FX7_inflowOf n v_lorries a_hand a_lTown a_isStruck a_lSampled a_lWeight z1) (fun u => True) := by
  unfold FX7_inflowOf
  refine OK_ck (ckV rfl (by omega) (by omega)) ?_
  refine OK_if (fun c4015 => ?_) (fun c4015 => ?_)
  · obtain ⟨m4016, v4017, f4018⟩ := tnV (e := z1) rfl (by omega)
    have v4019 : HQ ((a_hand ((z1).toNatClampNeg))).toInt (a_hand m4016).toInt := HQ.mk (by rw [v4017.out])
    have v4020 : HQ ((0 : Int32)).toInt 0 := HQ.mk (by decide)
    have f4021 := lt32k v4019.out v4020.out c4015
    refine OK_bd (sX7_broughtByAll n hn v_lorries a_lTown a_isStruck a_lSampled a_lWeight z1 i0 i1 i2 i3) (fun u_4 p_u_4 => ?_)
    refine OK_if (fun c4022 => ?_) (fun c4022 => ?_)
    · have v4023 : HQ ((1000000 : Int32)).toInt 1000000 := HQ.mk (by decide)
      have f4024 := le32k v4023.out rfl c4022
      exact OK_some trivial
    · have v4025 : HQ ((1000000 : Int32)).toInt 1000000 := HQ.mk (by decide)
      have f4026 := nle32k v4025.out rfl c4022
      exact OK_some trivial
  · obtain ⟨m4027, v4028, f4029⟩ := tnV (e := z1) rfl (by omega)
    have v4030 : HQ ((a_hand ((z1).toNatClampNeg))).toInt (a_hand m4027).toInt := HQ.mk (by rw [v4028.out])
    have v4031 : HQ ((0 : Int32)).toInt 0 := HQ.mk (by decide)
    have f4032 := nlt32k v4030.out v4031.out c4015
    refine OK_ck (ckV rfl (by omega) (by omega)) ?_
    exact OK_some trivial
set_option maxHeartbeats 2000000 in
theorem sX7_comes (n : Nat) (hn : n = 2200000000) (v_lorries : Int32) (a_hand : Nat → Int32) (a_lTown : Nat → Int32) (a_isStruck : Nat → Int32) (a_lSampled : Nat → Int32) (a_lWeight : Nat → Int32) (z1 : Int32) (i0 : 0 ≤ (v_lorries).toInt) (i1 : (v_lorries).toInt ≤ 60) : OK (FX7_comes n v_lorries a_hand a_lTown a_isStruck a_lSampled a_lWeight z1) (fun u => True) := by
  unfold FX7_comes
  refine OK_bd (sX7_isKind n hn z1) (fun u_2 p_u_2 => ?_)
  obtain ⟨p4033, p4034, p4035⟩ := p_u_2
  refine OK_if (fun c4036 => ?_) (fun c4036 => ?_)
  · have v4037 : HQ ((0 : Int32)).toInt 0 := HQ.mk (by decide)
    have f4038 := eq32k rfl v4037.out c4036
    exact OK_some trivial
  · have v4039 : HQ ((0 : Int32)).toInt 0 := HQ.mk (by decide)
    have f4040 := neq32k rfl v4039.out c4036
    refine OK_bd (sX7_inflowOf n hn v_lorries a_hand a_lTown a_isStruck a_lSampled a_lWeight z1 i0 i1 (by omega) (by omega)) (fun u_5 p_u_5 => ?_)
    exact OK_some trivial
