set_option maxHeartbeats 2000000 in
theorem sFX7_sumOf_4 (n : Nat) (hn : n = 2200000000) (a_all : Nat → Int32) (z1 : Int32) (k4 : Int32 → Int32 → Int32 → Option (Int32 × Unit)) (mB4 : Nat) (hk4 : ∀ (x1 : Int32) (x2 : Int32) (x3 : Int32), (0 ≤ (z1).toInt) → ((z1).toInt ≤ 4) → ((x1).toInt = (z1).toInt) → (0 ≤ (x3).toInt) → ((x3).toInt ≤ 5) → (5 - (x3).toInt).toNat < mB4 → OK (k4 x1 x2 x3) (fun u => True)) (x1 : Int32) (x2 : Int32) (x3 : Int32) (i0 : 0 ≤ (z1).toInt) (i1 : (z1).toInt ≤ 4) (i2 : (x1).toInt = (z1).toInt) (i3 : 0 ≤ (x3).toInt) (i4 : (x3).toInt ≤ 5) (hmu : (5 - (x3).toInt).toNat ≤ mB4) : OK (FX7_sumOf_4 n a_all z1 k4 x1 x2 x3) (fun u => True) := by
  unfold FX7_sumOf_4
  refine OK_if (fun c4092 => ?_) (fun c4092 => ?_)
  · have v4093 : HQ ((5 : Int32)).toInt 5 := HQ.mk (by decide)
    have f4094 := le32k v4093.out rfl c4092
    exact OK_some trivial
  · have v4095 : HQ ((5 : Int32)).toInt 5 := HQ.mk (by decide)
    have f4096 := nle32k v4095.out rfl c4092
    have v4097 : HQ (((5 : Int32) * x1)).toInt (5 * (x1).toInt) := HQ.mk (mulV v4095.out rfl (by omega) (by omega))
    have v4098 : HQ ((((5 : Int32) * x1) + x3)).toInt ((5 * (x1).toInt) + (x3).toInt) := HQ.mk (addV v4097.out rfl (by omega) (by omega))
    refine OK_ck (ckV v4098.out (by omega) (by omega)) ?_
    refine OK_lt (fun x_3 e_x_3 => ?_)
    have v4099 : HQ ((1 : Int32)).toInt 1 := HQ.mk (by decide)
    have v4100 : HQ ((x3 + (1 : Int32))).toInt ((x3).toInt + 1) := HQ.mk (addV rfl v4099.out (by omega) (by omega))
    refine OK_lt (fun x_4 e_x_4 => ?_)
    have f4101 : (x_4).toInt = ((x3).toInt + 1) := by rw [e_x_4]; exact v4100.out
    exact hk4 x1 x_3 x_4 i0 i1 i2 (by omega) (by omega) (by omega)
theorem sFX7_sumOf_4L (n : Nat) (hn : n = 2200000000) (a_all : Nat → Int32) (z1 : Int32) : ∀ (j : Nat) (x1 : Int32) (x2 : Int32) (x3 : Int32), (0 ≤ (z1).toInt) → ((z1).toInt ≤ 4) → ((x1).toInt = (z1).toInt) → (0 ≤ (x3).toInt) → ((x3).toInt ≤ 5) → (5 - (x3).toInt).toNat < j → OK (FX7_sumOf_4L n a_all z1 j x1 x2 x3) (fun u => True) := by
  intro j
  induction j with
  | zero => intro _ _ _ _ _ _ _ _ hj; exact absurd hj (Nat.not_lt_zero _)
  | succ j ih =>
    intro x1 x2 x3 i0 i1 i2 i3 i4 hj
    exact sFX7_sumOf_4 n hn a_all z1 (FX7_sumOf_4L n a_all z1 j) ((5 - (x3).toInt).toNat) (fun y0 y1 y2 w0 w1 w2 w3 w4 hlt => ih y0 y1 y2 w0 w1 w2 w3 w4 (by omega)) x1 x2 x3 i0 i1 i2 i3 i4 (Nat.le_refl _)
set_option maxHeartbeats 2000000 in
theorem sX7_sumOf (n : Nat) (hn : n = 2200000000) (a_all : Nat → Int32) (z1 : Int32) (i0 : 0 ≤ (z1).toInt) (i1 : (z1).toInt ≤ 4) : OK (FX7_sumOf n a_all z1) (fun u => True) := by
  unfold FX7_sumOf
  have v4102 : HQ ((0 : Int32)).toInt 0 := HQ.mk (by decide)
  exact sFX7_sumOf_4L n hn a_all z1 n z1 (0 : Int32) (0 : Int32) i0 i1 (by omega) (by (rw [v4102.out]) <;> omega) (by (rw [v4102.out]) <;> omega) (by (rw [v4102.out]) <;> omega)
set_option maxHeartbeats 2000000 in
theorem sX7_grams (n : Nat) (hn : n = 2200000000) (v_bank : Int32) (v_whole : Int64) (v_lorries : Int32) (a_hand : Nat → Int32) (a_lTown : Nat → Int32) (a_isStruck : Nat → Int32) (a_lSampled : Nat → Int32) (a_lWeight : Nat → Int32) (a_unitMany : Nat → Int32) (a_parts : Nat → Int64) (a_rows : Nat → Int64) (a_chosen : Nat → Int32) (a_settingMany : Nat → Int32) (a_shares : Nat → Int32) (a_yesTo : Nat → Int32) (a_noTo : Nat → Int32) (a_all : Nat → Int32) (z1 : Int32) (z2 : Int32) (gM : Int) (i0 : 0 ≤ (v_bank).toInt) (i1 : (v_bank).toInt ≤ 1) (i2 : ∀ i : Nat, ((i : Int) = (v_bank).toInt) → ((a_unitMany i).toInt = gM)) (i3 : 0 ≤ gM) (i4 : gM ≤ 5) (i5 : ∀ i : Nat, (5 * (v_bank).toInt ≤ (i : Int) ∧ (i : Int) < 5 * (v_bank).toInt + gM) → ((0 ≤ (a_yesTo i).toInt ∧ (a_yesTo i).toInt ≤ 4) ∨ (10 ≤ (a_yesTo i).toInt ∧ (a_yesTo i).toInt ≤ 13) ∨ (a_yesTo i).toInt = 20)) (i6 : ∀ i : Nat, (5 * (v_bank).toInt ≤ (i : Int) ∧ (i : Int) < 5 * (v_bank).toInt + gM) → ((0 ≤ (a_noTo i).toInt ∧ (a_noTo i).toInt ≤ 4) ∨ (10 ≤ (a_noTo i).toInt ∧ (a_noTo i).toInt ≤ 13) ∨ (a_noTo i).toInt = 20)) (i7 : ∀ i : Nat, (i < 10) → (0 ≤ (a_settingMany i).toInt ∧ (a_settingMany i).toInt ≤ 3)) (i8 : ∀ i : Nat, (i < 5) → (0 ≤ (a_chosen i).toInt ∧ (a_chosen i).toInt ≤ 2)) (i9 : 0 ≤ (v_lorries).toInt) (i10 : (v_lorries).toInt ≤ 60) : OK (FX7_grams n v_bank v_whole v_lorries a_hand a_lTown a_isStruck a_lSampled a_lWeight a_unitMany a_parts a_rows a_chosen a_settingMany a_shares a_yesTo a_noTo a_all z1 z2) (fun u => True) := by
  unfold FX7_grams
  refine OK_if (fun c4103 => ?_) (fun c4103 => ?_)
  · have v4104 : HQ ((0 : Int32)).toInt 0 := HQ.mk (by decide)
    have f4105 := lt32k rfl v4104.out c4103
    exact OK_some trivial
  · have v4106 : HQ ((0 : Int32)).toInt 0 := HQ.mk (by decide)
    have f4107 := nlt32k rfl v4106.out c4103
    refine OK_if (fun c4108 => ?_) (fun c4108 => ?_)
    · have v4109 : HQ ((5 : Int32)).toInt 5 := HQ.mk (by decide)
      have f4110 := le32k v4109.out rfl c4108
      exact OK_some trivial
    · have v4111 : HQ ((5 : Int32)).toInt 5 := HQ.mk (by decide)
      have f4112 := nle32k v4111.out rfl c4108
      refine OK_bd (sX7_isKind n hn z2) (fun u_4 p_u_4 => ?_)
      obtain ⟨p4113, p4114, p4115⟩ := p_u_4
      refine OK_if (fun c4116 => ?_) (fun c4116 => ?_)
      · have f4117 := eq32k rfl v4106.out c4116
        exact OK_some trivial
      · have f4118 := neq32k rfl v4106.out c4116
        refine OK_bd (sX7_sortAll n hn v_bank v_whole v_lorries a_hand a_lTown a_isStruck a_lSampled a_lWeight a_unitMany a_parts a_rows a_chosen a_settingMany a_shares a_yesTo a_noTo a_all (gM) i0 i1 (by
            intro i hi
            have f4119 := i2 i
            omega) (by omega) (by omega) (by
            intro i hi
            have f4120 := i5 i
            omega) (by
            intro i hi
            have f4121 := i6 i
            omega) i7 i8 i9 i10) (fun u_7 p_u_7 => ?_)
        have v4122 : HQ (((5 : Int32) * z1)).toInt (5 * (z1).toInt) := HQ.mk (mulV v4111.out rfl (by omega) (by omega))
        have v4123 : HQ ((((5 : Int32) * z1) + z2)).toInt ((5 * (z1).toInt) + (z2).toInt) := HQ.mk (addV v4122.out rfl (by omega) (by omega))
        refine OK_ck (ckV v4123.out (by omega) (by omega)) ?_
        exact OK_some trivial
set_option maxHeartbeats 2000000 in
theorem sX7_purityOf (n : Nat) (hn : n = 2200000000) (v_bank : Int32) (a_all : Nat → Int32) (a_gradeMany : Nat → Int32) (a_gKind : Nat → Int32) (z1 : Int32) (i0 : 0 ≤ (v_bank).toInt) (i1 : (v_bank).toInt ≤ 1) (i2 : ∀ i : Nat, (i < 8) → (0 ≤ (a_gradeMany i).toInt ∧ (a_gradeMany i).toInt ≤ 4)) (i3 : ∀ i : Nat, (i < 32) → (0 ≤ (a_gKind i).toInt ∧ (a_gKind i).toInt ≤ 4)) (i4 : 0 ≤ (z1).toInt) (i5 : (z1).toInt ≤ 3) : OK (FX7_purityOf n v_bank a_all a_gradeMany a_gKind z1) (fun u => True) := by
  unfold FX7_purityOf
  have v4124 : HQ ((4 : Int32)).toInt 4 := HQ.mk (by decide)
  have v4125 : HQ (((4 : Int32) * v_bank)).toInt (4 * (v_bank).toInt) := HQ.mk (mulV v4124.out rfl (by omega) (by omega))
  have v4126 : HQ ((((4 : Int32) * v_bank) + z1)).toInt ((4 * (v_bank).toInt) + (z1).toInt) := HQ.mk (addV v4125.out rfl (by omega) (by omega))
  refine OK_lt (fun x_1 e_x_1 => ?_)
  have f4127 : (x_1).toInt = ((4 * (v_bank).toInt) + (z1).toInt) := by rw [e_x_1]; exact v4126.out
  refine OK_bd (sX7_sumOf n hn a_all z1 i4 (by omega)) (fun u_3 p_u_3 => ?_)
  refine OK_ck (ckV rfl (by omega) (by omega)) ?_
  refine OK_if (fun c4128 => ?_) (fun c4128 => ?_)
  · obtain ⟨m4129, v4130, f4131⟩ := tnV (e := x_1) rfl (by omega)
    have v4132 : HQ ((a_gradeMany ((x_1).toNatClampNeg))).toInt (a_gradeMany m4129).toInt := HQ.mk (by rw [v4130.out])
    have f4133 := i2 m4129
    have v4134 : HQ ((0 : Int32)).toInt 0 := HQ.mk (by decide)
    have f4135 := eq32k v4132.out v4134.out c4128
    exact OK_some trivial
  · obtain ⟨m4136, v4137, f4138⟩ := tnV (e := x_1) rfl (by omega)
    have v4139 : HQ ((a_gradeMany ((x_1).toNatClampNeg))).toInt (a_gradeMany m4136).toInt := HQ.mk (by rw [v4137.out])
    have f4140 := i2 m4136
    have v4141 : HQ ((0 : Int32)).toInt 0 := HQ.mk (by decide)
    have f4142 := neq32k v4139.out v4141.out c4128
    refine OK_if (fun c4143 => ?_) (fun c4143 => ?_)
    · have f4144 := eq32k rfl v4141.out c4143
      exact OK_some trivial
    · have f4145 := neq32k rfl v4141.out c4143
      have v4146 : HQ (((4 : Int32) * x_1)).toInt (4 * (x_1).toInt) := HQ.mk (mulV v4124.out rfl (by omega) (by omega))
      refine OK_ck (ckV v4146.out (by omega) (by omega)) ?_
      have v4147 : HQ ((5 : Int32)).toInt 5 := HQ.mk (by decide)
      have v4148 : HQ (((5 : Int32) * z1)).toInt (5 * (z1).toInt) := HQ.mk (mulV v4147.out rfl (by omega) (by omega))
      obtain ⟨m4149, v4150, f4151⟩ := tnV (e := ((4 : Int32) * x_1)) v4146.out (by omega)
      have v4152 : HQ ((a_gKind ((((4 : Int32) * x_1)).toNatClampNeg))).toInt (a_gKind m4149).toInt := HQ.mk (by rw [v4150.out])
      have f4153 := i3 m4149
      have v4154 : HQ ((((5 : Int32) * z1) + (a_gKind ((((4 : Int32) * x_1)).toNatClampNeg)))).toInt ((5 * (z1).toInt) + (a_gKind m4149).toInt) := HQ.mk (addV v4148.out v4152.out (by omega) (by omega))
      refine OK_ck (ckV v4154.out (by omega) (by omega)) ?_
      have v4155 : HQ ((u_3.1).toInt64).toInt (u_3.1).toInt := HQ.mk ((Int32.toInt_toInt64 _).trans rfl)
      refine OK_lt (fun x_9 e_x_9 => ?_)
      have f4156 : (x_9).toInt = (u_3.1).toInt := by rw [e_x_9]; exact v4155.out
      refine OK_ck (neV64 rfl (by omega)) ?_
      exact OK_some trivial
