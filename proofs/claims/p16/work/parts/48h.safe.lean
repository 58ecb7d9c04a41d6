set_option maxHeartbeats 2000000 in
theorem sFX7_earned_69 (n : Nat) (hn : n = 2200000000) (v_bank : Int32) (a_gradeMany : Nat → Int32) (a_gPurity : Nat → Int32) (a_all : Nat → Int32) (a_gKind : Nat → Int32) (a_gPrice : Nat → Int32) (z1 : Int32) (k16 : Int32 → Int32 → Int32 → Int32 → Option (Int32 × Unit)) (mB16 : Nat) (hk16 : ∀ (x1 : Int32) (x2 : Int32) (x3 : Int32) (x4 : Int32), (0 ≤ (v_bank).toInt) → ((v_bank).toInt ≤ 1) → (∀ i : Nat, (i < 8) → (0 ≤ (a_gradeMany i).toInt ∧ (a_gradeMany i).toInt ≤ 4)) → (∀ i : Nat, (i < 32) → (0 ≤ (a_gKind i).toInt ∧ (a_gKind i).toInt ≤ 4)) → (0 ≤ (z1).toInt) → ((z1).toInt ≤ 3) → ((x1).toInt = (z1).toInt) → ((x2).toInt = 4 * (v_bank).toInt + (z1).toInt) → (-1 ≤ (x3).toInt) → ((x3).toInt ≤ 31) → (4 * (x2).toInt ≤ (x4).toInt) → ((x4).toInt ≤ 4 * (x2).toInt + 4) → (32 - (x4).toInt).toNat < mB16 → OK (k16 x1 x2 x3 x4) (fun u => True)) (x1 : Int32) (x2 : Int32) (x3 : Int32) (x4 : Int32) (i0 : 0 ≤ (v_bank).toInt) (i1 : (v_bank).toInt ≤ 1) (i2 : ∀ i : Nat, (i < 8) → (0 ≤ (a_gradeMany i).toInt ∧ (a_gradeMany i).toInt ≤ 4)) (i3 : ∀ i : Nat, (i < 32) → (0 ≤ (a_gKind i).toInt ∧ (a_gKind i).toInt ≤ 4)) (i4 : 0 ≤ (z1).toInt) (i5 : (z1).toInt ≤ 3) (i6 : (x1).toInt = (z1).toInt) (i7 : (x2).toInt = 4 * (v_bank).toInt + (z1).toInt) (i8 : -1 ≤ (x3).toInt) (i9 : (x3).toInt ≤ 31) (i10 : 4 * (x2).toInt ≤ (x4).toInt) (i11 : (x4).toInt < 4 * (x2).toInt + 4) (i12 : (32 - (x4).toInt).toNat ≤ mB16) : OK (FX7_earned_69 n v_bank a_gradeMany a_gPurity a_all a_gKind a_gPrice z1 k16 x1 x2 x3 x4) (fun u => True) := by
  unfold FX7_earned_69
  have v4151 : HQ ((1 : Int32)).toInt 1 := HQ.mk (by decide)
  have v4152 : HQ ((x4 + (1 : Int32))).toInt ((x4).toInt + 1) := HQ.mk (addV rfl v4151.out (by omega) (by omega))
  refine OK_lt (fun x_18 e_x_18 => ?_)
  have f4153 : (x_18).toInt = ((x4).toInt + 1) := by rw [e_x_18]; exact v4152.out
  exact hk16 x1 x2 x3 x_18 i0 i1 i2 i3 i4 i5 i6 i7 i8 i9 (by omega) (by omega) (by omega)
set_option maxHeartbeats 2000000 in
theorem sFX7_earned_66 (n : Nat) (hn : n = 2200000000) (v_bank : Int32) (a_gradeMany : Nat → Int32) (a_gPurity : Nat → Int32) (a_all : Nat → Int32) (a_gKind : Nat → Int32) (a_gPrice : Nat → Int32) (z1 : Int32) (k16 : Int32 → Int32 → Int32 → Int32 → Option (Int32 × Unit)) (mB16 : Nat) (hk16 : ∀ (x1 : Int32) (x2 : Int32) (x3 : Int32) (x4 : Int32), (0 ≤ (v_bank).toInt) → ((v_bank).toInt ≤ 1) → (∀ i : Nat, (i < 8) → (0 ≤ (a_gradeMany i).toInt ∧ (a_gradeMany i).toInt ≤ 4)) → (∀ i : Nat, (i < 32) → (0 ≤ (a_gKind i).toInt ∧ (a_gKind i).toInt ≤ 4)) → (0 ≤ (z1).toInt) → ((z1).toInt ≤ 3) → ((x1).toInt = (z1).toInt) → ((x2).toInt = 4 * (v_bank).toInt + (z1).toInt) → (-1 ≤ (x3).toInt) → ((x3).toInt ≤ 31) → (4 * (x2).toInt ≤ (x4).toInt) → ((x4).toInt ≤ 4 * (x2).toInt + 4) → (32 - (x4).toInt).toNat < mB16 → OK (k16 x1 x2 x3 x4) (fun u => True)) (x1 : Int32) (x2 : Int32) (x4 : Int32) (i0 : 0 ≤ (v_bank).toInt) (i1 : (v_bank).toInt ≤ 1) (i2 : ∀ i : Nat, (i < 8) → (0 ≤ (a_gradeMany i).toInt ∧ (a_gradeMany i).toInt ≤ 4)) (i3 : ∀ i : Nat, (i < 32) → (0 ≤ (a_gKind i).toInt ∧ (a_gKind i).toInt ≤ 4)) (i4 : 0 ≤ (z1).toInt) (i5 : (z1).toInt ≤ 3) (i6 : (x1).toInt = (z1).toInt) (i7 : (x2).toInt = 4 * (v_bank).toInt + (z1).toInt) (i8 : 4 * (x2).toInt ≤ (x4).toInt) (i9 : (x4).toInt < 4 * (x2).toInt + 4) (i10 : (32 - (x4).toInt).toNat ≤ mB16) : OK (FX7_earned_66 n v_bank a_gradeMany a_gPurity a_all a_gKind a_gPrice z1 k16 x1 x2 x4) (fun u => True) := by
  unfold FX7_earned_66
  exact sFX7_earned_69 n hn v_bank a_gradeMany a_gPurity a_all a_gKind a_gPrice z1 k16 mB16 hk16 x1 x2 x4 x4 i0 i1 i2 i3 i4 i5 i6 i7 (by omega) (by omega) i8 i9 i10
set_option maxHeartbeats 2000000 in
theorem sFX7_earned_16 (n : Nat) (hn : n = 2200000000) (v_bank : Int32) (a_gradeMany : Nat → Int32) (a_gPurity : Nat → Int32) (a_all : Nat → Int32) (a_gKind : Nat → Int32) (a_gPrice : Nat → Int32) (z1 : Int32) (k16 : Int32 → Int32 → Int32 → Int32 → Option (Int32 × Unit)) (mB16 : Nat) (hk16 : ∀ (x1 : Int32) (x2 : Int32) (x3 : Int32) (x4 : Int32), (0 ≤ (v_bank).toInt) → ((v_bank).toInt ≤ 1) → (∀ i : Nat, (i < 8) → (0 ≤ (a_gradeMany i).toInt ∧ (a_gradeMany i).toInt ≤ 4)) → (∀ i : Nat, (i < 32) → (0 ≤ (a_gKind i).toInt ∧ (a_gKind i).toInt ≤ 4)) → (0 ≤ (z1).toInt) → ((z1).toInt ≤ 3) → ((x1).toInt = (z1).toInt) → ((x2).toInt = 4 * (v_bank).toInt + (z1).toInt) → (-1 ≤ (x3).toInt) → ((x3).toInt ≤ 31) → (4 * (x2).toInt ≤ (x4).toInt) → ((x4).toInt ≤ 4 * (x2).toInt + 4) → (32 - (x4).toInt).toNat < mB16 → OK (k16 x1 x2 x3 x4) (fun u => True)) (x1 : Int32) (x2 : Int32) (x3 : Int32) (x4 : Int32) (i0 : 0 ≤ (v_bank).toInt) (i1 : (v_bank).toInt ≤ 1) (i2 : ∀ i : Nat, (i < 8) → (0 ≤ (a_gradeMany i).toInt ∧ (a_gradeMany i).toInt ≤ 4)) (i3 : ∀ i : Nat, (i < 32) → (0 ≤ (a_gKind i).toInt ∧ (a_gKind i).toInt ≤ 4)) (i4 : 0 ≤ (z1).toInt) (i5 : (z1).toInt ≤ 3) (i6 : (x1).toInt = (z1).toInt) (i7 : (x2).toInt = 4 * (v_bank).toInt + (z1).toInt) (i8 : -1 ≤ (x3).toInt) (i9 : (x3).toInt ≤ 31) (i10 : 4 * (x2).toInt ≤ (x4).toInt) (i11 : (x4).toInt ≤ 4 * (x2).toInt + 4) (hmu : (32 - (x4).toInt).toNat ≤ mB16) : OK (FX7_earned_16 n v_bank a_gradeMany a_gPurity a_all a_gKind a_gPrice z1 k16 x1 x2 x3 x4) (fun u => True) := by
  unfold FX7_earned_16
  refine OK_ck (ckV rfl (by omega) (by omega)) ?_
  refine OK_if (fun c4154 => ?_) (fun c4154 => ?_)
  · have v4155 : HQ ((4 : Int32)).toInt 4 := HQ.mk (by decide)
    have v4156 : HQ (((4 : Int32) * x2)).toInt (4 * (x2).toInt) := HQ.mk (mulV v4155.out rfl (by omega) (by omega))
    obtain ⟨m4157, v4158, f4159⟩ := tnV (e := x2) rfl (by omega)
    have v4160 : HQ ((a_gradeMany ((x2).toNatClampNeg))).toInt (a_gradeMany m4157).toInt := HQ.mk (by rw [v4158.out])
    have f4161 := i2 m4157
    have v4162 : HQ ((((4 : Int32) * x2) + (a_gradeMany ((x2).toNatClampNeg)))).toInt ((4 * (x2).toInt) + (a_gradeMany m4157).toInt) := HQ.mk (addV v4156.out v4160.out (by omega) (by omega))
    have f4163 := le32k v4162.out rfl c4154
    refine OK_if (fun c4164 => ?_) (fun c4164 => ?_)
    · have v4165 : HQ ((0 : Int32)).toInt 0 := HQ.mk (by decide)
      have f4166 := le32k v4165.out rfl c4164
      refine OK_bd (sX7_sumOf n hn a_all x1 (by omega) (by omega)) (fun u_7 p_u_7 => ?_)
      refine OK_ck (ckV rfl (by omega) (by omega)) ?_
      refine OK_ck (by decide) ?_
      exact OK_some trivial
    · have v4167 : HQ ((0 : Int32)).toInt 0 := HQ.mk (by decide)
      have f4168 := nle32k v4167.out rfl c4164
      exact OK_some trivial
  · have v4169 : HQ ((4 : Int32)).toInt 4 := HQ.mk (by decide)
    have v4170 : HQ (((4 : Int32) * x2)).toInt (4 * (x2).toInt) := HQ.mk (mulV v4169.out rfl (by omega) (by omega))
    obtain ⟨m4171, v4172, f4173⟩ := tnV (e := x2) rfl (by omega)
    have v4174 : HQ ((a_gradeMany ((x2).toNatClampNeg))).toInt (a_gradeMany m4171).toInt := HQ.mk (by rw [v4172.out])
    have f4175 := i2 m4171
    have v4176 : HQ ((((4 : Int32) * x2) + (a_gradeMany ((x2).toNatClampNeg)))).toInt ((4 * (x2).toInt) + (a_gradeMany m4171).toInt) := HQ.mk (addV v4170.out v4174.out (by omega) (by omega))
    have f4177 := nle32k v4176.out rfl c4154
    refine OK_ck (ckV rfl (by omega) (by omega)) ?_
    refine OK_bd (sX7_purityOf n hn v_bank a_all a_gradeMany a_gKind x1 i0 i1 i2 i3 (by omega) (by omega)) (fun u_12 p_u_12 => ?_)
    refine OK_if (fun c4178 => ?_) (fun c4178 => ?_)
    · obtain ⟨m4179, v4180, f4181⟩ := tnV (e := x4) rfl (by omega)
      have v4182 : HQ ((a_gPurity ((x4).toNatClampNeg))).toInt (a_gPurity m4179).toInt := HQ.mk (by rw [v4180.out])
      have f4183 := lt32k rfl v4182.out c4178
      exact sFX7_earned_69 n hn v_bank a_gradeMany a_gPurity a_all a_gKind a_gPrice z1 k16 mB16 hk16 x1 x2 x3 x4 i0 i1 i2 i3 i4 i5 i6 i7 i8 i9 i10 (by omega) (by omega)
    · obtain ⟨m4184, v4185, f4186⟩ := tnV (e := x4) rfl (by omega)
      have v4187 : HQ ((a_gPurity ((x4).toNatClampNeg))).toInt (a_gPurity m4184).toInt := HQ.mk (by rw [v4185.out])
      have f4188 := nlt32k rfl v4187.out c4178
      refine OK_if (fun c4189 => ?_) (fun c4189 => ?_)
      · have v4190 : HQ ((0 : Int32)).toInt 0 := HQ.mk (by decide)
        have f4191 := lt32k rfl v4190.out c4189
        exact sFX7_earned_66 n hn v_bank a_gradeMany a_gPurity a_all a_gKind a_gPrice z1 k16 mB16 hk16 x1 x2 x4 i0 i1 i2 i3 i4 i5 i6 i7 i10 (by omega) (by omega)
      · have v4192 : HQ ((0 : Int32)).toInt 0 := HQ.mk (by decide)
        have f4193 := nlt32k rfl v4192.out c4189
        refine OK_ck (ckV rfl (by omega) (by omega)) ?_
        refine OK_ck (ckV rfl (by omega) (by omega)) ?_
        refine OK_if (fun c4194 => ?_) (fun c4194 => ?_)
        · obtain ⟨m4195, v4196, f4197⟩ := tnV (e := x3) rfl (by omega)
          have v4198 : HQ ((a_gPurity ((x3).toNatClampNeg))).toInt (a_gPurity m4195).toInt := HQ.mk (by rw [v4196.out])
          have f4199 := le32k v4187.out v4198.out c4194
          exact sFX7_earned_69 n hn v_bank a_gradeMany a_gPurity a_all a_gKind a_gPrice z1 k16 mB16 hk16 x1 x2 x3 x4 i0 i1 i2 i3 i4 i5 i6 i7 i8 i9 i10 (by omega) (by omega)
        · obtain ⟨m4200, v4201, f4202⟩ := tnV (e := x3) rfl (by omega)
          have v4203 : HQ ((a_gPurity ((x3).toNatClampNeg))).toInt (a_gPurity m4200).toInt := HQ.mk (by rw [v4201.out])
          have f4204 := nle32k v4187.out v4203.out c4194
          exact sFX7_earned_66 n hn v_bank a_gradeMany a_gPurity a_all a_gKind a_gPrice z1 k16 mB16 hk16 x1 x2 x4 i0 i1 i2 i3 i4 i5 i6 i7 i10 (by omega) (by omega)
theorem sFX7_earned_16L (n : Nat) (hn : n = 2200000000) (v_bank : Int32) (a_gradeMany : Nat → Int32) (a_gPurity : Nat → Int32) (a_all : Nat → Int32) (a_gKind : Nat → Int32) (a_gPrice : Nat → Int32) (z1 : Int32) : ∀ (j : Nat) (x1 : Int32) (x2 : Int32) (x3 : Int32) (x4 : Int32), (0 ≤ (v_bank).toInt) → ((v_bank).toInt ≤ 1) → (∀ i : Nat, (i < 8) → (0 ≤ (a_gradeMany i).toInt ∧ (a_gradeMany i).toInt ≤ 4)) → (∀ i : Nat, (i < 32) → (0 ≤ (a_gKind i).toInt ∧ (a_gKind i).toInt ≤ 4)) → (0 ≤ (z1).toInt) → ((z1).toInt ≤ 3) → ((x1).toInt = (z1).toInt) → ((x2).toInt = 4 * (v_bank).toInt + (z1).toInt) → (-1 ≤ (x3).toInt) → ((x3).toInt ≤ 31) → (4 * (x2).toInt ≤ (x4).toInt) → ((x4).toInt ≤ 4 * (x2).toInt + 4) → (32 - (x4).toInt).toNat < j → OK (FX7_earned_16L n v_bank a_gradeMany a_gPurity a_all a_gKind a_gPrice z1 j x1 x2 x3 x4) (fun u => True) := by
  intro j
  induction j with
  | zero => intro _ _ _ _ _ _ _ _ _ _ _ _ _ _ _ _ hj; exact absurd hj (Nat.not_lt_zero _)
  | succ j ih =>
    intro x1 x2 x3 x4 i0 i1 i2 i3 i4 i5 i6 i7 i8 i9 i10 i11 hj
    exact sFX7_earned_16 n hn v_bank a_gradeMany a_gPurity a_all a_gKind a_gPrice z1 (FX7_earned_16L n v_bank a_gradeMany a_gPurity a_all a_gKind a_gPrice z1 j) ((32 - (x4).toInt).toNat) (fun y0 y1 y2 y3 w0 w1 w2 w3 w4 w5 w6 w7 w8 w9 w10 w11 hlt => ih y0 y1 y2 y3 w0 w1 w2 w3 w4 w5 w6 w7 w8 w9 w10 w11 (by omega)) x1 x2 x3 x4 i0 i1 i2 i3 i4 i5 i6 i7 i8 i9 i10 i11 (Nat.le_refl _)
set_option maxHeartbeats 2000000 in
theorem sX7_earned (n : Nat) (hn : n = 2200000000) (v_bank : Int32) (a_gradeMany : Nat → Int32) (a_gPurity : Nat → Int32) (a_all : Nat → Int32) (a_gKind : Nat → Int32) (a_gPrice : Nat → Int32) (z1 : Int32) (i0 : 0 ≤ (v_bank).toInt) (i1 : (v_bank).toInt ≤ 1) (i2 : ∀ i : Nat, (i < 8) → (0 ≤ (a_gradeMany i).toInt ∧ (a_gradeMany i).toInt ≤ 4)) (i3 : ∀ i : Nat, (i < 32) → (0 ≤ (a_gKind i).toInt ∧ (a_gKind i).toInt ≤ 4)) (i4 : 0 ≤ (z1).toInt) (i5 : (z1).toInt ≤ 3) : OK (FX7_earned n v_bank a_gradeMany a_gPurity a_all a_gKind a_gPrice z1) (fun u => True) := by
  unfold FX7_earned
  have v4205 : HQ ((4 : Int32)).toInt 4 := HQ.mk (by decide)
  have v4206 : HQ (((4 : Int32) * v_bank)).toInt (4 * (v_bank).toInt) := HQ.mk (mulV v4205.out rfl (by omega) (by omega))
  have v4207 : HQ ((((4 : Int32) * v_bank) + z1)).toInt ((4 * (v_bank).toInt) + (z1).toInt) := HQ.mk (addV v4206.out rfl (by omega) (by omega))
  refine OK_lt (fun x_1 e_x_1 => ?_)
  have f4208 : (x_1).toInt = ((4 * (v_bank).toInt) + (z1).toInt) := by rw [e_x_1]; exact v4207.out
  have v4209 : HQ (((4 : Int32) * x_1)).toInt (4 * (x_1).toInt) := HQ.mk (mulV v4205.out rfl (by omega) (by omega))
  refine OK_lt (fun x_2 e_x_2 => ?_)
  have f4210 : (x_2).toInt = (4 * (x_1).toInt) := by rw [e_x_2]; exact v4209.out
  have v4211 : HQ ((-1 : Int32)).toInt (-1) := HQ.mk (by decide)
  exact sFX7_earned_16L n hn v_bank a_gradeMany a_gPurity a_all a_gKind a_gPrice z1 n z1 x_1 (-1 : Int32) x_2 i0 i1 i2 i3 i4 i5 (by omega) (by omega) (by (rw [v4211.out]) <;> omega) (by (rw [v4211.out]) <;> omega) (by omega) (by omega) (by omega)
set_option maxHeartbeats 2000000 in
theorem sX7_purity (n : Nat) (hn : n = 2200000000) (v_bank : Int32) (v_whole : Int64) (v_lorries : Int32) (a_hand : Nat → Int32) (a_lTown : Nat → Int32) (a_isStruck : Nat → Int32) (a_lSampled : Nat → Int32) (a_lWeight : Nat → Int32) (a_unitMany : Nat → Int32) (a_parts : Nat → Int64) (a_rows : Nat → Int64) (a_chosen : Nat → Int32) (a_settingMany : Nat → Int32) (a_shares : Nat → Int32) (a_yesTo : Nat → Int32) (a_noTo : Nat → Int32) (a_all : Nat → Int32) (a_gradeMany : Nat → Int32) (a_gKind : Nat → Int32) (z1 : Int32) (gM : Int) (i0 : 0 ≤ (v_bank).toInt) (i1 : (v_bank).toInt ≤ 1) (i2 : ∀ i : Nat, ((i : Int) = (v_bank).toInt) → ((a_unitMany i).toInt = gM)) (i3 : 0 ≤ gM) (i4 : gM ≤ 5) (i5 : ∀ i : Nat, (5 * (v_bank).toInt ≤ (i : Int) ∧ (i : Int) < 5 * (v_bank).toInt + gM) → ((0 ≤ (a_yesTo i).toInt ∧ (a_yesTo i).toInt ≤ 4) ∨ (10 ≤ (a_yesTo i).toInt ∧ (a_yesTo i).toInt ≤ 13) ∨ (a_yesTo i).toInt = 20)) (i6 : ∀ i : Nat, (5 * (v_bank).toInt ≤ (i : Int) ∧ (i : Int) < 5 * (v_bank).toInt + gM) → ((0 ≤ (a_noTo i).toInt ∧ (a_noTo i).toInt ≤ 4) ∨ (10 ≤ (a_noTo i).toInt ∧ (a_noTo i).toInt ≤ 13) ∨ (a_noTo i).toInt = 20)) (i7 : ∀ i : Nat, (i < 10) → (0 ≤ (a_settingMany i).toInt ∧ (a_settingMany i).toInt ≤ 3)) (i8 : ∀ i : Nat, (i < 5) → (0 ≤ (a_chosen i).toInt ∧ (a_chosen i).toInt ≤ 2)) (i9 : 0 ≤ (v_lorries).toInt) (i10 : (v_lorries).toInt ≤ 60) (i11 : ∀ i : Nat, (i < 8) → (0 ≤ (a_gradeMany i).toInt ∧ (a_gradeMany i).toInt ≤ 4)) (i12 : ∀ i : Nat, (i < 32) → (0 ≤ (a_gKind i).toInt ∧ (a_gKind i).toInt ≤ 4)) : OK (FX7_purity n v_bank v_whole v_lorries a_hand a_lTown a_isStruck a_lSampled a_lWeight a_unitMany a_parts a_rows a_chosen a_settingMany a_shares a_yesTo a_noTo a_all a_gradeMany a_gKind z1) (fun u => True) := by
  unfold FX7_purity
  refine OK_bd (sX7_isBale n hn z1) (fun u_2 p_u_2 => ?_)
  have p4212 := p_u_2
  clear p_u_2
  refine OK_if (fun c4213 => ?_) (fun c4213 => ?_)
  · have v4214 : HQ ((0 : Int32)).toInt 0 := HQ.mk (by decide)
    have f4215 := eq32k rfl v4214.out c4213
    exact OK_some trivial
  · have v4216 : HQ ((0 : Int32)).toInt 0 := HQ.mk (by decide)
    have f4217 := neq32k rfl v4216.out c4213
    refine OK_bd (sX7_sortAll n hn v_bank v_whole v_lorries a_hand a_lTown a_isStruck a_lSampled a_lWeight a_unitMany a_parts a_rows a_chosen a_settingMany a_shares a_yesTo a_noTo a_all (gM) i0 i1 (by
        intro i hi
        have f4218 := i2 i
        omega) (by omega) (by omega) (by
        intro i hi
        have f4219 := i5 i
        omega) (by
        intro i hi
        have f4220 := i6 i
        omega) i7 i8 i9 i10) (fun u_5 p_u_5 => ?_)
    refine OK_bd (sX7_purityOf n hn v_bank u_5.2.2.2.2 a_gradeMany a_gKind z1 i0 i1 i11 i12 (by omega) (by omega)) (fun u_7 p_u_7 => ?_)
    exact OK_some trivial
