set_option maxHeartbeats 2000000 in
theorem sFX7_earned_69 (n : Nat) (hn : n = 2200000000) (v_bank : Int32) (a_gradeMany : Nat → Int32) (a_gPurity : Nat → Int32) (a_all : Nat → Int32) (a_gKind : Nat → Int32) (a_gPrice : Nat → Int32) (z1 : Int32) (k16 : Int32 → Int32 → Int32 → Int32 → Option (Int32 × Unit)) (mB16 : Nat) (hk16 : ∀ (x1 : Int32) (x2 : Int32) (x3 : Int32) (x4 : Int32), (0 ≤ (v_bank).toInt) → ((v_bank).toInt ≤ 1) → (∀ i : Nat, (i < 8) → (0 ≤ (a_gradeMany i).toInt ∧ (a_gradeMany i).toInt ≤ 4)) → (∀ i : Nat, (i < 32) → (0 ≤ (a_gKind i).toInt ∧ (a_gKind i).toInt ≤ 4)) → (0 ≤ (z1).toInt) → ((z1).toInt ≤ 3) → ((x1).toInt = (z1).toInt) → ((x2).toInt = 4 * (v_bank).toInt + (z1).toInt) → (-1 ≤ (x3).toInt) → ((x3).toInt ≤ 31) → (4 * (x2).toInt ≤ (x4).toInt) → ((x4).toInt ≤ 4 * (x2).toInt + 4) → (32 - (x4).toInt).toNat < mB16 → OK (k16 x1 x2 x3 x4) (fun u => True)) (x1 : Int32) (x2 : Int32) (x3 : Int32) (x4 : Int32) (i0 : 0 ≤ (v_bank).toInt) (i1 : (v_bank).toInt ≤ 1) (i2 : ∀ i : Nat, (i < 8) → (0 ≤ (a_gradeMany i).toInt ∧ (a_gradeMany i).toInt ≤ 4)) (i3 : ∀ i : Nat, (i < 32) → (0 ≤ (a_gKind i).toInt ∧ (a_gKind i).toInt ≤ 4)) (i4 : 0 ≤ (z1).toInt) (i5 : (z1).toInt ≤ 3) (i6 : (x1).toInt = (z1).toInt) (i7 : (x2).toInt = 4 * (v_bank).toInt + (z1).toInt) (i8 : -1 ≤ (x3).toInt) (i9 : (x3).toInt ≤ 31) (i10 : 4 * (x2).toInt ≤ (x4).toInt) (i11 : (x4).toInt < 4 * (x2).toInt + 4) (i12 : (32 - (x4).toInt).toNat ≤ mB16) : OK (FX7_earned_69 n v_bank a_gradeMany a_gPurity a_all a_gKind a_gPrice z1 k16 x1 x2 x3 x4) (fun u => True) := by
  unfold FX7_earned_69
  have v4157 : HQ ((1 : Int32)).toInt 1 := HQ.mk (by decide)
  have v4158 : HQ ((x4 + (1 : Int32))).toInt ((x4).toInt + 1) := HQ.mk (addV rfl v4157.out (by omega) (by omega))
  refine OK_lt (fun x_18 e_x_18 => ?_)
  have f4159 : (x_18).toInt = ((x4).toInt + 1) := by rw [e_x_18]; exact v4158.out
  exact hk16 x1 x2 x3 x_18 i0 i1 i2 i3 i4 i5 i6 i7 i8 i9 (by omega) (by omega) (by omega)
set_option maxHeartbeats 2000000 in
theorem sFX7_earned_66 (n : Nat) (hn : n = 2200000000) (v_bank : Int32) (a_gradeMany : Nat → Int32) (a_gPurity : Nat → Int32) (a_all : Nat → Int32) (a_gKind : Nat → Int32) (a_gPrice : Nat → Int32) (z1 : Int32) (k16 : Int32 → Int32 → Int32 → Int32 → Option (Int32 × Unit)) (mB16 : Nat) (hk16 : ∀ (x1 : Int32) (x2 : Int32) (x3 : Int32) (x4 : Int32), (0 ≤ (v_bank).toInt) → ((v_bank).toInt ≤ 1) → (∀ i : Nat, (i < 8) → (0 ≤ (a_gradeMany i).toInt ∧ (a_gradeMany i).toInt ≤ 4)) → (∀ i : Nat, (i < 32) → (0 ≤ (a_gKind i).toInt ∧ (a_gKind i).toInt ≤ 4)) → (0 ≤ (z1).toInt) → ((z1).toInt ≤ 3) → ((x1).toInt = (z1).toInt) → ((x2).toInt = 4 * (v_bank).toInt + (z1).toInt) → (-1 ≤ (x3).toInt) → ((x3).toInt ≤ 31) → (4 * (x2).toInt ≤ (x4).toInt) → ((x4).toInt ≤ 4 * (x2).toInt + 4) → (32 - (x4).toInt).toNat < mB16 → OK (k16 x1 x2 x3 x4) (fun u => True)) (x1 : Int32) (x2 : Int32) (x4 : Int32) (i0 : 0 ≤ (v_bank).toInt) (i1 : (v_bank).toInt ≤ 1) (i2 : ∀ i : Nat, (i < 8) → (0 ≤ (a_gradeMany i).toInt ∧ (a_gradeMany i).toInt ≤ 4)) (i3 : ∀ i : Nat, (i < 32) → (0 ≤ (a_gKind i).toInt ∧ (a_gKind i).toInt ≤ 4)) (i4 : 0 ≤ (z1).toInt) (i5 : (z1).toInt ≤ 3) (i6 : (x1).toInt = (z1).toInt) (i7 : (x2).toInt = 4 * (v_bank).toInt + (z1).toInt) (i8 : 4 * (x2).toInt ≤ (x4).toInt) (i9 : (x4).toInt < 4 * (x2).toInt + 4) (i10 : (32 - (x4).toInt).toNat ≤ mB16) : OK (FX7_earned_66 n v_bank a_gradeMany a_gPurity a_all a_gKind a_gPrice z1 k16 x1 x2 x4) (fun u => True) := by
  unfold FX7_earned_66
  exact sFX7_earned_69 n hn v_bank a_gradeMany a_gPurity a_all a_gKind a_gPrice z1 k16 mB16 hk16 x1 x2 x4 x4 i0 i1 i2 i3 i4 i5 i6 i7 (by omega) (by omega) i8 i9 i10
set_option maxHeartbeats 2000000 in
theorem sFX7_earned_16 (n : Nat) (hn : n = 2200000000) (v_bank : Int32) (a_gradeMany : Nat → Int32) (a_gPurity : Nat → Int32) (a_all : Nat → Int32) (a_gKind : Nat → Int32) (a_gPrice : Nat → Int32) (z1 : Int32) (k16 : Int32 → Int32 → Int32 → Int32 → Option (Int32 × Unit)) (mB16 : Nat) (hk16 : ∀ (x1 : Int32) (x2 : Int32) (x3 : Int32) (x4 : Int32), (0 ≤ (v_bank).toInt) → ((v_bank).toInt ≤ 1) → (∀ i : Nat, (i < 8) → (0 ≤ (a_gradeMany i).toInt ∧ (a_gradeMany i).toInt ≤ 4)) → (∀ i : Nat, (i < 32) → (0 ≤ (a_gKind i).toInt ∧ (a_gKind i).toInt ≤ 4)) → (0 ≤ (z1).toInt) → ((z1).toInt ≤ 3) → ((x1).toInt = (z1).toInt) → ((x2).toInt = 4 * (v_bank).toInt + (z1).toInt) → (-1 ≤ (x3).toInt) → ((x3).toInt ≤ 31) → (4 * (x2).toInt ≤ (x4).toInt) → ((x4).toInt ≤ 4 * (x2).toInt + 4) → (32 - (x4).toInt).toNat < mB16 → OK (k16 x1 x2 x3 x4) (fun u => True)) (x1 : Int32) (x2 : Int32) (x3 : Int32) (x4 : Int32) (i0 : 0 ≤ (v_bank).toInt) (i1 : (v_bank).toInt ≤ 1) (i2 : ∀ i : Nat, (i < 8) → (0 ≤ (a_gradeMany i).toInt ∧ (a_gradeMany i).toInt ≤ 4)) (i3 : ∀ i : Nat, (i < 32) → (0 ≤ (a_gKind i).toInt ∧ (a_gKind i).toInt ≤ 4)) (i4 : 0 ≤ (z1).toInt) (i5 : (z1).toInt ≤ 3) (i6 : (x1).toInt = (z1).toInt) (i7 : (x2).toInt = 4 * (v_bank).toInt + (z1).toInt) (i8 : -1 ≤ (x3).toInt) (i9 : (x3).toInt ≤ 31) (i10 : 4 * (x2).toInt ≤ (x4).toInt) (i11 : (x4).toInt ≤ 4 * (x2).toInt + 4) (hmu : (32 - (x4).toInt).toNat ≤ mB16) : OK (FX7_earned_16 n v_bank a_gradeMany a_gPurity a_all a_gKind a_gPrice z1 k16 x1 x2 x3 x4) (fun u => True) := by
  unfold FX7_earned_16
  refine OK_ck (ckV rfl (by omega) (by omega)) ?_
  refine OK_if (fun c4160 => ?_) (fun c4160 => ?_)
  · have v4161 : HQ ((4 : Int32)).toInt 4 := HQ.mk (by decide)
    have v4162 : HQ (((4 : Int32) * x2)).toInt (4 * (x2).toInt) := HQ.mk (mulV v4161.out rfl (by omega) (by omega))
    obtain ⟨m4163, v4164, f4165⟩ := tnV (e := x2) rfl (by omega)
    have v4166 : HQ ((a_gradeMany ((x2).toNatClampNeg))).toInt (a_gradeMany m4163).toInt := HQ.mk (by rw [v4164.out])
    have f4167 := i2 m4163
    have v4168 : HQ ((((4 : Int32) * x2) + (a_gradeMany ((x2).toNatClampNeg)))).toInt ((4 * (x2).toInt) + (a_gradeMany m4163).toInt) := HQ.mk (addV v4162.out v4166.out (by omega) (by omega))
    have f4169 := le32k v4168.out rfl c4160
    refine OK_if (fun c4170 => ?_) (fun c4170 => ?_)
    · have v4171 : HQ ((0 : Int32)).toInt 0 := HQ.mk (by decide)
      have f4172 := le32k v4171.out rfl c4170
      refine OK_bd (sX7_sumOf n hn a_all x1 (by omega) (by omega)) (fun u_7 p_u_7 => ?_)
      refine OK_ck (ckV rfl (by omega) (by omega)) ?_
      refine OK_ck (by decide) ?_
      exact OK_some trivial
    · have v4173 : HQ ((0 : Int32)).toInt 0 := HQ.mk (by decide)
      have f4174 := nle32k v4173.out rfl c4170
      exact OK_some trivial
  · have v4175 : HQ ((4 : Int32)).toInt 4 := HQ.mk (by decide)
    have v4176 : HQ (((4 : Int32) * x2)).toInt (4 * (x2).toInt) := HQ.mk (mulV v4175.out rfl (by omega) (by omega))
    obtain ⟨m4177, v4178, f4179⟩ := tnV (e := x2) rfl (by omega)
    have v4180 : HQ ((a_gradeMany ((x2).toNatClampNeg))).toInt (a_gradeMany m4177).toInt := HQ.mk (by rw [v4178.out])
    have f4181 := i2 m4177
    have v4182 : HQ ((((4 : Int32) * x2) + (a_gradeMany ((x2).toNatClampNeg)))).toInt ((4 * (x2).toInt) + (a_gradeMany m4177).toInt) := HQ.mk (addV v4176.out v4180.out (by omega) (by omega))
    have f4183 := nle32k v4182.out rfl c4160
    refine OK_ck (ckV rfl (by omega) (by omega)) ?_
    refine OK_bd (sX7_purityOf n hn v_bank a_all a_gradeMany a_gKind x1 i0 i1 i2 i3 (by omega) (by omega)) (fun u_12 p_u_12 => ?_)
    refine OK_if (fun c4184 => ?_) (fun c4184 => ?_)
    · obtain ⟨m4185, v4186, f4187⟩ := tnV (e := x4) rfl (by omega)
      have v4188 : HQ ((a_gPurity ((x4).toNatClampNeg))).toInt (a_gPurity m4185).toInt := HQ.mk (by rw [v4186.out])
      have f4189 := lt32k rfl v4188.out c4184
      exact sFX7_earned_69 n hn v_bank a_gradeMany a_gPurity a_all a_gKind a_gPrice z1 k16 mB16 hk16 x1 x2 x3 x4 i0 i1 i2 i3 i4 i5 i6 i7 i8 i9 i10 (by omega) (by omega)
    · obtain ⟨m4190, v4191, f4192⟩ := tnV (e := x4) rfl (by omega)
      have v4193 : HQ ((a_gPurity ((x4).toNatClampNeg))).toInt (a_gPurity m4190).toInt := HQ.mk (by rw [v4191.out])
      have f4194 := nlt32k rfl v4193.out c4184
      refine OK_if (fun c4195 => ?_) (fun c4195 => ?_)
      · have v4196 : HQ ((0 : Int32)).toInt 0 := HQ.mk (by decide)
        have f4197 := lt32k rfl v4196.out c4195
        exact sFX7_earned_66 n hn v_bank a_gradeMany a_gPurity a_all a_gKind a_gPrice z1 k16 mB16 hk16 x1 x2 x4 i0 i1 i2 i3 i4 i5 i6 i7 i10 (by omega) (by omega)
      · have v4198 : HQ ((0 : Int32)).toInt 0 := HQ.mk (by decide)
        have f4199 := nlt32k rfl v4198.out c4195
        refine OK_ck (ckV rfl (by omega) (by omega)) ?_
        refine OK_ck (ckV rfl (by omega) (by omega)) ?_
        refine OK_if (fun c4200 => ?_) (fun c4200 => ?_)
        · obtain ⟨m4201, v4202, f4203⟩ := tnV (e := x3) rfl (by omega)
          have v4204 : HQ ((a_gPurity ((x3).toNatClampNeg))).toInt (a_gPurity m4201).toInt := HQ.mk (by rw [v4202.out])
          have f4205 := le32k v4193.out v4204.out c4200
          exact sFX7_earned_69 n hn v_bank a_gradeMany a_gPurity a_all a_gKind a_gPrice z1 k16 mB16 hk16 x1 x2 x3 x4 i0 i1 i2 i3 i4 i5 i6 i7 i8 i9 i10 (by omega) (by omega)
        · obtain ⟨m4206, v4207, f4208⟩ := tnV (e := x3) rfl (by omega)
          have v4209 : HQ ((a_gPurity ((x3).toNatClampNeg))).toInt (a_gPurity m4206).toInt := HQ.mk (by rw [v4207.out])
          have f4210 := nle32k v4193.out v4209.out c4200
          exact sFX7_earned_66 n hn v_bank a_gradeMany a_gPurity a_all a_gKind a_gPrice z1 k16 mB16 hk16 x1 x2 x4 i0 i1 i2 i3 i4 i5 i6 i7 i10 (by omega) (by omega)
theorem sFX7_earned_16L (n : Nat) (hn : n = 2200000000) (v_bank : Int32) (a_gradeMany : Nat → Int32) (a_gPurity : Nat → Int32) (a_all : Nat → Int32) (a_gKind : Nat → Int32) (a_gPrice : Nat → Int32) (z1 : Int32) : ∀ (j : Nat) (x1 : Int32) (x2 : Int32) (x3 : Int32) (x4 : Int32), (0 ≤ (v_bank).toInt) → ((v_bank).toInt ≤ 1) → (∀ i : Nat, (i < 8) → (0 ≤ (a_gradeMany i).toInt ∧ (a_gradeMany i).toInt ≤ 4)) → (∀ i : Nat, (i < 32) → (0 ≤ (a_gKind i).toInt ∧ (a_gKind i).toInt ≤ 4)) → (0 ≤ (z1).toInt) → ((z1).toInt ≤ 3) → ((x1).toInt = (z1).toInt) → ((x2).toInt = 4 * (v_bank).toInt + (z1).toInt) → (-1 ≤ (x3).toInt) → ((x3).toInt ≤ 31) → (4 * (x2).toInt ≤ (x4).toInt) → ((x4).toInt ≤ 4 * (x2).toInt + 4) → (32 - (x4).toInt).toNat < j → OK (FX7_earned_16L n v_bank a_gradeMany a_gPurity a_all a_gKind a_gPrice z1 j x1 x2 x3 x4) (fun u => True) := by
  intro j
  induction j with
  | zero => intro _ _ _ _ _ _ _ _ _ _ _ _ _ _ _ _ hj; exact absurd hj (Nat.not_lt_zero _)
  | succ j ih =>
    intro x1 x2 x3 x4 i0 i1 i2 i3 i4 i5 i6 i7 i8 i9 i10 i11 hj
    exact sFX7_earned_16 n hn v_bank a_gradeMany a_gPurity a_all a_gKind a_gPrice z1 (FX7_earned_16L n v_bank a_gradeMany a_gPurity a_all a_gKind a_gPrice z1 j) ((32 - (x4).toInt).toNat) (fun y0 y1 y2 y3 w0 w1 w2 w3 w4 w5 w6 w7 w8 w9 w10 w11 hlt => ih y0 y1 y2 y3 w0 w1 w2 w3 w4 w5 w6 w7 w8 w9 w10 w11 (by omega)) x1 x2 x3 x4 i0 i1 i2 i3 i4 i5 i6 i7 i8 i9 i10 i11 (Nat.le_refl _)
set_option maxHeartbeats 2000000 in
theorem sX7_earned (n : Nat) (hn : n = 2200000000) (v_bank : Int32) (a_gradeMany : Nat → Int32) (a_gPurity : Nat → Int32) (a_all : Nat → Int32) (a_gKind : Nat → Int32) (a_gPrice : Nat → Int32) (z1 : Int32) (i0 : 0 ≤ (v_bank).toInt) (i1 : (v_bank).toInt ≤ 1) (i2 : ∀ i : Nat, (i < 8) → (0 ≤ (a_gradeMany i).toInt ∧ (a_gradeMany i).toInt ≤ 4)) (i3 : ∀ i : Nat, (i < 32) → (0 ≤ (a_gKind i).toInt ∧ (a_gKind i).toInt ≤ 4)) (i4 : 0 ≤ (z1).toInt) (i5 : (z1).toInt ≤ 3) : OK (FX7_earned n v_bank a_gradeMany a_gPurity a_all a_gKind a_gPrice z1) (fun u => True) := by
  unfold FX7_earned
  have v4211 : HQ ((4 : Int32)).toInt 4 := HQ.mk (by decide)
  have v4212 : HQ (((4 : Int32) * v_bank)).toInt (4 * (v_bank).toInt) := HQ.mk (mulV v4211.out rfl (by omega) (by omega))
  have v4213 : HQ ((((4 : Int32) * v_bank) + z1)).toInt ((4 * (v_bank).toInt) + (z1).toInt) := HQ.mk (addV v4212.out rfl (by omega) (by omega))
  refine OK_lt (fun x_1 e_x_1 => ?_)
  have f4214 : (x_1).toInt = ((4 * (v_bank).toInt) + (z1).toInt) := by rw [e_x_1]; exact v4213.out
  have v4215 : HQ (((4 : Int32) * x_1)).toInt (4 * (x_1).toInt) := HQ.mk (mulV v4211.out rfl (by omega) (by omega))
  refine OK_lt (fun x_2 e_x_2 => ?_)
  have f4216 : (x_2).toInt = (4 * (x_1).toInt) := by rw [e_x_2]; exact v4215.out
  have v4217 : HQ ((-1 : Int32)).toInt (-1) := HQ.mk (by decide)
  exact sFX7_earned_16L n hn v_bank a_gradeMany a_gPurity a_all a_gKind a_gPrice z1 n z1 x_1 (-1 : Int32) x_2 i0 i1 i2 i3 i4 i5 (by omega) (by omega) (by (rw [v4217.out]) <;> omega) (by (rw [v4217.out]) <;> omega) (by omega) (by omega) (by omega)
set_option maxHeartbeats 2000000 in
theorem sX7_purity (n : Nat) (hn : n = 2200000000) (v_bank : Int32) (v_whole : Int64) (v_lorries : Int32) (a_hand : Nat → Int32) (a_lTown : Nat → Int32) (a_isStruck : Nat → Int32) (a_lSampled : Nat → Int32) (a_lWeight : Nat → Int32) (a_unitMany : Nat → Int32) (a_parts : Nat → Int64) (a_rows : Nat → Int64) (a_chosen : Nat → Int32) (a_settingMany : Nat → Int32) (a_shares : Nat → Int32) (a_yesTo : Nat → Int32) (a_noTo : Nat → Int32) (a_all : Nat → Int32) (a_gradeMany : Nat → Int32) (a_gKind : Nat → Int32) (z1 : Int32) (gM : Int) (i0 : 0 ≤ (v_bank).toInt) (i1 : (v_bank).toInt ≤ 1) (i2 : ∀ i : Nat, ((i : Int) = (v_bank).toInt) → ((a_unitMany i).toInt = gM)) (i3 : 0 ≤ gM) (i4 : gM ≤ 5) (i5 : ∀ i : Nat, (5 * (v_bank).toInt ≤ (i : Int) ∧ (i : Int) < 5 * (v_bank).toInt + gM) → ((0 ≤ (a_yesTo i).toInt ∧ (a_yesTo i).toInt ≤ 4) ∨ (10 ≤ (a_yesTo i).toInt ∧ (a_yesTo i).toInt ≤ 13) ∨ (a_yesTo i).toInt = 20)) (i6 : ∀ i : Nat, (5 * (v_bank).toInt ≤ (i : Int) ∧ (i : Int) < 5 * (v_bank).toInt + gM) → ((0 ≤ (a_noTo i).toInt ∧ (a_noTo i).toInt ≤ 4) ∨ (10 ≤ (a_noTo i).toInt ∧ (a_noTo i).toInt ≤ 13) ∨ (a_noTo i).toInt = 20)) (i7 : ∀ i : Nat, (i < 10) → (0 ≤ (a_settingMany i).toInt ∧ (a_settingMany i).toInt ≤ 3)) (i8 : ∀ i : Nat, (i < 5) → (0 ≤ (a_chosen i).toInt ∧ (a_chosen i).toInt ≤ 2)) (i9 : 0 ≤ (v_lorries).toInt) (i10 : (v_lorries).toInt ≤ 60) (i11 : ∀ i : Nat, (i < 8) → (0 ≤ (a_gradeMany i).toInt ∧ (a_gradeMany i).toInt ≤ 4)) (i12 : ∀ i : Nat, (i < 32) → (0 ≤ (a_gKind i).toInt ∧ (a_gKind i).toInt ≤ 4)) : OK (FX7_purity n v_bank v_whole v_lorries a_hand a_lTown a_isStruck a_lSampled a_lWeight a_unitMany a_parts a_rows a_chosen a_settingMany a_shares a_yesTo a_noTo a_all a_gradeMany a_gKind z1) (fun u => True) := by
  unfold FX7_purity
  refine OK_bd (sX7_isBale n hn z1) (fun u_2 p_u_2 => ?_)
  have p4218 := p_u_2
  clear p_u_2
  refine OK_if (fun c4219 => ?_) (fun c4219 => ?_)
  · have v4220 : HQ ((0 : Int32)).toInt 0 := HQ.mk (by decide)
    have f4221 := eq32k rfl v4220.out c4219
    exact OK_some trivial
  · have v4222 : HQ ((0 : Int32)).toInt 0 := HQ.mk (by decide)
    have f4223 := neq32k rfl v4222.out c4219
    refine OK_bd (sX7_sortAll n hn v_bank v_whole v_lorries a_hand a_lTown a_isStruck a_lSampled a_lWeight a_unitMany a_parts a_rows a_chosen a_settingMany a_shares a_yesTo a_noTo a_all (gM) i0 i1 (by
        intro i hi
        have f4224 := i2 i
        omega) (by omega) (by omega) (by
        intro i hi
        have f4225 := i5 i
        omega) (by
        intro i hi
        have f4226 := i6 i
        omega) i7 i8 i9 i10) (fun u_5 p_u_5 => ?_)
    refine OK_bd (sX7_purityOf n hn v_bank u_5.2.2.2.2 a_gradeMany a_gKind z1 i0 i1 i11 i12 (by omega) (by omega)) (fun u_7 p_u_7 => ?_)
    exact OK_some trivial
