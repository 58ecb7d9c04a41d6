set_option maxHeartbeats 2000000 in
theorem sX7_whole (n : Nat) (hn : n = 2200000000) (v_bank : Int32) (v_whole : Int64) (a_unitMany : Nat → Int32) (a_parts : Nat → Int64) (a_rows : Nat → Int64) (a_chosen : Nat → Int32) (a_settingMany : Nat → Int32) (a_shares : Nat → Int32) (a_yesTo : Nat → Int32) (a_noTo : Nat → Int32) (z1 : Int32) (gM : Int) (i0 : 0 ≤ (v_bank).toInt) (i1 : (v_bank).toInt ≤ 1) (i2 : ∀ i : Nat, ((i : Int) = (v_bank).toInt) → ((a_unitMany i).toInt = gM)) (i3 : 0 ≤ gM) (i4 : gM ≤ 5) (i5 : ∀ i : Nat, (5 * (v_bank).toInt ≤ (i : Int) ∧ (i : Int) < 5 * (v_bank).toInt + gM) → ((0 ≤ (a_yesTo i).toInt ∧ (a_yesTo i).toInt ≤ 4) ∨ (10 ≤ (a_yesTo i).toInt ∧ (a_yesTo i).toInt ≤ 13) ∨ (a_yesTo i).toInt = 20)) (i6 : ∀ i : Nat, (5 * (v_bank).toInt ≤ (i : Int) ∧ (i : Int) < 5 * (v_bank).toInt + gM) → ((0 ≤ (a_noTo i).toInt ∧ (a_noTo i).toInt ≤ 4) ∨ (10 ≤ (a_noTo i).toInt ∧ (a_noTo i).toInt ≤ 13) ∨ (a_noTo i).toInt = 20)) (i7 : ∀ i : Nat, (i < 10) → (0 ≤ (a_settingMany i).toInt ∧ (a_settingMany i).toInt ≤ 3)) (i8 : ∀ i : Nat, (i < 5) → (0 ≤ (a_chosen i).toInt ∧ (a_chosen i).toInt ≤ 2)) : OK (FX7_whole n v_bank v_whole a_unitMany a_parts a_rows a_chosen a_settingMany a_shares a_yesTo a_noTo z1) (fun u => True) := by
  unfold FX7_whole
  refine OK_bd (sX7_isKind n hn z1) (fun u_2 p_u_2 => ?_)
  obtain ⟨p3901, p3902, p3903⟩ := p_u_2
  refine OK_if (fun c3904 => ?_) (fun c3904 => ?_)
  · have v3905 : HQ ((0 : Int32)).toInt 0 := HQ.mk (by decide)
    have f3906 := eq32k rfl v3905.out c3904
    exact OK_some trivial
  · have v3907 : HQ ((0 : Int32)).toInt 0 := HQ.mk (by decide)
    have f3908 := neq32k rfl v3907.out c3904
    refine OK_bd (sX7_solve n hn v_bank v_whole a_unitMany a_parts a_rows a_chosen a_settingMany a_shares a_yesTo a_noTo z1 (gM) i0 i1 (by
        intro i hi
        have f3909 := i2 i
        omega) (by omega) (by omega) (by
        intro i hi
        have f3910 := i5 i
        omega) (by
        intro i hi
        have f3911 := i6 i
        omega) i7 i8 (by omega) (by omega)) (fun u_5 p_u_5 => ?_)
    exact OK_some trivial
set_option maxHeartbeats 2000000 in
theorem sX7_part (n : Nat) (hn : n = 2200000000) (v_bank : Int32) (v_whole : Int64) (a_unitMany : Nat → Int32) (a_parts : Nat → Int64) (a_rows : Nat → Int64) (a_chosen : Nat → Int32) (a_settingMany : Nat → Int32) (a_shares : Nat → Int32) (a_yesTo : Nat → Int32) (a_noTo : Nat → Int32) (z1 : Int32) (z2 : Int32) (gM : Int) (i0 : 0 ≤ (v_bank).toInt) (i1 : (v_bank).toInt ≤ 1) (i2 : ∀ i : Nat, ((i : Int) = (v_bank).toInt) → ((a_unitMany i).toInt = gM)) (i3 : 0 ≤ gM) (i4 : gM ≤ 5) (i5 : ∀ i : Nat, (5 * (v_bank).toInt ≤ (i : Int) ∧ (i : Int) < 5 * (v_bank).toInt + gM) → ((0 ≤ (a_yesTo i).toInt ∧ (a_yesTo i).toInt ≤ 4) ∨ (10 ≤ (a_yesTo i).toInt ∧ (a_yesTo i).toInt ≤ 13) ∨ (a_yesTo i).toInt = 20)) (i6 : ∀ i : Nat, (5 * (v_bank).toInt ≤ (i : Int) ∧ (i : Int) < 5 * (v_bank).toInt + gM) → ((0 ≤ (a_noTo i).toInt ∧ (a_noTo i).toInt ≤ 4) ∨ (10 ≤ (a_noTo i).toInt ∧ (a_noTo i).toInt ≤ 13) ∨ (a_noTo i).toInt = 20)) (i7 : ∀ i : Nat, (i < 10) → (0 ≤ (a_settingMany i).toInt ∧ (a_settingMany i).toInt ≤ 3)) (i8 : ∀ i : Nat, (i < 5) → (0 ≤ (a_chosen i).toInt ∧ (a_chosen i).toInt ≤ 2)) : OK (FX7_part n v_bank v_whole a_unitMany a_parts a_rows a_chosen a_settingMany a_shares a_yesTo a_noTo z1 z2) (fun u => True) := by
  unfold FX7_part
  refine OK_bd (sX7_isKind n hn z1) (fun u_2 p_u_2 => ?_)
  obtain ⟨p3912, p3913, p3914⟩ := p_u_2
  refine OK_if (fun c3915 => ?_) (fun c3915 => ?_)
  · have v3916 : HQ ((0 : Int32)).toInt 0 := HQ.mk (by decide)
    have f3917 := eq32k rfl v3916.out c3915
    exact OK_some trivial
  · have v3918 : HQ ((0 : Int32)).toInt 0 := HQ.mk (by decide)
    have f3919 := neq32k rfl v3918.out c3915
    refine OK_if (fun c3920 => ?_) (fun c3920 => ?_)
    · have f3921 := lt32k rfl v3918.out c3920
      exact OK_some trivial
    · have f3922 := nlt32k rfl v3918.out c3920
      refine OK_if (fun c3923 => ?_) (fun c3923 => ?_)
      · have v3924 : HQ ((5 : Int32)).toInt 5 := HQ.mk (by decide)
        have f3925 := lt32k rfl v3924.out c3923
        refine OK_bd (sX7_solve n hn v_bank v_whole a_unitMany a_parts a_rows a_chosen a_settingMany a_shares a_yesTo a_noTo z1 (gM) i0 i1 (by
            intro i hi
            have f3926 := i2 i
            omega) (by omega) (by omega) (by
            intro i hi
            have f3927 := i5 i
            omega) (by
            intro i hi
            have f3928 := i6 i
            omega) i7 i8 (by omega) (by omega)) (fun u_7 p_u_7 => ?_)
        refine OK_ck (ckV rfl (by omega) (by omega)) ?_
        exact OK_some trivial
      · have v3929 : HQ ((5 : Int32)).toInt 5 := HQ.mk (by decide)
        have f3930 := nlt32k rfl v3929.out c3923
        exact OK_some trivial
set_option maxHeartbeats 2000000 in
theorem sFX7_held_5 (n : Nat) (hn : n = 2200000000) (a_lSampled : Nat → Int32) (a_lWeight : Nat → Int32) (z1 : Int32) (z2 : Int32) (k5 : Int32 → Int32 → Int32 → Int32 → Option (Int32 × Unit)) (mB5 : Nat) (hk5 : ∀ (x1 : Int32) (x2 : Int32) (x3 : Int32) (x4 : Int32), (0 ≤ (z1).toInt) → ((z1).toInt ≤ 59) → (0 ≤ (z2).toInt) → ((z2).toInt ≤ 4) → ((x1).toInt = (z1).toInt) → ((x2).toInt = (z2).toInt) → (0 ≤ (x4).toInt) → ((x4).toInt ≤ 5) → (5 - (x4).toInt).toNat < mB5 → OK (k5 x1 x2 x3 x4) (fun u => True)) (x1 : Int32) (x2 : Int32) (x3 : Int32) (x4 : Int32) (i0 : 0 ≤ (z1).toInt) (i1 : (z1).toInt ≤ 59) (i2 : 0 ≤ (z2).toInt) (i3 : (z2).toInt ≤ 4) (i4 : (x1).toInt = (z1).toInt) (i5 : (x2).toInt = (z2).toInt) (i6 : 0 ≤ (x4).toInt) (i7 : (x4).toInt ≤ 5) (hmu : (5 - (x4).toInt).toNat ≤ mB5) : OK (FX7_held_5 n a_lSampled a_lWeight z1 z2 k5 x1 x2 x3 x4) (fun u => True) := by
  unfold FX7_held_5
  refine OK_if (fun c3931 => ?_) (fun c3931 => ?_)
  · have v3932 : HQ ((5 : Int32)).toInt 5 := HQ.mk (by decide)
    have f3933 := le32k v3932.out rfl c3931
    refine OK_if (fun c3934 => ?_) (fun c3934 => ?_)
    · have v3935 : HQ ((0 : Int32)).toInt 0 := HQ.mk (by decide)
      have f3936 := eq32k rfl v3935.out c3934
      exact OK_some trivial
    · have v3937 : HQ ((0 : Int32)).toInt 0 := HQ.mk (by decide)
      have f3938 := neq32k rfl v3937.out c3934
      refine OK_ck (ckV rfl (by omega) (by omega)) ?_
      have v3939 : HQ (((5 : Int32) * x1)).toInt (5 * (x1).toInt) := HQ.mk (mulV v3932.out rfl (by omega) (by omega))
      have v3940 : HQ ((((5 : Int32) * x1) + x2)).toInt ((5 * (x1).toInt) + (x2).toInt) := HQ.mk (addV v3939.out rfl (by omega) (by omega))
      refine OK_ck (ckV v3940.out (by omega) (by omega)) ?_
      have v3941 : HQ ((x3).toInt64).toInt (x3).toInt := HQ.mk ((Int32.toInt_toInt64 _).trans rfl)
      refine OK_lt (fun x_5 e_x_5 => ?_)
      have f3942 : (x_5).toInt = (x3).toInt := by rw [e_x_5]; exact v3941.out
      refine OK_ck (neV64 rfl (by omega)) ?_
      exact OK_some trivial
  · have v3943 : HQ ((5 : Int32)).toInt 5 := HQ.mk (by decide)
    have f3944 := nle32k v3943.out rfl c3931
    have v3945 : HQ (((5 : Int32) * x1)).toInt (5 * (x1).toInt) := HQ.mk (mulV v3943.out rfl (by omega) (by omega))
    have v3946 : HQ ((((5 : Int32) * x1) + x4)).toInt ((5 * (x1).toInt) + (x4).toInt) := HQ.mk (addV v3945.out rfl (by omega) (by omega))
    refine OK_ck (ckV v3946.out (by omega) (by omega)) ?_
    refine OK_lt (fun x_8 e_x_8 => ?_)
    have v3947 : HQ ((1 : Int32)).toInt 1 := HQ.mk (by decide)
    have v3948 : HQ ((x4 + (1 : Int32))).toInt ((x4).toInt + 1) := HQ.mk (addV rfl v3947.out (by omega) (by omega))
    refine OK_lt (fun x_9 e_x_9 => ?_)
    have f3949 : (x_9).toInt = ((x4).toInt + 1) := by rw [e_x_9]; exact v3948.out
    exact hk5 x1 x2 x_8 x_9 i0 i1 i2 i3 i4 i5 (by omega) (by omega) (by omega)
theorem sFX7_held_5L (n : Nat) (hn : n = 2200000000) (a_lSampled : Nat → Int32) (a_lWeight : Nat → Int32) (z1 : Int32) (z2 : Int32) : ∀ (j : Nat) (x1 : Int32) (x2 : Int32) (x3 : Int32) (x4 : Int32), (0 ≤ (z1).toInt) → ((z1).toInt ≤ 59) → (0 ≤ (z2).toInt) → ((z2).toInt ≤ 4) → ((x1).toInt = (z1).toInt) → ((x2).toInt = (z2).toInt) → (0 ≤ (x4).toInt) → ((x4).toInt ≤ 5) → (5 - (x4).toInt).toNat < j → OK (FX7_held_5L n a_lSampled a_lWeight z1 z2 j x1 x2 x3 x4) (fun u => True) := by
  intro j
  induction j with
  | zero => intro _ _ _ _ _ _ _ _ _ _ _ _ hj; exact absurd hj (Nat.not_lt_zero _)
  | succ j ih =>
    intro x1 x2 x3 x4 i0 i1 i2 i3 i4 i5 i6 i7 hj
    exact sFX7_held_5 n hn a_lSampled a_lWeight z1 z2 (FX7_held_5L n a_lSampled a_lWeight z1 z2 j) ((5 - (x4).toInt).toNat) (fun y0 y1 y2 y3 w0 w1 w2 w3 w4 w5 w6 w7 hlt => ih y0 y1 y2 y3 w0 w1 w2 w3 w4 w5 w6 w7 (by omega)) x1 x2 x3 x4 i0 i1 i2 i3 i4 i5 i6 i7 (Nat.le_refl _)
set_option maxHeartbeats 2000000 in
theorem sX7_held (n : Nat) (hn : n = 2200000000) (a_lSampled : Nat → Int32) (a_lWeight : Nat → Int32) (z1 : Int32) (z2 : Int32) (i0 : 0 ≤ (z1).toInt) (i1 : (z1).toInt ≤ 59) (i2 : 0 ≤ (z2).toInt) (i3 : (z2).toInt ≤ 4) : OK (FX7_held n a_lSampled a_lWeight z1 z2) (fun u => True) := by
  unfold FX7_held
  have v3950 : HQ ((0 : Int32)).toInt 0 := HQ.mk (by decide)
  exact sFX7_held_5L n hn a_lSampled a_lWeight z1 z2 n z1 z2 (0 : Int32) (0 : Int32) i0 i1 i2 i3 (by omega) (by omega) (by (rw [v3950.out]) <;> omega) (by (rw [v3950.out]) <;> omega) (by (rw [v3950.out]) <;> omega)
set_option maxHeartbeats 2000000 in
theorem sFX7_broughtBy_45 (n : Nat) (hn : n = 2200000000) (v_lorries : Int32) (a_lTown : Nat → Int32) (a_isStruck : Nat → Int32) (a_lSampled : Nat → Int32) (a_lWeight : Nat → Int32) (z1 : Int32) (z2 : Int32) (k5 : Int32 → Int32 → Int32 → Int32 → Option (Int32 × Unit)) (mB5 : Nat) (hk5 : ∀ (x1 : Int32) (x2 : Int32) (x3 : Int32) (x4 : Int32), (0 ≤ (v_lorries).toInt) → ((v_lorries).toInt ≤ 60) → (0 ≤ (z2).toInt) → ((z2).toInt ≤ 4) → ((x2).toInt = (z2).toInt) → (0 ≤ (x4).toInt) → ((x4).toInt ≤ (v_lorries).toInt) → (60 - (x4).toInt).toNat < mB5 → OK (k5 x1 x2 x3 x4) (fun u => True)) (x1 : Int32) (x2 : Int32) (x3 : Int32) (x4 : Int32) (i0 : 0 ≤ (v_lorries).toInt) (i1 : (v_lorries).toInt ≤ 60) (i2 : 0 ≤ (z2).toInt) (i3 : (z2).toInt ≤ 4) (i4 : (x2).toInt = (z2).toInt) (i5 : 0 ≤ (x4).toInt) (i6 : (x4).toInt < (v_lorries).toInt) (i7 : (60 - (x4).toInt).toNat ≤ mB5) : OK (FX7_broughtBy_45 n v_lorries a_lTown a_isStruck a_lSampled a_lWeight z1 z2 k5 x1 x2 x3 x4) (fun u => True) := by
  unfold FX7_broughtBy_45
  have v3951 : HQ ((1 : Int32)).toInt 1 := HQ.mk (by decide)
  have v3952 : HQ ((x4 + (1 : Int32))).toInt ((x4).toInt + 1) := HQ.mk (addV rfl v3951.out (by omega) (by omega))
  refine OK_lt (fun x_9 e_x_9 => ?_)
  have f3953 : (x_9).toInt = ((x4).toInt + 1) := by rw [e_x_9]; exact v3952.out
  exact hk5 x1 x2 x3 x_9 i0 i1 i2 i3 i4 (by omega) (by omega) (by omega)
set_option maxHeartbeats 2000000 in
theorem sFX7_broughtBy_5 (n : Nat) (hn : n = 2200000000) (v_lorries : Int32) (a_lTown : Nat → Int32) (a_isStruck : Nat → Int32) (a_lSampled : Nat → Int32) (a_lWeight : Nat → Int32) (z1 : Int32) (z2 : Int32) (k5 : Int32 → Int32 → Int32 → Int32 → Option (Int32 × Unit)) (mB5 : Nat) (hk5 : ∀ (x1 : Int32) (x2 : Int32) (x3 : Int32) (x4 : Int32), (0 ≤ (v_lorries).toInt) → ((v_lorries).toInt ≤ 60) → (0 ≤ (z2).toInt) → ((z2).toInt ≤ 4) → ((x2).toInt = (z2).toInt) → (0 ≤ (x4).toInt) → ((x4).toInt ≤ (v_lorries).toInt) → (60 - (x4).toInt).toNat < mB5 → OK (k5 x1 x2 x3 x4) (fun u => True)) (x1 : Int32) (x2 : Int32) (x3 : Int32) (x4 : Int32) (i0 : 0 ≤ (v_lorries).toInt) (i1 : (v_lorries).toInt ≤ 60) (i2 : 0 ≤ (z2).toInt) (i3 : (z2).toInt ≤ 4) (i4 : (x2).toInt = (z2).toInt) (i5 : 0 ≤ (x4).toInt) (i6 : (x4).toInt ≤ (v_lorries).toInt) (hmu : (60 - (x4).toInt).toNat ≤ mB5) : OK (FX7_broughtBy_5 n v_lorries a_lTown a_isStruck a_lSampled a_lWeight z1 z2 k5 x1 x2 x3 x4) (fun u => True) := by
  unfold FX7_broughtBy_5
  refine OK_if (fun c3954 => ?_) (fun c3954 => ?_)
  · have f3955 := le32k rfl rfl c3954
    exact OK_some trivial
  · have f3956 := nle32k rfl rfl c3954
    refine OK_ck (ckV rfl (by omega) (by omega)) ?_
    refine OK_if (fun c3957 => ?_) (fun c3957 => ?_)
    · obtain ⟨m3958, v3959, f3960⟩ := tnV (e := x4) rfl (by omega)
      have v3961 : HQ ((a_lTown ((x4).toNatClampNeg))).toInt (a_lTown m3958).toInt := HQ.mk (by rw [v3959.out])
      have f3962 := eq32k v3961.out rfl c3957
      refine OK_ck (ckV rfl (by omega) (by omega)) ?_
      refine OK_if (fun c3963 => ?_) (fun c3963 => ?_)
      · have v3964 : HQ ((a_isStruck ((x4).toNatClampNeg))).toInt (a_isStruck m3958).toInt := HQ.mk (by rw [v3959.out])
        have v3965 : HQ ((0 : Int32)).toInt 0 := HQ.mk (by decide)
        have f3966 := eq32k v3964.out v3965.out c3963
        refine OK_bd (sX7_held n hn a_lSampled a_lWeight x4 x2 i5 (by omega) (by omega) (by omega)) (fun u_7 p_u_7 => ?_)
        refine OK_lt (fun x_8 e_x_8 => ?_)
        exact sFX7_broughtBy_45 n hn v_lorries a_lTown a_isStruck a_lSampled a_lWeight z1 z2 k5 mB5 hk5 x1 x2 x_8 x4 i0 i1 i2 i3 i4 i5 (by omega) (by omega)
      · have v3967 : HQ ((a_isStruck ((x4).toNatClampNeg))).toInt (a_isStruck m3958).toInt := HQ.mk (by rw [v3959.out])
        have v3968 : HQ ((0 : Int32)).toInt 0 := HQ.mk (by decide)
        have f3969 := neq32k v3967.out v3968.out c3963
        exact sFX7_broughtBy_45 n hn v_lorries a_lTown a_isStruck a_lSampled a_lWeight z1 z2 k5 mB5 hk5 x1 x2 x3 x4 i0 i1 i2 i3 i4 i5 (by omega) (by omega)
    · obtain ⟨m3970, v3971, f3972⟩ := tnV (e := x4) rfl (by omega)
      have v3973 : HQ ((a_lTown ((x4).toNatClampNeg))).toInt (a_lTown m3970).toInt := HQ.mk (by rw [v3971.out])
      have f3974 := neq32k v3973.out rfl c3957
      exact sFX7_broughtBy_45 n hn v_lorries a_lTown a_isStruck a_lSampled a_lWeight z1 z2 k5 mB5 hk5 x1 x2 x3 x4 i0 i1 i2 i3 i4 i5 (by omega) (by omega)
theorem sFX7_broughtBy_5L (n : Nat) (hn : n = 2200000000) (v_lorries : Int32) (a_lTown : Nat → Int32) (a_isStruck : Nat → Int32) (a_lSampled : Nat → Int32) (a_lWeight : Nat → Int32) (z1 : Int32) (z2 : Int32) : ∀ (j : Nat) (x1 : Int32) (x2 : Int32) (x3 : Int32) (x4 : Int32), (0 ≤ (v_lorries).toInt) → ((v_lorries).toInt ≤ 60) → (0 ≤ (z2).toInt) → ((z2).toInt ≤ 4) → ((x2).toInt = (z2).toInt) → (0 ≤ (x4).toInt) → ((x4).toInt ≤ (v_lorries).toInt) → (60 - (x4).toInt).toNat < j → OK (FX7_broughtBy_5L n v_lorries a_lTown a_isStruck a_lSampled a_lWeight z1 z2 j x1 x2 x3 x4) (fun u => True) := by
  intro j
  induction j with
  | zero => intro _ _ _ _ _ _ _ _ _ _ _ hj; exact absurd hj (Nat.not_lt_zero _)
  | succ j ih =>
    intro x1 x2 x3 x4 i0 i1 i2 i3 i4 i5 i6 hj
    exact sFX7_broughtBy_5 n hn v_lorries a_lTown a_isStruck a_lSampled a_lWeight z1 z2 (FX7_broughtBy_5L n v_lorries a_lTown a_isStruck a_lSampled a_lWeight z1 z2 j) ((60 - (x4).toInt).toNat) (fun y0 y1 y2 y3 w0 w1 w2 w3 w4 w5 w6 hlt => ih y0 y1 y2 y3 w0 w1 w2 w3 w4 w5 w6 (by omega)) x1 x2 x3 x4 i0 i1 i2 i3 i4 i5 i6 (Nat.le_refl _)
set_option maxHeartbeats 2000000 in
theorem sX7_broughtBy (n : Nat) (hn : n = 2200000000) (v_lorries : Int32) (a_lTown : Nat → Int32) (a_isStruck : Nat → Int32) (a_lSampled : Nat → Int32) (a_lWeight : Nat → Int32) (z1 : Int32) (z2 : Int32) (i0 : 0 ≤ (v_lorries).toInt) (i1 : (v_lorries).toInt ≤ 60) (i2 : 0 ≤ (z2).toInt) (i3 : (z2).toInt ≤ 4) : OK (FX7_broughtBy n v_lorries a_lTown a_isStruck a_lSampled a_lWeight z1 z2) (fun u => True) := by
  unfold FX7_broughtBy
  have v3975 : HQ ((0 : Int32)).toInt 0 := HQ.mk (by decide)
  exact sFX7_broughtBy_5L n hn v_lorries a_lTown a_isStruck a_lSampled a_lWeight z1 z2 n z1 z2 (0 : Int32) (0 : Int32) i0 i1 i2 i3 (by omega) (by (rw [v3975.out]) <;> omega) (by (rw [v3975.out]) <;> omega) (by (rw [v3975.out]) <;> omega)
