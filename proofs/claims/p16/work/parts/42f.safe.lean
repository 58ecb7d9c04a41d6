set_option maxHeartbeats 2000000 in
theorem sFX0_findMinors_15 (n : Nat) (hn : n = 3000) (a_rows : Nat → Int32) (z1 : Int32) (k15 : (Nat → Int64) → Int32 → Int32 → Int32 → Option (Unit × (Nat → Int64))) (mB15 : Nat) (hk15 : ∀ (a_minors : Nat → Int64) (x1 : Int32) (x2 : Int32) (x3 : Int32), (1 ≤ (z1).toInt) → ((z1).toInt ≤ 5) → (1 ≤ (x1).toInt) → ((x1).toInt ≤ 5) → ((x2).toInt ≤ 31) → (1 ≤ (x3).toInt) → ((x3).toInt ≤ 31) → (31 - (x3).toInt).toNat < mB15 → OK (k15 a_minors x1 x2 x3) (fun u => True)) (a_minors : Nat → Int64) (x1 : Int32) (x2 : Int32) (x3 : Int32) (i0 : 1 ≤ (z1).toInt) (i1 : (z1).toInt ≤ 5) (i2 : 1 ≤ (x1).toInt) (i3 : (x1).toInt ≤ 5) (i4 : (x2).toInt ≤ 31) (i5 : 1 ≤ (x3).toInt) (i6 : (x3).toInt ≤ 31) (hmu : (31 - (x3).toInt).toNat ≤ mB15) : OK (FX0_findMinors_15 n a_rows z1 k15 a_minors x1 x2 x3) (fun u => True) := by
  unfold FX0_findMinors_15
  refine OK_if (fun c351 => ?_) (fun c351 => ?_)
  · have f352 := le32k rfl rfl c351
    exact OK_some trivial
  · have f353 := nle32k rfl rfl c351
    refine OK_bd (sJ6_bitCount_0f7a4 n hn x3 (by omega) (by omega)) (fun u_6 p_u_6 => ?_)
    obtain ⟨p354, p355⟩ := p_u_6
    refine OK_bd (sX0_minorOf n hn a_rows a_minors x3 u_6.1 x1 (by omega) i6 p354 p355 (by omega) i3) (fun u_8 p_u_8 => ?_)
    refine OK_ck (ckV rfl (by omega) (by omega)) ?_
    refine OK_lt (fun f_10 e_f_10 => ?_)
    have v356 : HQ ((1 : Int32)).toInt 1 := HQ.mk (by decide)
    have v357 : HQ ((x3 + (1 : Int32))).toInt ((x3).toInt + 1) := HQ.mk (addV rfl v356.out (by omega) (by omega))
    refine OK_lt (fun x_11 e_x_11 => ?_)
    have f358 : (x_11).toInt = ((x3).toInt + 1) := by rw [e_x_11]; exact v357.out
    exact hk15 f_10 x1 x2 x_11 i0 i1 i2 i3 i4 (by omega) (by omega) (by omega)
theorem sFX0_findMinors_15L (n : Nat) (hn : n = 3000) (a_rows : Nat → Int32) (z1 : Int32) : ∀ (j : Nat) (a_minors : Nat → Int64) (x1 : Int32) (x2 : Int32) (x3 : Int32), (1 ≤ (z1).toInt) → ((z1).toInt ≤ 5) → (1 ≤ (x1).toInt) → ((x1).toInt ≤ 5) → ((x2).toInt ≤ 31) → (1 ≤ (x3).toInt) → ((x3).toInt ≤ 31) → (31 - (x3).toInt).toNat < j → OK (FX0_findMinors_15L n a_rows z1 j a_minors x1 x2 x3) (fun u => True) := by
  intro j
  induction j with
  | zero => intro _ _ _ _ _ _ _ _ _ _ _ hj; exact absurd hj (Nat.not_lt_zero _)
  | succ j ih =>
    intro a_minors x1 x2 x3 i0 i1 i2 i3 i4 i5 i6 hj
    exact sFX0_findMinors_15 n hn a_rows z1 (FX0_findMinors_15L n a_rows z1 j) ((31 - (x3).toInt).toNat) (fun y0 y1 y2 y3 w0 w1 w2 w3 w4 w5 w6 hlt => ih y0 y1 y2 y3 w0 w1 w2 w3 w4 w5 w6 (by omega)) a_minors x1 x2 x3 i0 i1 i2 i3 i4 i5 i6 (Nat.le_refl _)
set_option maxHeartbeats 2000000 in
theorem sX0_findMinors (n : Nat) (hn : n = 3000) (a_minors : Nat → Int64) (a_rows : Nat → Int32) (z1 : Int32) (i0 : 1 ≤ (z1).toInt) (i1 : (z1).toInt ≤ 5) : OK (FX0_findMinors n a_minors a_rows z1) (fun u => True) := by
  unfold FX0_findMinors
  obtain ⟨y359, v360, f361, f362⟩ := shlV z1 (by omega) (by omega)
  have v363 : HQ ((1 : Int32)).toInt 1 := HQ.mk (by decide)
  have v364 : HQ ((((1 : Int32) <<< (z1 &&& 31)) - (1 : Int32))).toInt (y359 - 1) := HQ.mk (subV v360.out v363.out (by omega) (by omega))
  refine OK_lt (fun x_1 e_x_1 => ?_)
  have f365 : (x_1).toInt = (y359 - 1) := by rw [e_x_1]; exact v364.out
  have v366 : HQ ((0 : Int32)).toInt 0 := HQ.mk (by decide)
  refine OK_ck (ckV v366.out (by omega) (by omega)) ?_
  refine OK_lt (fun f_3 e_f_3 => ?_)
  exact sFX0_findMinors_15L n hn a_rows z1 n f_3 z1 x_1 (1 : Int32) i0 i1 i0 i1 (by omega) (by rw [v363.out]; omega) (by rw [v363.out]; omega) (by omega)
set_option maxHeartbeats 2000000 in
theorem sX0_cofactor (n : Nat) (hn : n = 3000) (a_minors : Nat → Int64) (z1 : Int32) (z2 : Int32) (i0 : 0 ≤ (z1).toInt) (i1 : (z1).toInt < (z2).toInt) (i2 : (z2).toInt ≤ 5) : OK (FX0_cofactor n a_minors z1 z2) (fun u => True) := by
  unfold FX0_cofactor
  obtain ⟨y367, v368, f369, f370⟩ := cofV z2 z1 (by omega) (by omega) (by omega)
  refine OK_ck (ckV v368.out (by omega) (by omega)) ?_
  refine OK_lt (fun x_2 e_x_2 => ?_)
  refine OK_ck (by decide) ?_
  refine OK_if (fun c371 => ?_) (fun c371 => ?_)
  · obtain ⟨y372, v373⟩ := HQ.any ((z1 - ((z1 / (2 : Int32)) * (2 : Int32)))).toInt
    have v374 : HQ ((0 : Int32)).toInt 0 := HQ.mk (by decide)
    have f375 := eq32k v373.out v374.out c371
    exact OK_some trivial
  · obtain ⟨y376, v377⟩ := HQ.any ((z1 - ((z1 / (2 : Int32)) * (2 : Int32)))).toInt
    have v378 : HQ ((0 : Int32)).toInt 0 := HQ.mk (by decide)
    have f379 := neq32k v377.out v378.out c371
    exact OK_some trivial
