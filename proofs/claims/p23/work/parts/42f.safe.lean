set_option maxHeartbeats 2000000 in
theorem sFX0_findMinors_15 (n : Nat) (hn : n = 2200000000) (a_rows : Nat → Int32) (z1 : Int32) (k15 : (Nat → Int64) → Int32 → Int32 → Int32 → Option (Unit × (Nat → Int64))) (mB15 : Nat) (hk15 : ∀ (a_minors : Nat → Int64) (x1 : Int32) (x2 : Int32) (x3 : Int32), (1 ≤ (z1).toInt) → ((z1).toInt ≤ 5) → (1 ≤ (x1).toInt) → ((x1).toInt ≤ 5) → ((x2).toInt ≤ 31) → (1 ≤ (x3).toInt) → ((x3).toInt ≤ 31) → (31 - (x3).toInt).toNat < mB15 → OK (k15 a_minors x1 x2 x3) (fun u => True)) (a_minors : Nat → Int64) (x1 : Int32) (x2 : Int32) (x3 : Int32) (i0 : 1 ≤ (z1).toInt) (i1 : (z1).toInt ≤ 5) (i2 : 1 ≤ (x1).toInt) (i3 : (x1).toInt ≤ 5) (i4 : (x2).toInt ≤ 31) (i5 : 1 ≤ (x3).toInt) (i6 : (x3).toInt ≤ 31) (hmu : (31 - (x3).toInt).toNat ≤ mB15) : OK (FX0_findMinors_15 n a_rows z1 k15 a_minors x1 x2 x3) (fun u => True) := by
  unfold FX0_findMinors_15
  refine OK_if (fun c357 => ?_) (fun c357 => ?_)
  · have f358 := le32k rfl rfl c357
    exact OK_some trivial
  · have f359 := nle32k rfl rfl c357
    refine OK_bd (sJ6_bitCount_0f7a4 n hn x3 (by omega) (by omega)) (fun u_6 p_u_6 => ?_)
    obtain ⟨p360, p361⟩ := p_u_6
    refine OK_bd (sX0_minorOf n hn a_rows a_minors x3 u_6.1 x1 (by omega) i6 p360 p361 (by omega) i3) (fun u_8 p_u_8 => ?_)
    refine OK_ck (ckV rfl (by omega) (by omega)) ?_
    obtain ⟨m362, v363, f364⟩ := tnV (e := x3) rfl (by omega)
    refine OK_lt (fun f_10 e_f_10 => ?_)
    rw [v363.out] at e_f_10
    have v365 : HQ ((1 : Int32)).toInt 1 := HQ.mk (by decide)
    have v366 : HQ ((x3 + (1 : Int32))).toInt ((x3).toInt + 1) := HQ.mk (addV rfl v365.out (by omega) (by omega))
    refine OK_lt (fun x_11 e_x_11 => ?_)
    have f367 : (x_11).toInt = ((x3).toInt + 1) := by rw [e_x_11]; exact v366.out
    exact hk15 f_10 x1 x2 x_11 i0 i1 i2 i3 i4 (by omega) (by omega) (by omega)
theorem sFX0_findMinors_15L (n : Nat) (hn : n = 2200000000) (a_rows : Nat → Int32) (z1 : Int32) : ∀ (j : Nat) (a_minors : Nat → Int64) (x1 : Int32) (x2 : Int32) (x3 : Int32), (1 ≤ (z1).toInt) → ((z1).toInt ≤ 5) → (1 ≤ (x1).toInt) → ((x1).toInt ≤ 5) → ((x2).toInt ≤ 31) → (1 ≤ (x3).toInt) → ((x3).toInt ≤ 31) → (31 - (x3).toInt).toNat < j → OK (FX0_findMinors_15L n a_rows z1 j a_minors x1 x2 x3) (fun u => True) := by
  intro j
  induction j with
  | zero => intro _ _ _ _ _ _ _ _ _ _ _ hj; exact absurd hj (Nat.not_lt_zero _)
  | succ j ih =>
    intro a_minors x1 x2 x3 i0 i1 i2 i3 i4 i5 i6 hj
    exact sFX0_findMinors_15 n hn a_rows z1 (FX0_findMinors_15L n a_rows z1 j) ((31 - (x3).toInt).toNat) (fun y0 y1 y2 y3 w0 w1 w2 w3 w4 w5 w6 hlt => ih y0 y1 y2 y3 w0 w1 w2 w3 w4 w5 w6 (by omega)) a_minors x1 x2 x3 i0 i1 i2 i3 i4 i5 i6 (Nat.le_refl _)
set_option maxHeartbeats 2000000 in
theorem sX0_findMinors (n : Nat) (hn : n = 2200000000) (a_minors : Nat → Int64) (a_rows : Nat → Int32) (z1 : Int32) (i0 : 1 ≤ (z1).toInt) (i1 : (z1).toInt ≤ 5) : OK (FX0_findMinors n a_minors a_rows z1) (fun u => True) := by
  unfold FX0_findMinors
  obtain ⟨y368, v369, f370, f371⟩ := shlV z1 (by omega) (by omega)
  have v372 : HQ ((1 : Int32)).toInt 1 := HQ.mk (by decide)
  have v373 : HQ ((((1 : Int32) <<< (z1 &&& 31)) - (1 : Int32))).toInt (y368 - 1) := HQ.mk (subV v369.out v372.out (by omega) (by omega))
  refine OK_lt (fun x_1 e_x_1 => ?_)
  have f374 : (x_1).toInt = (y368 - 1) := by rw [e_x_1]; exact v373.out
  have v375 : HQ ((0 : Int32)).toInt 0 := HQ.mk (by decide)
  refine OK_ck (ckV v375.out (by omega) (by omega)) ?_
  obtain ⟨m376, v377, f378⟩ := tnV (e := (0 : Int32)) v375.out (by omega)
  refine OK_lt (fun f_3 e_f_3 => ?_)
  rw [v377.out] at e_f_3
  exact sFX0_findMinors_15L n hn a_rows z1 n f_3 z1 x_1 (1 : Int32) i0 i1 i0 i1 (by omega) (by (rw [v372.out]) <;> omega) (by (rw [v372.out]) <;> omega) (by (rw [v372.out]) <;> omega)
set_option maxHeartbeats 2000000 in
theorem sX0_cofactor (n : Nat) (hn : n = 2200000000) (a_minors : Nat → Int64) (z1 : Int32) (z2 : Int32) (i0 : 0 ≤ (z1).toInt) (i1 : (z1).toInt < (z2).toInt) (i2 : (z2).toInt ≤ 5) : OK (FX0_cofactor n a_minors z1 z2) (fun u => True) := by
  unfold FX0_cofactor
  obtain ⟨y379, v380, f381, f382⟩ := cofV z2 z1 (by omega) (by omega) (by omega)
  refine OK_ck (ckV v380.out (by omega) (by omega)) ?_
  obtain ⟨m383, v384, f385⟩ := tnV (e := ((((1 : Int32) <<< (z2 &&& 31)) - (1 : Int32)) - ((1 : Int32) <<< (z1 &&& 31)))) v380.out (by omega)
  have v386 : HQ ((a_minors ((((((1 : Int32) <<< (z2 &&& 31)) - (1 : Int32)) - ((1 : Int32) <<< (z1 &&& 31)))).toNatClampNeg))).toInt (a_minors m383).toInt := HQ.mk (by rw [v384.out])
  refine OK_lt (fun x_2 e_x_2 => ?_)
  have f387 : (x_2).toInt = (a_minors m383).toInt := by rw [e_x_2]; exact v386.out
  refine OK_ck (by decide) ?_
  refine OK_if (fun c388 => ?_) (fun c388 => ?_)
  · obtain ⟨y389, v390⟩ := HQ.any ((z1 - ((z1 / (2 : Int32)) * (2 : Int32)))).toInt
    have v391 : HQ ((0 : Int32)).toInt 0 := HQ.mk (by decide)
    have f392 := eq32k v390.out v391.out c388
    exact OK_some trivial
  · obtain ⟨y393, v394⟩ := HQ.any ((z1 - ((z1 / (2 : Int32)) * (2 : Int32)))).toInt
    have v395 : HQ ((0 : Int32)).toInt 0 := HQ.mk (by decide)
    have f396 := neq32k v394.out v395.out c388
    exact OK_some trivial
