set_option maxHeartbeats 2000000 in
theorem sX1_put (n : Nat) (hn : n = 2200000000) (a_held : Nat → Int32) (a_totals : Nat → Int32) (z1 : Int32) (z2 : Int32) (z3 : Int32) (i0 : 0 ≤ (z1).toInt) (i1 : (z1).toInt ≤ 4) (i2 : 0 ≤ (z2).toInt) (i3 : (z2).toInt ≤ 4) : OK (FX1_put n a_held a_totals z1 z2 z3) (fun u => True) := by
  unfold FX1_put
  have v448 : HQ ((5 : Int32)).toInt 5 := HQ.mk (by decide)
  have v449 : HQ ((z1 * (5 : Int32))).toInt ((z1).toInt * 5) := HQ.mk (mulV rfl v448.out (by omega) (by omega))
  have v450 : HQ (((z1 * (5 : Int32)) + z2)).toInt (((z1).toInt * 5) + (z2).toInt) := HQ.mk (addV v449.out rfl (by omega) (by omega))
  refine OK_ck (ckV v450.out (by omega) (by omega)) ?_
  obtain ⟨m451, v452, f453⟩ := tnV (e := ((z1 * (5 : Int32)) + z2)) v450.out (by omega)
  refine OK_lt (fun f_2 e_f_2 => ?_)
  rw [v452.out] at e_f_2
  refine OK_ck (ckV rfl (by omega) (by omega)) ?_
  refine OK_lt (fun x_4 e_x_4 => ?_)
  refine OK_ck (ckV rfl (by omega) (by omega)) ?_
  obtain ⟨m454, v455, f456⟩ := tnV (e := z1) rfl (by omega)
  refine OK_lt (fun f_6 e_f_6 => ?_)
  rw [v455.out] at e_f_6
  exact OK_some trivial
set_option maxHeartbeats 2000000 in
theorem sFX1_split_61 (n : Nat) (hn : n = 2200000000) (v_p2_wholeOfAll : Int64) (a_p2_parts : Nat → Int64) (z1 : Int32) (z2 : Int32) (a_held : Nat → Int32) (a_totals : Nat → Int32) (x1 : Int32) (x4 : Int32) (i0 : 0 ≤ (z1).toInt) (i1 : (z1).toInt ≤ 4) (i2 : 0 ≤ (x1).toInt) (i3 : (x1).toInt ≤ 4) : OK (FX1_split_61 n v_p2_wholeOfAll a_p2_parts z1 z2 a_held a_totals x1 x4) (fun u => True) := by
  unfold FX1_split_61
  have v457 : HQ ((4 : Int32)).toInt 4 := HQ.mk (by decide)
  refine OK_bd (sX1_put n hn a_held a_totals (4 : Int32) x1 x4 (by (rw [v457.out]) <;> omega) (by (rw [v457.out]) <;> omega) i2 i3) (fun u_11 p_u_11 => ?_)
  exact OK_some trivial
set_option maxHeartbeats 2000000 in
theorem sFX1_split_6 (n : Nat) (hn : n = 2200000000) (v_p2_wholeOfAll : Int64) (a_p2_parts : Nat → Int64) (z1 : Int32) (z2 : Int32) (k6 : (Nat → Int32) → (Nat → Int32) → Int32 → Int32 → Int32 → Int32 → Option (Unit × (Nat → Int32) × (Nat → Int32))) (mB6 : Nat) (hk6 : ∀ (a_held : Nat → Int32) (a_totals : Nat → Int32) (x1 : Int32) (x2 : Int32) (x4 : Int32) (x5 : Int32), (0 ≤ (z1).toInt) → ((z1).toInt ≤ 4) → (0 ≤ (x1).toInt) → ((x1).toInt ≤ 4) → (0 ≤ (x5).toInt) → ((x5).toInt ≤ 4) → (4 - (x5).toInt).toNat < mB6 → OK (k6 a_held a_totals x1 x2 x4 x5) (fun u => True)) (a_held : Nat → Int32) (a_totals : Nat → Int32) (x1 : Int32) (x2 : Int32) (x4 : Int32) (x5 : Int32) (i0 : 0 ≤ (z1).toInt) (i1 : (z1).toInt ≤ 4) (i2 : 0 ≤ (x1).toInt) (i3 : (x1).toInt ≤ 4) (i4 : 0 ≤ (x5).toInt) (i5 : (x5).toInt ≤ 4) (hmu : (4 - (x5).toInt).toNat ≤ mB6) : OK (FX1_split_6 n v_p2_wholeOfAll a_p2_parts z1 z2 k6 a_held a_totals x1 x2 x4 x5) (fun u => True) := by
  unfold FX1_split_6
  refine OK_if (fun c458 => ?_) (fun c458 => ?_)
  · have v459 : HQ ((4 : Int32)).toInt 4 := HQ.mk (by decide)
    have f460 := le32k v459.out rfl c458
    exact sFX1_split_61 n hn v_p2_wholeOfAll a_p2_parts z1 z2 a_held a_totals x1 x4 i0 i1 i2 i3
  · have v461 : HQ ((4 : Int32)).toInt 4 := HQ.mk (by decide)
    have f462 := nle32k v461.out rfl c458
    refine OK_if (fun c463 => ?_) (fun c463 => ?_)
    · have v464 : HQ ((0 : Int64)).toInt 0 := HQ.mk (by decide)
      obtain ⟨y465, v466, f467⟩ := lgV (a := v_p2_wholeOfAll) (b := (0 : Int64)) rfl v464.out
      have v468 : HQ ((0 : Int32)).toInt 0 := HQ.mk (by decide)
      have f469 := le32k v466.out v468.out c463
      exact sFX1_split_61 n hn v_p2_wholeOfAll a_p2_parts z1 z2 a_held a_totals x1 x4 i0 i1 i2 i3
    · have v470 : HQ ((0 : Int64)).toInt 0 := HQ.mk (by decide)
      obtain ⟨y471, v472, f473⟩ := lgV (a := v_p2_wholeOfAll) (b := (0 : Int64)) rfl v470.out
      have v474 : HQ ((0 : Int32)).toInt 0 := HQ.mk (by decide)
      have f475 := nle32k v472.out v474.out c463
      refine OK_ck (ckV rfl (by omega) (by omega)) ?_
      refine OK_ck (neV64 rfl (by omega)) ?_
      obtain ⟨y476, v477⟩ := HQ.any (((((x2).toInt64 * (a_p2_parts ((x5).toNatClampNeg))) / v_p2_wholeOfAll)).toInt32).toInt
      refine OK_lt (fun x_5 e_x_5 => ?_)
      have f478 : (x_5).toInt = y476 := by rw [e_x_5]; exact v477.out
      refine OK_bd (sX1_put n hn a_held a_totals x5 x1 x_5 i4 i5 i2 i3) (fun u_7 p_u_7 => ?_)
      refine OK_lt (fun x_8 e_x_8 => ?_)
      have v479 : HQ ((1 : Int32)).toInt 1 := HQ.mk (by decide)
      have v480 : HQ ((x5 + (1 : Int32))).toInt ((x5).toInt + 1) := HQ.mk (addV rfl v479.out (by omega) (by omega))
      refine OK_lt (fun x_9 e_x_9 => ?_)
      have f481 : (x_9).toInt = ((x5).toInt + 1) := by rw [e_x_9]; exact v480.out
      exact hk6 u_7.2.1 u_7.2.2 x1 x2 x_8 x_9 i0 i1 i2 i3 (by omega) (by omega) (by omega)
theorem sFX1_split_6L (n : Nat) (hn : n = 2200000000) (v_p2_wholeOfAll : Int64) (a_p2_parts : Nat → Int64) (z1 : Int32) (z2 : Int32) : ∀ (j : Nat) (a_held : Nat → Int32) (a_totals : Nat → Int32) (x1 : Int32) (x2 : Int32) (x4 : Int32) (x5 : Int32), (0 ≤ (z1).toInt) → ((z1).toInt ≤ 4) → (0 ≤ (x1).toInt) → ((x1).toInt ≤ 4) → (0 ≤ (x5).toInt) → ((x5).toInt ≤ 4) → (4 - (x5).toInt).toNat < j → OK (FX1_split_6L n v_p2_wholeOfAll a_p2_parts z1 z2 j a_held a_totals x1 x2 x4 x5) (fun u => True) := by
  intro j
  induction j with
  | zero => intro _ _ _ _ _ _ _ _ _ _ _ _ hj; exact absurd hj (Nat.not_lt_zero _)
  | succ j ih =>
    intro a_held a_totals x1 x2 x4 x5 i0 i1 i2 i3 i4 i5 hj
    exact sFX1_split_6 n hn v_p2_wholeOfAll a_p2_parts z1 z2 (FX1_split_6L n v_p2_wholeOfAll a_p2_parts z1 z2 j) ((4 - (x5).toInt).toNat) (fun y0 y1 y2 y3 y4 y5 w0 w1 w2 w3 w4 w5 hlt => ih y0 y1 y2 y3 y4 y5 w0 w1 w2 w3 w4 w5 (by omega)) a_held a_totals x1 x2 x4 x5 i0 i1 i2 i3 i4 i5 (Nat.le_refl _)
set_option maxHeartbeats 2000000 in
theorem sX1_split (n : Nat) (hn : n = 2200000000) (v_p2_wholeOfAll : Int64) (a_p2_parts : Nat → Int64) (a_held : Nat → Int32) (a_totals : Nat → Int32) (z1 : Int32) (z2 : Int32) (i0 : 0 ≤ (z1).toInt) (i1 : (z1).toInt ≤ 4) : OK (FX1_split n v_p2_wholeOfAll a_p2_parts a_held a_totals z1 z2) (fun u => True) := by
  unfold FX1_split
  have v482 : HQ ((0 : Int32)).toInt 0 := HQ.mk (by decide)
  exact sFX1_split_6L n hn v_p2_wholeOfAll a_p2_parts z1 z2 n a_held a_totals z1 z2 z2 (0 : Int32) i0 i1 i0 i1 (by (rw [v482.out]) <;> omega) (by (rw [v482.out]) <;> omega) (by (rw [v482.out]) <;> omega)
