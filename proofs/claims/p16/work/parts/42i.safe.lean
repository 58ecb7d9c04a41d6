set_option maxHeartbeats 2000000 in
theorem sFX1_sort_53 (n : Nat) (hn : n = 3000) (v_p0_units : Int32) (a_p1 : Nat → Int32) (a_p2 : Nat → Int32) (a_p0_percents : Nat → Int32) (a_p0_yesLeads : Nat → Int32) (a_p0_noLeads : Nat → Int32) (k19 : Int64 → (Nat → Int32) → (Nat → Int32) → (Nat → Int64) → (Nat → Int32) → (Nat → Int32) → (Nat → Int64) → Int32 → Option (Unit × Int64 × (Nat → Int32) × (Nat → Int32) × (Nat → Int64) × (Nat → Int32) × (Nat → Int32) × (Nat → Int64))) (mB19 : Nat) (hk19 : ∀ (v_p3_wholeOfAll : Int64) (a_held : Nat → Int32) (a_totals : Nat → Int32) (a_p3_parts : Nat → Int64) (a_p3_rows : Nat → Int32) (a_p3_outs : Nat → Int32) (a_p3_minors : Nat → Int64) (x5 : Int32), (0 ≤ (v_p0_units).toInt) → ((v_p0_units).toInt ≤ 5) → (∀ i : Nat, ((i : Int) < (v_p0_units).toInt) → ((0 ≤ (a_p0_yesLeads i).toInt ∧ (a_p0_yesLeads i).toInt ≤ 4) ∨ (10 ≤ (a_p0_yesLeads i).toInt ∧ (a_p0_yesLeads i).toInt ≤ 13) ∨ (a_p0_yesLeads i).toInt = 20)) → (∀ i : Nat, ((i : Int) < (v_p0_units).toInt) → ((0 ≤ (a_p0_noLeads i).toInt ∧ (a_p0_noLeads i).toInt ≤ 4) ∨ (10 ≤ (a_p0_noLeads i).toInt ∧ (a_p0_noLeads i).toInt ≤ 13) ∨ (a_p0_noLeads i).toInt = 20)) → (∀ i : Nat, (i < 5) → (0 ≤ (a_p1 i).toInt ∧ (a_p1 i).toInt ≤ 2)) → (0 ≤ (x5).toInt) → ((x5).toInt ≤ 5) → (5 - (x5).toInt).toNat < mB19 → OK (k19 v_p3_wholeOfAll a_held a_totals a_p3_parts a_p3_rows a_p3_outs a_p3_minors x5) (fun u => True)) (v_p3_wholeOfAll : Int64) (a_held : Nat → Int32) (a_totals : Nat → Int32) (a_p3_parts : Nat → Int64) (a_p3_rows : Nat → Int32) (a_p3_outs : Nat → Int32) (a_p3_minors : Nat → Int64) (x5 : Int32) (i0 : 0 ≤ (v_p0_units).toInt) (i1 : (v_p0_units).toInt ≤ 5) (i2 : ∀ i : Nat, ((i : Int) < (v_p0_units).toInt) → ((0 ≤ (a_p0_yesLeads i).toInt ∧ (a_p0_yesLeads i).toInt ≤ 4) ∨ (10 ≤ (a_p0_yesLeads i).toInt ∧ (a_p0_yesLeads i).toInt ≤ 13) ∨ (a_p0_yesLeads i).toInt = 20)) (i3 : ∀ i : Nat, ((i : Int) < (v_p0_units).toInt) → ((0 ≤ (a_p0_noLeads i).toInt ∧ (a_p0_noLeads i).toInt ≤ 4) ∨ (10 ≤ (a_p0_noLeads i).toInt ∧ (a_p0_noLeads i).toInt ≤ 13) ∨ (a_p0_noLeads i).toInt = 20)) (i4 : ∀ i : Nat, (i < 5) → (0 ≤ (a_p1 i).toInt ∧ (a_p1 i).toInt ≤ 2)) (i5 : 0 ≤ (x5).toInt) (i6 : (x5).toInt ≤ 4) (i7 : (5 - (x5).toInt).toNat ≤ mB19) : OK (FX1_sort_53 n v_p0_units a_p1 a_p2 a_p0_percents a_p0_yesLeads a_p0_noLeads k19 v_p3_wholeOfAll a_held a_totals a_p3_parts a_p3_rows a_p3_outs a_p3_minors x5) (fun u => True) := by
  unfold FX1_sort_53
  have v457 : HQ ((1 : Int32)).toInt 1 := HQ.mk (by decide)
  have v458 : HQ ((x5 + (1 : Int32))).toInt ((x5).toInt + 1) := HQ.mk (addV rfl v457.out (by omega) (by omega))
  refine OK_lt (fun x_13 e_x_13 => ?_)
  have f459 : (x_13).toInt = ((x5).toInt + 1) := by rw [e_x_13]; exact v458.out
  exact hk19 v_p3_wholeOfAll a_held a_totals a_p3_parts a_p3_rows a_p3_outs a_p3_minors x_13 i0 i1 i2 i3 i4 (by omega) (by omega) (by omega)
set_option maxHeartbeats 2000000 in
theorem sFX1_sort_19 (n : Nat) (hn : n = 3000) (v_p0_units : Int32) (a_p1 : Nat → Int32) (a_p2 : Nat → Int32) (a_p0_percents : Nat → Int32) (a_p0_yesLeads : Nat → Int32) (a_p0_noLeads : Nat → Int32) (k19 : Int64 → (Nat → Int32) → (Nat → Int32) → (Nat → Int64) → (Nat → Int32) → (Nat → Int32) → (Nat → Int64) → Int32 → Option (Unit × Int64 × (Nat → Int32) × (Nat → Int32) × (Nat → Int64) × (Nat → Int32) × (Nat → Int32) × (Nat → Int64))) (mB19 : Nat) (hk19 : ∀ (v_p3_wholeOfAll : Int64) (a_held : Nat → Int32) (a_totals : Nat → Int32) (a_p3_parts : Nat → Int64) (a_p3_rows : Nat → Int32) (a_p3_outs : Nat → Int32) (a_p3_minors : Nat → Int64) (x5 : Int32), (0 ≤ (v_p0_units).toInt) → ((v_p0_units).toInt ≤ 5) → (∀ i : Nat, ((i : Int) < (v_p0_units).toInt) → ((0 ≤ (a_p0_yesLeads i).toInt ∧ (a_p0_yesLeads i).toInt ≤ 4) ∨ (10 ≤ (a_p0_yesLeads i).toInt ∧ (a_p0_yesLeads i).toInt ≤ 13) ∨ (a_p0_yesLeads i).toInt = 20)) → (∀ i : Nat, ((i : Int) < (v_p0_units).toInt) → ((0 ≤ (a_p0_noLeads i).toInt ∧ (a_p0_noLeads i).toInt ≤ 4) ∨ (10 ≤ (a_p0_noLeads i).toInt ∧ (a_p0_noLeads i).toInt ≤ 13) ∨ (a_p0_noLeads i).toInt = 20)) → (∀ i : Nat, (i < 5) → (0 ≤ (a_p1 i).toInt ∧ (a_p1 i).toInt ≤ 2)) → (0 ≤ (x5).toInt) → ((x5).toInt ≤ 5) → (5 - (x5).toInt).toNat < mB19 → OK (k19 v_p3_wholeOfAll a_held a_totals a_p3_parts a_p3_rows a_p3_outs a_p3_minors x5) (fun u => True)) (v_p3_wholeOfAll : Int64) (a_held : Nat → Int32) (a_totals : Nat → Int32) (a_p3_parts : Nat → Int64) (a_p3_rows : Nat → Int32) (a_p3_outs : Nat → Int32) (a_p3_minors : Nat → Int64) (x5 : Int32) (i0 : 0 ≤ (v_p0_units).toInt) (i1 : (v_p0_units).toInt ≤ 5) (i2 : ∀ i : Nat, ((i : Int) < (v_p0_units).toInt) → ((0 ≤ (a_p0_yesLeads i).toInt ∧ (a_p0_yesLeads i).toInt ≤ 4) ∨ (10 ≤ (a_p0_yesLeads i).toInt ∧ (a_p0_yesLeads i).toInt ≤ 13) ∨ (a_p0_yesLeads i).toInt = 20)) (i3 : ∀ i : Nat, ((i : Int) < (v_p0_units).toInt) → ((0 ≤ (a_p0_noLeads i).toInt ∧ (a_p0_noLeads i).toInt ≤ 4) ∨ (10 ≤ (a_p0_noLeads i).toInt ∧ (a_p0_noLeads i).toInt ≤ 13) ∨ (a_p0_noLeads i).toInt = 20)) (i4 : ∀ i : Nat, (i < 5) → (0 ≤ (a_p1 i).toInt ∧ (a_p1 i).toInt ≤ 2)) (i5 : 0 ≤ (x5).toInt) (i6 : (x5).toInt ≤ 5) (hmu : (5 - (x5).toInt).toNat ≤ mB19) : OK (FX1_sort_19 n v_p0_units a_p1 a_p2 a_p0_percents a_p0_yesLeads a_p0_noLeads k19 v_p3_wholeOfAll a_held a_totals a_p3_parts a_p3_rows a_p3_outs a_p3_minors x5) (fun u => True) := by
  unfold FX1_sort_19
  refine OK_if (fun c460 => ?_) (fun c460 => ?_)
  · have v461 : HQ ((5 : Int32)).toInt 5 := HQ.mk (by decide)
    have f462 := le32k v461.out rfl c460
    exact OK_some trivial
  · have v463 : HQ ((5 : Int32)).toInt 5 := HQ.mk (by decide)
    have f464 := nle32k v463.out rfl c460
    refine OK_ck (ckV rfl (by omega) (by omega)) ?_
    refine OK_if (fun c465 => ?_) (fun c465 => ?_)
    · obtain ⟨m466, v467, f468⟩ := tnV rfl (by omega)
      have v469 : HQ ((a_p2 ((x5).toNatClampNeg))).toInt (a_p2 m466).toInt := HQ.mk (by rw [v467.out])
      have v470 : HQ ((0 : Int32)).toInt 0 := HQ.mk (by decide)
      have f471 := le32k v469.out v470.out c465
      exact sFX1_sort_53 n hn v_p0_units a_p1 a_p2 a_p0_percents a_p0_yesLeads a_p0_noLeads k19 mB19 hk19 v_p3_wholeOfAll a_held a_totals a_p3_parts a_p3_rows a_p3_outs a_p3_minors x5 i0 i1 i2 i3 i4 i5 (by omega) (by omega)
    · obtain ⟨m472, v473, f474⟩ := tnV rfl (by omega)
      have v475 : HQ ((a_p2 ((x5).toNatClampNeg))).toInt (a_p2 m472).toInt := HQ.mk (by rw [v473.out])
      have v476 : HQ ((0 : Int32)).toInt 0 := HQ.mk (by decide)
      have f477 := nle32k v475.out v476.out c465
      refine OK_bd (sX0_solve n hn v_p3_wholeOfAll v_p0_units a_p1 a_p3_parts a_p3_rows a_p3_outs a_p0_percents a_p0_yesLeads a_p0_noLeads a_p3_minors x5 i0 i1 i2 i3 i4 i5 (by omega)) (fun u_9 p_u_9 => ?_)
      refine OK_ck (ckV rfl (by omega) (by omega)) ?_
      refine OK_bd (sX1_split n hn u_9.2.1 u_9.2.2.1 a_held a_totals x5 (a_p2 ((x5).toNatClampNeg)) i5 (by omega)) (fun u_12 p_u_12 => ?_)
      exact sFX1_sort_53 n hn v_p0_units a_p1 a_p2 a_p0_percents a_p0_yesLeads a_p0_noLeads k19 mB19 hk19 u_9.2.1 u_12.2.1 u_12.2.2 u_9.2.2.1 u_9.2.2.2.1 u_9.2.2.2.2.1 u_9.2.2.2.2.2 x5 i0 i1 i2 i3 i4 i5 (by omega) (by omega)
theorem sFX1_sort_19L (n : Nat) (hn : n = 3000) (v_p0_units : Int32) (a_p1 : Nat → Int32) (a_p2 : Nat → Int32) (a_p0_percents : Nat → Int32) (a_p0_yesLeads : Nat → Int32) (a_p0_noLeads : Nat → Int32) : ∀ (j : Nat) (v_p3_wholeOfAll : Int64) (a_held : Nat → Int32) (a_totals : Nat → Int32) (a_p3_parts : Nat → Int64) (a_p3_rows : Nat → Int32) (a_p3_outs : Nat → Int32) (a_p3_minors : Nat → Int64) (x5 : Int32), (0 ≤ (v_p0_units).toInt) → ((v_p0_units).toInt ≤ 5) → (∀ i : Nat, ((i : Int) < (v_p0_units).toInt) → ((0 ≤ (a_p0_yesLeads i).toInt ∧ (a_p0_yesLeads i).toInt ≤ 4) ∨ (10 ≤ (a_p0_yesLeads i).toInt ∧ (a_p0_yesLeads i).toInt ≤ 13) ∨ (a_p0_yesLeads i).toInt = 20)) → (∀ i : Nat, ((i : Int) < (v_p0_units).toInt) → ((0 ≤ (a_p0_noLeads i).toInt ∧ (a_p0_noLeads i).toInt ≤ 4) ∨ (10 ≤ (a_p0_noLeads i).toInt ∧ (a_p0_noLeads i).toInt ≤ 13) ∨ (a_p0_noLeads i).toInt = 20)) → (∀ i : Nat, (i < 5) → (0 ≤ (a_p1 i).toInt ∧ (a_p1 i).toInt ≤ 2)) → (0 ≤ (x5).toInt) → ((x5).toInt ≤ 5) → (5 - (x5).toInt).toNat < j → OK (FX1_sort_19L n v_p0_units a_p1 a_p2 a_p0_percents a_p0_yesLeads a_p0_noLeads j v_p3_wholeOfAll a_held a_totals a_p3_parts a_p3_rows a_p3_outs a_p3_minors x5) (fun u => True) := by
  intro j
  induction j with
  | zero => intro _ _ _ _ _ _ _ _ _ _ _ _ _ _ _ hj; exact absurd hj (Nat.not_lt_zero _)
  | succ j ih =>
    intro v_p3_wholeOfAll a_held a_totals a_p3_parts a_p3_rows a_p3_outs a_p3_minors x5 i0 i1 i2 i3 i4 i5 i6 hj
    exact sFX1_sort_19 n hn v_p0_units a_p1 a_p2 a_p0_percents a_p0_yesLeads a_p0_noLeads (FX1_sort_19L n v_p0_units a_p1 a_p2 a_p0_percents a_p0_yesLeads a_p0_noLeads j) ((5 - (x5).toInt).toNat) (fun y0 y1 y2 y3 y4 y5 y6 y7 w0 w1 w2 w3 w4 w5 w6 hlt => ih y0 y1 y2 y3 y4 y5 y6 y7 w0 w1 w2 w3 w4 w5 w6 (by omega)) v_p3_wholeOfAll a_held a_totals a_p3_parts a_p3_rows a_p3_outs a_p3_minors x5 i0 i1 i2 i3 i4 i5 i6 (Nat.le_refl _)
set_option maxHeartbeats 2000000 in
theorem sX1_sort (n : Nat) (hn : n = 3000) (v_p0_units : Int32) (a_p1 : Nat → Int32) (a_p2 : Nat → Int32) (v_p3_wholeOfAll : Int64) (a_held : Nat → Int32) (a_totals : Nat → Int32) (a_p3_parts : Nat → Int64) (a_p3_rows : Nat → Int32) (a_p3_outs : Nat → Int32) (a_p0_percents : Nat → Int32) (a_p0_yesLeads : Nat → Int32) (a_p0_noLeads : Nat → Int32) (a_p3_minors : Nat → Int64) (i0 : 0 ≤ (v_p0_units).toInt) (i1 : (v_p0_units).toInt ≤ 5) (i2 : ∀ i : Nat, ((i : Int) < (v_p0_units).toInt) → ((0 ≤ (a_p0_yesLeads i).toInt ∧ (a_p0_yesLeads i).toInt ≤ 4) ∨ (10 ≤ (a_p0_yesLeads i).toInt ∧ (a_p0_yesLeads i).toInt ≤ 13) ∨ (a_p0_yesLeads i).toInt = 20)) (i3 : ∀ i : Nat, ((i : Int) < (v_p0_units).toInt) → ((0 ≤ (a_p0_noLeads i).toInt ∧ (a_p0_noLeads i).toInt ≤ 4) ∨ (10 ≤ (a_p0_noLeads i).toInt ∧ (a_p0_noLeads i).toInt ≤ 13) ∨ (a_p0_noLeads i).toInt = 20)) (i4 : ∀ i : Nat, (i < 5) → (0 ≤ (a_p1 i).toInt ∧ (a_p1 i).toInt ≤ 2)) : OK (FX1_sort n v_p0_units a_p1 a_p2 v_p3_wholeOfAll a_held a_totals a_p3_parts a_p3_rows a_p3_outs a_p0_percents a_p0_yesLeads a_p0_noLeads a_p3_minors) (fun u => True) := by
  unfold FX1_sort
  refine OK_bd (sJ7_fill_53178 n hn 25 a_held (0 : Int32) (by omega)) (fun u_2 p_u_2 => ?_)
  have p478 := p_u_2
  refine OK_bd (sJ7_fill_53178 n hn 5 a_totals (0 : Int32) (by omega)) (fun u_4 p_u_4 => ?_)
  have p479 := p_u_4
  have v480 : HQ ((0 : Int32)).toInt 0 := HQ.mk (by decide)
  exact sFX1_sort_19L n hn v_p0_units a_p1 a_p2 a_p0_percents a_p0_yesLeads a_p0_noLeads n v_p3_wholeOfAll u_2.2 u_4.2 a_p3_parts a_p3_rows a_p3_outs a_p3_minors (0 : Int32) i0 i1 i2 i3 i4 (by rw [v480.out]; omega) (by rw [v480.out]; omega) (by omega)
set_option maxHeartbeats 2000000 in
theorem sX1_purityOf (n : Nat) (hn : n = 3000) (a_totals : Nat → Int32) (a_p0_grades : Nat → Int32) (a_held : Nat → Int32) (a_p0_gradeKinds : Nat → Int32) (z2 : Int32) (i0 : 0 ≤ (z2).toInt) (i1 : (z2).toInt ≤ 3) (i2 : ∀ i : Nat, (i < 4) → (0 ≤ (a_p0_grades i).toInt ∧ (a_p0_grades i).toInt ≤ 4)) (i3 : ∀ i : Nat, (i < 4) → (0 ≤ (a_p0_gradeKinds i).toInt ∧ (a_p0_gradeKinds i).toInt ≤ 4)) : OK (FX1_purityOf n a_totals a_p0_grades a_held a_p0_gradeKinds z2) (fun u => True) := by
  unfold FX1_purityOf
  refine OK_ck (ckV rfl (by omega) (by omega)) ?_
  refine OK_if (fun c481 => ?_) (fun c481 => ?_)
  · obtain ⟨m482, v483, f484⟩ := tnV rfl (by omega)
    have v485 : HQ ((a_totals ((z2).toNatClampNeg))).toInt (a_totals m482).toInt := HQ.mk (by rw [v483.out])
    have v486 : HQ ((1 : Int32)).toInt 1 := HQ.mk (by decide)
    have f487 := lt32k v485.out v486.out c481
    exact OK_some trivial
  · obtain ⟨m488, v489, f490⟩ := tnV rfl (by omega)
    have v491 : HQ ((a_totals ((z2).toNatClampNeg))).toInt (a_totals m488).toInt := HQ.mk (by rw [v489.out])
    have v492 : HQ ((1 : Int32)).toInt 1 := HQ.mk (by decide)
    have f493 := nlt32k v491.out v492.out c481
    refine OK_ck (ckV rfl (by omega) (by omega)) ?_
    refine OK_if (fun c494 => ?_) (fun c494 => ?_)
    · have v495 : HQ ((a_p0_grades ((z2).toNatClampNeg))).toInt (a_p0_grades m488).toInt := HQ.mk (by rw [v489.out])
      have f496 := i2 m488
      have f497 := le32k v492.out v495.out c494
      refine OK_ck (ckV rfl (by omega) (by omega)) ?_
      have v498 : HQ ((5 : Int32)).toInt 5 := HQ.mk (by decide)
      have v499 : HQ ((z2 * (5 : Int32))).toInt ((z2).toInt * 5) := HQ.mk (mulV rfl v498.out (by omega) (by omega))
      have v500 : HQ ((a_p0_gradeKinds ((z2).toNatClampNeg))).toInt (a_p0_gradeKinds m488).toInt := HQ.mk (by rw [v489.out])
      have f501 := i3 m488
      have v502 : HQ (((z2 * (5 : Int32)) + (a_p0_gradeKinds ((z2).toNatClampNeg)))).toInt (((z2).toInt * 5) + (a_p0_gradeKinds m488).toInt) := HQ.mk (addV v499.out v500.out (by omega) (by omega))
      refine OK_ck (ckV v502.out (by omega) (by omega)) ?_
      refine OK_lt (fun x_7 e_x_7 => ?_)
      refine OK_ck (ckV rfl (by omega) (by omega)) ?_
      refine OK_lt (fun x_9 e_x_9 => ?_)
      refine OK_ck (neV64 rfl (by omega)) ?_
      exact OK_some trivial
    · have v503 : HQ ((a_p0_grades ((z2).toNatClampNeg))).toInt (a_p0_grades m488).toInt := HQ.mk (by rw [v489.out])
      have f504 := i2 m488
      have f505 := nle32k v492.out v503.out c494
      exact OK_some trivial
