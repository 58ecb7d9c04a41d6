set_option maxHeartbeats 2000000 in
theorem sFX1_sort_53 (n : Nat) (hn : n = 2200000000) (v_p0_units : Int32) (a_p1 : Nat → Int32) (a_p2 : Nat → Int32) (a_p0_percents : Nat → Int32) (a_p0_yesLeads : Nat → Int32) (a_p0_noLeads : Nat → Int32) (k19 : Int64 → (Nat → Int32) → (Nat → Int32) → (Nat → Int64) → (Nat → Int32) → (Nat → Int32) → (Nat → Int64) → Int32 → Option (Unit × Int64 × (Nat → Int32) × (Nat → Int32) × (Nat → Int64) × (Nat → Int32) × (Nat → Int32) × (Nat → Int64))) (mB19 : Nat) (hk19 : ∀ (v_p3_wholeOfAll : Int64) (a_held : Nat → Int32) (a_totals : Nat → Int32) (a_p3_parts : Nat → Int64) (a_p3_rows : Nat → Int32) (a_p3_outs : Nat → Int32) (a_p3_minors : Nat → Int64) (x5 : Int32), (0 ≤ (v_p0_units).toInt) → ((v_p0_units).toInt ≤ 5) → (∀ i : Nat, ((i : Int) < (v_p0_units).toInt) → ((0 ≤ (a_p0_yesLeads i).toInt ∧ (a_p0_yesLeads i).toInt ≤ 4) ∨ (10 ≤ (a_p0_yesLeads i).toInt ∧ (a_p0_yesLeads i).toInt ≤ 13) ∨ (a_p0_yesLeads i).toInt = 20)) → (∀ i : Nat, ((i : Int) < (v_p0_units).toInt) → ((0 ≤ (a_p0_noLeads i).toInt ∧ (a_p0_noLeads i).toInt ≤ 4) ∨ (10 ≤ (a_p0_noLeads i).toInt ∧ (a_p0_noLeads i).toInt ≤ 13) ∨ (a_p0_noLeads i).toInt = 20)) → (∀ i : Nat, (i < 5) → (0 ≤ (a_p1 i).toInt ∧ (a_p1 i).toInt ≤ 2)) → (0 ≤ (x5).toInt) → ((x5).toInt ≤ 5) → (5 - (x5).toInt).toNat < mB19 → OK (k19 v_p3_wholeOfAll a_held a_totals a_p3_parts a_p3_rows a_p3_outs a_p3_minors x5) (fun u => True)) (v_p3_wholeOfAll : Int64) (a_held : Nat → Int32) (a_totals : Nat → Int32) (a_p3_parts : Nat → Int64) (a_p3_rows : Nat → Int32) (a_p3_outs : Nat → Int32) (a_p3_minors : Nat → Int64) (x5 : Int32) (i0 : 0 ≤ (v_p0_units).toInt) (i1 : (v_p0_units).toInt ≤ 5) (i2 : ∀ i : Nat, ((i : Int) < (v_p0_units).toInt) → ((0 ≤ (a_p0_yesLeads i).toInt ∧ (a_p0_yesLeads i).toInt ≤ 4) ∨ (10 ≤ (a_p0_yesLeads i).toInt ∧ (a_p0_yesLeads i).toInt ≤ 13) ∨ (a_p0_yesLeads i).toInt = 20)) (i3 : ∀ i : Nat, ((i : Int) < (v_p0_units).toInt) → ((0 ≤ (a_p0_noLeads i).toInt ∧ (a_p0_noLeads i).toInt ≤ 4) ∨ (10 ≤ (a_p0_noLeads i).toInt ∧ (a_p0_noLeads i).toInt ≤ 13) ∨ (a_p0_noLeads i).toInt = 20)) (i4 : ∀ i : Nat, (i < 5) → (0 ≤ (a_p1 i).toInt ∧ (a_p1 i).toInt ≤ 2)) (i5 : 0 ≤ (x5).toInt) (i6 : (x5).toInt ≤ 4) (i7 : (5 - (x5).toInt).toNat ≤ mB19) : OK (FX1_sort_53 n v_p0_units a_p1 a_p2 a_p0_percents a_p0_yesLeads a_p0_noLeads k19 v_p3_wholeOfAll a_held a_totals a_p3_parts a_p3_rows a_p3_outs a_p3_minors x5) (fun u => True) := by
  unfold FX1_sort_53
  have v483 : HQ ((1 : Int32)).toInt 1 := HQ.mk (by decide)
  have v484 : HQ ((x5 + (1 : Int32))).toInt ((x5).toInt + 1) := HQ.mk (addV rfl v483.out (by omega) (by omega))
  refine OK_lt (fun x_13 e_x_13 => ?_)
  have f485 : (x_13).toInt = ((x5).toInt + 1) := by rw [e_x_13]; exact v484.out
  exact hk19 v_p3_wholeOfAll a_held a_totals a_p3_parts a_p3_rows a_p3_outs a_p3_minors x_13 i0 i1 i2 i3 i4 (by omega) (by omega) (by omega)
set_option maxHeartbeats 2000000 in
theorem sFX1_sort_19 (n : Nat) (hn : n = 2200000000) (v_p0_units : Int32) (a_p1 : Nat → Int32) (a_p2 : Nat → Int32) (a_p0_percents : Nat → Int32) (a_p0_yesLeads : Nat → Int32) (a_p0_noLeads : Nat → Int32) (k19 : Int64 → (Nat → Int32) → (Nat → Int32) → (Nat → Int64) → (Nat → Int32) → (Nat → Int32) → (Nat → Int64) → Int32 → Option (Unit × Int64 × (Nat → Int32) × (Nat → Int32) × (Nat → Int64) × (Nat → Int32) × (Nat → Int32) × (Nat → Int64))) (mB19 : Nat) (hk19 : ∀ (v_p3_wholeOfAll : Int64) (a_held : Nat → Int32) (a_totals : Nat → Int32) (a_p3_parts : Nat → Int64) (a_p3_rows : Nat → Int32) (a_p3_outs : Nat → Int32) (a_p3_minors : Nat → Int64) (x5 : Int32), (0 ≤ (v_p0_units).toInt) → ((v_p0_units).toInt ≤ 5) → (∀ i : Nat, ((i : Int) < (v_p0_units).toInt) → ((0 ≤ (a_p0_yesLeads i).toInt ∧ (a_p0_yesLeads i).toInt ≤ 4) ∨ (10 ≤ (a_p0_yesLeads i).toInt ∧ (a_p0_yesLeads i).toInt ≤ 13) ∨ (a_p0_yesLeads i).toInt = 20)) → (∀ i : Nat, ((i : Int) < (v_p0_units).toInt) → ((0 ≤ (a_p0_noLeads i).toInt ∧ (a_p0_noLeads i).toInt ≤ 4) ∨ (10 ≤ (a_p0_noLeads i).toInt ∧ (a_p0_noLeads i).toInt ≤ 13) ∨ (a_p0_noLeads i).toInt = 20)) → (∀ i : Nat, (i < 5) → (0 ≤ (a_p1 i).toInt ∧ (a_p1 i).toInt ≤ 2)) → (0 ≤ (x5).toInt) → ((x5).toInt ≤ 5) → (5 - (x5).toInt).toNat < mB19 → OK (k19 v_p3_wholeOfAll a_held a_totals a_p3_parts a_p3_rows a_p3_outs a_p3_minors x5) (fun u => True)) (v_p3_wholeOfAll : Int64) (a_held : Nat → Int32) (a_totals : Nat → Int32) (a_p3_parts : Nat → Int64) (a_p3_rows : Nat → Int32) (a_p3_outs : Nat → Int32) (a_p3_minors : Nat → Int64) (x5 : Int32) (i0 : 0 ≤ (v_p0_units).toInt) (i1 : (v_p0_units).toInt ≤ 5) (i2 : ∀ i : Nat, ((i : Int) < (v_p0_units).toInt) → ((0 ≤ (a_p0_yesLeads i).toInt ∧ (a_p0_yesLeads i).toInt ≤ 4) ∨ (10 ≤ (a_p0_yesLeads i).toInt ∧ (a_p0_yesLeads i).toInt ≤ 13) ∨ (a_p0_yesLeads i).toInt = 20)) (i3 : ∀ i : Nat, ((i : Int) < (v_p0_units).toInt) → ((0 ≤ (a_p0_noLeads i).toInt ∧ (a_p0_noLeads i).toInt ≤ 4) ∨ (10 ≤ (a_p0_noLeads i).toInt ∧ (a_p0_noLeads i).toInt ≤ 13) ∨ (a_p0_noLeads i).toInt = 20)) (i4 : ∀ i : Nat, (i < 5) → (0 ≤ (a_p1 i).toInt ∧ (a_p1 i).toInt ≤ 2)) (i5 : 0 ≤ (x5).toInt) (i6 : (x5).toInt ≤ 5) (hmu : (5 - (x5).toInt).toNat ≤ mB19) : OK (FX1_sort_19 n v_p0_units a_p1 a_p2 a_p0_percents a_p0_yesLeads a_p0_noLeads k19 v_p3_wholeOfAll a_held a_totals a_p3_parts a_p3_rows a_p3_outs a_p3_minors x5) (fun u => True) := by
  unfold FX1_sort_19
  refine OK_if (fun c486 => ?_) (fun c486 => ?_)
  · have v487 : HQ ((5 : Int32)).toInt 5 := HQ.mk (by decide)
    have f488 := le32k v487.out rfl c486
    exact OK_some trivial
  · have v489 : HQ ((5 : Int32)).toInt 5 := HQ.mk (by decide)
    have f490 := nle32k v489.out rfl c486
    refine OK_ck (ckV rfl (by omega) (by omega)) ?_
    refine OK_if (fun c491 => ?_) (fun c491 => ?_)
    · obtain ⟨m492, v493, f494⟩ := tnV (e := x5) rfl (by omega)
      have v495 : HQ ((a_p2 ((x5).toNatClampNeg))).toInt (a_p2 m492).toInt := HQ.mk (by rw [v493.out])
      have v496 : HQ ((0 : Int32)).toInt 0 := HQ.mk (by decide)
      have f497 := le32k v495.out v496.out c491
      exact sFX1_sort_53 n hn v_p0_units a_p1 a_p2 a_p0_percents a_p0_yesLeads a_p0_noLeads k19 mB19 hk19 v_p3_wholeOfAll a_held a_totals a_p3_parts a_p3_rows a_p3_outs a_p3_minors x5 i0 i1 i2 i3 i4 i5 (by omega) (by omega)
    · obtain ⟨m498, v499, f500⟩ := tnV (e := x5) rfl (by omega)
      have v501 : HQ ((a_p2 ((x5).toNatClampNeg))).toInt (a_p2 m498).toInt := HQ.mk (by rw [v499.out])
      have v502 : HQ ((0 : Int32)).toInt 0 := HQ.mk (by decide)
      have f503 := nle32k v501.out v502.out c491
      refine OK_bd (sX0_solve n hn v_p3_wholeOfAll v_p0_units a_p1 a_p3_parts a_p3_rows a_p3_outs a_p0_percents a_p0_yesLeads a_p0_noLeads a_p3_minors x5 i0 i1 i2 i3 i4 i5 (by omega)) (fun u_9 p_u_9 => ?_)
      refine OK_ck (ckV rfl (by omega) (by omega)) ?_
      refine OK_bd (sX1_split n hn u_9.2.1 u_9.2.2.1 a_held a_totals x5 (a_p2 ((x5).toNatClampNeg)) i5 (by omega)) (fun u_12 p_u_12 => ?_)
      exact sFX1_sort_53 n hn v_p0_units a_p1 a_p2 a_p0_percents a_p0_yesLeads a_p0_noLeads k19 mB19 hk19 u_9.2.1 u_12.2.1 u_12.2.2 u_9.2.2.1 u_9.2.2.2.1 u_9.2.2.2.2.1 u_9.2.2.2.2.2 x5 i0 i1 i2 i3 i4 i5 (by omega) (by omega)
theorem sFX1_sort_19L (n : Nat) (hn : n = 2200000000) (v_p0_units : Int32) (a_p1 : Nat → Int32) (a_p2 : Nat → Int32) (a_p0_percents : Nat → Int32) (a_p0_yesLeads : Nat → Int32) (a_p0_noLeads : Nat → Int32) : ∀ (j : Nat) (v_p3_wholeOfAll : Int64) (a_held : Nat → Int32) (a_totals : Nat → Int32) (a_p3_parts : Nat → Int64) (a_p3_rows : Nat → Int32) (a_p3_outs : Nat → Int32) (a_p3_minors : Nat → Int64) (x5 : Int32), (0 ≤ (v_p0_units).toInt) → ((v_p0_units).toInt ≤ 5) → (∀ i : Nat, ((i : Int) < (v_p0_units).toInt) → ((0 ≤ (a_p0_yesLeads i).toInt ∧ (a_p0_yesLeads i).toInt ≤ 4) ∨ (10 ≤ (a_p0_yesLeads i).toInt ∧ (a_p0_yesLeads i).toInt ≤ 13) ∨ (a_p0_yesLeads i).toInt = 20)) → (∀ i : Nat, ((i : Int) < (v_p0_units).toInt) → ((0 ≤ (a_p0_noLeads i).toInt ∧ (a_p0_noLeads i).toInt ≤ 4) ∨ (10 ≤ (a_p0_noLeads i).toInt ∧ (a_p0_noLeads i).toInt ≤ 13) ∨ (a_p0_noLeads i).toInt = 20)) → (∀ i : Nat, (i < 5) → (0 ≤ (a_p1 i).toInt ∧ (a_p1 i).toInt ≤ 2)) → (0 ≤ (x5).toInt) → ((x5).toInt ≤ 5) → (5 - (x5).toInt).toNat < j → OK (FX1_sort_19L n v_p0_units a_p1 a_p2 a_p0_percents a_p0_yesLeads a_p0_noLeads j v_p3_wholeOfAll a_held a_totals a_p3_parts a_p3_rows a_p3_outs a_p3_minors x5) (fun u => True) := by
  intro j
  induction j with
  | zero => intro _ _ _ _ _ _ _ _ _ _ _ _ _ _ _ hj; exact absurd hj (Nat.not_lt_zero _)
  | succ j ih =>
    intro v_p3_wholeOfAll a_held a_totals a_p3_parts a_p3_rows a_p3_outs a_p3_minors x5 i0 i1 i2 i3 i4 i5 i6 hj
    exact sFX1_sort_19 n hn v_p0_units a_p1 a_p2 a_p0_percents a_p0_yesLeads a_p0_noLeads (FX1_sort_19L n v_p0_units a_p1 a_p2 a_p0_percents a_p0_yesLeads a_p0_noLeads j) ((5 - (x5).toInt).toNat) (fun y0 y1 y2 y3 y4 y5 y6 y7 w0 w1 w2 w3 w4 w5 w6 hlt => ih y0 y1 y2 y3 y4 y5 y6 y7 w0 w1 w2 w3 w4 w5 w6 (by omega)) v_p3_wholeOfAll a_held a_totals a_p3_parts a_p3_rows a_p3_outs a_p3_minors x5 i0 i1 i2 i3 i4 i5 i6 (Nat.le_refl _)
set_option maxHeartbeats 2000000 in
theorem sX1_sort (n : Nat) (hn : n = 2200000000) (v_p0_units : Int32) (a_p1 : Nat → Int32) (a_p2 : Nat → Int32) (v_p3_wholeOfAll : Int64) (a_held : Nat → Int32) (a_totals : Nat → Int32) (a_p3_parts : Nat → Int64) (a_p3_rows : Nat → Int32) (a_p3_outs : Nat → Int32) (a_p0_percents : Nat → Int32) (a_p0_yesLeads : Nat → Int32) (a_p0_noLeads : Nat → Int32) (a_p3_minors : Nat → Int64) (i0 : 0 ≤ (v_p0_units).toInt) (i1 : (v_p0_units).toInt ≤ 5) (i2 : ∀ i : Nat, ((i : Int) < (v_p0_units).toInt) → ((0 ≤ (a_p0_yesLeads i).toInt ∧ (a_p0_yesLeads i).toInt ≤ 4) ∨ (10 ≤ (a_p0_yesLeads i).toInt ∧ (a_p0_yesLeads i).toInt ≤ 13) ∨ (a_p0_yesLeads i).toInt = 20)) (i3 : ∀ i : Nat, ((i : Int) < (v_p0_units).toInt) → ((0 ≤ (a_p0_noLeads i).toInt ∧ (a_p0_noLeads i).toInt ≤ 4) ∨ (10 ≤ (a_p0_noLeads i).toInt ∧ (a_p0_noLeads i).toInt ≤ 13) ∨ (a_p0_noLeads i).toInt = 20)) (i4 : ∀ i : Nat, (i < 5) → (0 ≤ (a_p1 i).toInt ∧ (a_p1 i).toInt ≤ 2)) : OK (FX1_sort n v_p0_units a_p1 a_p2 v_p3_wholeOfAll a_held a_totals a_p3_parts a_p3_rows a_p3_outs a_p0_percents a_p0_yesLeads a_p0_noLeads a_p3_minors) (fun u => True) := by
  unfold FX1_sort
  refine OK_bd (sJ7_fill_53178 n hn 25 a_held (0 : Int32) (by omega)) (fun u_2 p_u_2 => ?_)
  have p504 := p_u_2
  clear p_u_2
  have v505 : HQ ((0 : Int32)).toInt 0 := HQ.mk (by decide)
  try simp only [v505.out] at p504
  refine OK_bd (sJ7_fill_53178 n hn 5 a_totals (0 : Int32) (by omega)) (fun u_4 p_u_4 => ?_)
  have p506 := p_u_4
  clear p_u_4
  try simp only [v505.out] at p506
  exact sFX1_sort_19L n hn v_p0_units a_p1 a_p2 a_p0_percents a_p0_yesLeads a_p0_noLeads n v_p3_wholeOfAll u_2.2 u_4.2 a_p3_parts a_p3_rows a_p3_outs a_p3_minors (0 : Int32) i0 i1 i2 i3 i4 (by (rw [v505.out]) <;> omega) (by (rw [v505.out]) <;> omega) (by (rw [v505.out]) <;> omega)
set_option maxHeartbeats 2000000 in
theorem sX1_purityOf (n : Nat) (hn : n = 2200000000) (a_totals : Nat → Int32) (a_p0_grades : Nat → Int32) (a_held : Nat → Int32) (a_p0_gradeKinds : Nat → Int32) (z2 : Int32) (i0 : 0 ≤ (z2).toInt) (i1 : (z2).toInt ≤ 3) (i2 : ∀ i : Nat, (i < 4) → (0 ≤ (a_p0_grades i).toInt ∧ (a_p0_grades i).toInt ≤ 4)) (i3 : ∀ i : Nat, (i < 4) → (0 ≤ (a_p0_gradeKinds i).toInt ∧ (a_p0_gradeKinds i).toInt ≤ 4)) : OK (FX1_purityOf n a_totals a_p0_grades a_held a_p0_gradeKinds z2) (fun u => True) := by
  unfold FX1_purityOf
  refine OK_ck (ckV rfl (by omega) (by omega)) ?_
  refine OK_if (fun c507 => ?_) (fun c507 => ?_)
  · obtain ⟨m508, v509, f510⟩ := tnV (e := z2) rfl (by omega)
    have v511 : HQ ((a_totals ((z2).toNatClampNeg))).toInt (a_totals m508).toInt := HQ.mk (by rw [v509.out])
    have v512 : HQ ((1 : Int32)).toInt 1 := HQ.mk (by decide)
    have f513 := lt32k v511.out v512.out c507
    exact OK_some trivial
  · obtain ⟨m514, v515, f516⟩ := tnV (e := z2) rfl (by omega)
    have v517 : HQ ((a_totals ((z2).toNatClampNeg))).toInt (a_totals m514).toInt := HQ.mk (by rw [v515.out])
    have v518 : HQ ((1 : Int32)).toInt 1 := HQ.mk (by decide)
    have f519 := nlt32k v517.out v518.out c507
    refine OK_ck (ckV rfl (by omega) (by omega)) ?_
    refine OK_if (fun c520 => ?_) (fun c520 => ?_)
    · have v521 : HQ ((a_p0_grades ((z2).toNatClampNeg))).toInt (a_p0_grades m514).toInt := HQ.mk (by rw [v515.out])
      have f522 := i2 m514
      have f523 := le32k v518.out v521.out c520
      refine OK_ck (ckV rfl (by omega) (by omega)) ?_
      have v524 : HQ ((5 : Int32)).toInt 5 := HQ.mk (by decide)
      have v525 : HQ ((z2 * (5 : Int32))).toInt ((z2).toInt * 5) := HQ.mk (mulV rfl v524.out (by omega) (by omega))
      have v526 : HQ ((a_p0_gradeKinds ((z2).toNatClampNeg))).toInt (a_p0_gradeKinds m514).toInt := HQ.mk (by rw [v515.out])
      have f527 := i3 m514
      have v528 : HQ (((z2 * (5 : Int32)) + (a_p0_gradeKinds ((z2).toNatClampNeg)))).toInt (((z2).toInt * 5) + (a_p0_gradeKinds m514).toInt) := HQ.mk (addV v525.out v526.out (by omega) (by omega))
      refine OK_ck (ckV v528.out (by omega) (by omega)) ?_
      obtain ⟨m529, v530, f531⟩ := tnV (e := ((z2 * (5 : Int32)) + (a_p0_gradeKinds ((z2).toNatClampNeg)))) v528.out (by omega)
      have v532 : HQ ((a_held ((((z2 * (5 : Int32)) + (a_p0_gradeKinds ((z2).toNatClampNeg)))).toNatClampNeg))).toInt (a_held m529).toInt := HQ.mk (by rw [v530.out])
      have v533 : HQ (((a_held ((((z2 * (5 : Int32)) + (a_p0_gradeKinds ((z2).toNatClampNeg)))).toNatClampNeg))).toInt64).toInt (a_held m529).toInt := HQ.mk ((Int32.toInt_toInt64 _).trans v532.out)
      refine OK_lt (fun x_7 e_x_7 => ?_)
      have f534 : (x_7).toInt = (a_held m529).toInt := by rw [e_x_7]; exact v533.out
      refine OK_ck (ckV rfl (by omega) (by omega)) ?_
      have v535 : HQ (((a_totals ((z2).toNatClampNeg))).toInt64).toInt (a_totals m514).toInt := HQ.mk ((Int32.toInt_toInt64 _).trans v517.out)
      refine OK_lt (fun x_9 e_x_9 => ?_)
      have f536 : (x_9).toInt = (a_totals m514).toInt := by rw [e_x_9]; exact v535.out
      refine OK_ck (neV64 rfl (by omega)) ?_
      exact OK_some trivial
    · have v537 : HQ ((a_p0_grades ((z2).toNatClampNeg))).toInt (a_p0_grades m514).toInt := HQ.mk (by rw [v515.out])
      have f538 := i2 m514
      have f539 := nle32k v518.out v537.out c520
      exact OK_some trivial
