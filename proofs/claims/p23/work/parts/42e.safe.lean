set_option maxHeartbeats 2000000 in
theorem sFX0_layRows_19 (n : Nat) (hn : n = 2200000000) (v_p0_units : Int32) (a_p1 : Nat → Int32) (a_p0_percents : Nat → Int32) (a_p0_yesLeads : Nat → Int32) (a_p0_noLeads : Nat → Int32) (z3 : Int32) (k19 : (Nat → Int32) → (Nat → Int32) → Int32 → Int32 → Option (Unit × (Nat → Int32) × (Nat → Int32))) (mB19 : Nat) (hk19 : ∀ (a_rows : Nat → Int32) (a_outs : Nat → Int32) (x3 : Int32) (x4 : Int32), (0 ≤ (v_p0_units).toInt) → ((v_p0_units).toInt ≤ 5) → (∀ i : Nat, ((i : Int) < (v_p0_units).toInt) → ((0 ≤ (a_p0_yesLeads i).toInt ∧ (a_p0_yesLeads i).toInt ≤ 4) ∨ (10 ≤ (a_p0_yesLeads i).toInt ∧ (a_p0_yesLeads i).toInt ≤ 13) ∨ (a_p0_yesLeads i).toInt = 20)) → (∀ i : Nat, ((i : Int) < (v_p0_units).toInt) → ((0 ≤ (a_p0_noLeads i).toInt ∧ (a_p0_noLeads i).toInt ≤ 4) ∨ (10 ≤ (a_p0_noLeads i).toInt ∧ (a_p0_noLeads i).toInt ≤ 13) ∨ (a_p0_noLeads i).toInt = 20)) → (∀ i : Nat, (i < 5) → (0 ≤ (a_p1 i).toInt ∧ (a_p1 i).toInt ≤ 2)) → (0 ≤ (z3).toInt) → ((z3).toInt ≤ 4) → (0 ≤ (x3).toInt) → ((x3).toInt ≤ 4) → (0 ≤ (x4).toInt) → ((x4).toInt ≤ (v_p0_units).toInt) → (5 - (x4).toInt).toNat < mB19 → OK (k19 a_rows a_outs x3 x4) (fun u => True)) (a_rows : Nat → Int32) (a_outs : Nat → Int32) (x3 : Int32) (x4 : Int32) (i0 : 0 ≤ (v_p0_units).toInt) (i1 : (v_p0_units).toInt ≤ 5) (i2 : ∀ i : Nat, ((i : Int) < (v_p0_units).toInt) → ((0 ≤ (a_p0_yesLeads i).toInt ∧ (a_p0_yesLeads i).toInt ≤ 4) ∨ (10 ≤ (a_p0_yesLeads i).toInt ∧ (a_p0_yesLeads i).toInt ≤ 13) ∨ (a_p0_yesLeads i).toInt = 20)) (i3 : ∀ i : Nat, ((i : Int) < (v_p0_units).toInt) → ((0 ≤ (a_p0_noLeads i).toInt ∧ (a_p0_noLeads i).toInt ≤ 4) ∨ (10 ≤ (a_p0_noLeads i).toInt ∧ (a_p0_noLeads i).toInt ≤ 13) ∨ (a_p0_noLeads i).toInt = 20)) (i4 : ∀ i : Nat, (i < 5) → (0 ≤ (a_p1 i).toInt ∧ (a_p1 i).toInt ≤ 2)) (i5 : 0 ≤ (z3).toInt) (i6 : (z3).toInt ≤ 4) (i7 : 0 ≤ (x3).toInt) (i8 : (x3).toInt ≤ 4) (i9 : 0 ≤ (x4).toInt) (i10 : (x4).toInt ≤ (v_p0_units).toInt) (hmu : (5 - (x4).toInt).toNat ≤ mB19) : OK (FX0_layRows_19 n v_p0_units a_p1 a_p0_percents a_p0_yesLeads a_p0_noLeads z3 k19 a_rows a_outs x3 x4) (fun u => True) := by
  unfold FX0_layRows_19
  refine OK_if (fun c310 => ?_) (fun c310 => ?_)
  · have f311 := le32k rfl rfl c310
    exact OK_some trivial
  · have f312 := nle32k rfl rfl c310
    refine OK_ck (ckV rfl (by omega) (by omega)) ?_
    obtain ⟨m313, v314, f315⟩ := tnV (e := x4) rfl (by omega)
    have v316 : HQ ((a_p1 ((x4).toNatClampNeg))).toInt (a_p1 m313).toInt := HQ.mk (by rw [v314.out])
    have f317 := i4 m313
    refine OK_bd (sX2_byYes n hn a_p0_percents x4 (a_p1 ((x4).toNatClampNeg)) x3 i9 (by omega) (by (rw [v316.out]) <;> omega) (by (rw [v316.out]) <;> omega) i7 i8) (fun u_8 p_u_8 => ?_)
    have v318 : HQ ((5 : Int32)).toInt 5 := HQ.mk (by decide)
    have v319 : HQ ((x4 * (5 : Int32))).toInt ((x4).toInt * 5) := HQ.mk (mulV rfl v318.out (by omega) (by omega))
    have v320 : HQ (((x4 * (5 : Int32)) + x4)).toInt (((x4).toInt * 5) + (x4).toInt) := HQ.mk (addV v319.out rfl (by omega) (by omega))
    refine OK_lt (fun x_9 e_x_9 => ?_)
    have f321 : (x_9).toInt = (((x4).toInt * 5) + (x4).toInt) := by rw [e_x_9]; exact v320.out
    refine OK_ck (ckV rfl (by omega) (by omega)) ?_
    refine OK_lt (fun x_11 e_x_11 => ?_)
    refine OK_ck (ckV rfl (by omega) (by omega)) ?_
    obtain ⟨m322, v323, f324⟩ := tnV (e := x_9) rfl (by omega)
    refine OK_lt (fun f_13 e_f_13 => ?_)
    rw [v323.out] at e_f_13
    refine OK_ck (ckV rfl (by omega) (by omega)) ?_
    have v325 : HQ ((a_p0_yesLeads ((x4).toNatClampNeg))).toInt (a_p0_yesLeads m313).toInt := HQ.mk (by rw [v314.out])
    have f326 := i2 m313
    refine OK_bd (sX0_send n hn a_outs f_13 x4 (a_p0_yesLeads ((x4).toNatClampNeg)) u_8.1 i9 (by omega) (by (rw [v325.out]) <;> omega)) (fun u_16 p_u_16 => ?_)
    refine OK_ck (ckV rfl (by omega) (by omega)) ?_
    have v327 : HQ ((a_p0_noLeads ((x4).toNatClampNeg))).toInt (a_p0_noLeads m313).toInt := HQ.mk (by rw [v314.out])
    have f328 := i3 m313
    refine OK_bd (sX0_send n hn u_16.2.1 u_16.2.2 x4 (a_p0_noLeads ((x4).toNatClampNeg)) ((100 : Int32) - u_8.1) i9 (by omega) (by (rw [v327.out]) <;> omega)) (fun u_19 p_u_19 => ?_)
    have v329 : HQ ((1 : Int32)).toInt 1 := HQ.mk (by decide)
    have v330 : HQ ((x4 + (1 : Int32))).toInt ((x4).toInt + 1) := HQ.mk (addV rfl v329.out (by omega) (by omega))
    refine OK_lt (fun x_20 e_x_20 => ?_)
    have f331 : (x_20).toInt = ((x4).toInt + 1) := by rw [e_x_20]; exact v330.out
    exact hk19 u_19.2.2 u_19.2.1 x3 x_20 i0 i1 i2 i3 i4 i5 i6 i7 i8 (by omega) (by omega) (by omega)
theorem sFX0_layRows_19L (n : Nat) (hn : n = 2200000000) (v_p0_units : Int32) (a_p1 : Nat → Int32) (a_p0_percents : Nat → Int32) (a_p0_yesLeads : Nat → Int32) (a_p0_noLeads : Nat → Int32) (z3 : Int32) : ∀ (j : Nat) (a_rows : Nat → Int32) (a_outs : Nat → Int32) (x3 : Int32) (x4 : Int32), (0 ≤ (v_p0_units).toInt) → ((v_p0_units).toInt ≤ 5) → (∀ i : Nat, ((i : Int) < (v_p0_units).toInt) → ((0 ≤ (a_p0_yesLeads i).toInt ∧ (a_p0_yesLeads i).toInt ≤ 4) ∨ (10 ≤ (a_p0_yesLeads i).toInt ∧ (a_p0_yesLeads i).toInt ≤ 13) ∨ (a_p0_yesLeads i).toInt = 20)) → (∀ i : Nat, ((i : Int) < (v_p0_units).toInt) → ((0 ≤ (a_p0_noLeads i).toInt ∧ (a_p0_noLeads i).toInt ≤ 4) ∨ (10 ≤ (a_p0_noLeads i).toInt ∧ (a_p0_noLeads i).toInt ≤ 13) ∨ (a_p0_noLeads i).toInt = 20)) → (∀ i : Nat, (i < 5) → (0 ≤ (a_p1 i).toInt ∧ (a_p1 i).toInt ≤ 2)) → (0 ≤ (z3).toInt) → ((z3).toInt ≤ 4) → (0 ≤ (x3).toInt) → ((x3).toInt ≤ 4) → (0 ≤ (x4).toInt) → ((x4).toInt ≤ (v_p0_units).toInt) → (5 - (x4).toInt).toNat < j → OK (FX0_layRows_19L n v_p0_units a_p1 a_p0_percents a_p0_yesLeads a_p0_noLeads z3 j a_rows a_outs x3 x4) (fun u => True) := by
  intro j
  induction j with
  | zero => intro _ _ _ _ _ _ _ _ _ _ _ _ _ _ _ hj; exact absurd hj (Nat.not_lt_zero _)
  | succ j ih =>
    intro a_rows a_outs x3 x4 i0 i1 i2 i3 i4 i5 i6 i7 i8 i9 i10 hj
    exact sFX0_layRows_19 n hn v_p0_units a_p1 a_p0_percents a_p0_yesLeads a_p0_noLeads z3 (FX0_layRows_19L n v_p0_units a_p1 a_p0_percents a_p0_yesLeads a_p0_noLeads z3 j) ((5 - (x4).toInt).toNat) (fun y0 y1 y2 y3 w0 w1 w2 w3 w4 w5 w6 w7 w8 w9 w10 hlt => ih y0 y1 y2 y3 w0 w1 w2 w3 w4 w5 w6 w7 w8 w9 w10 (by omega)) a_rows a_outs x3 x4 i0 i1 i2 i3 i4 i5 i6 i7 i8 i9 i10 (Nat.le_refl _)
set_option maxHeartbeats 2000000 in
theorem sX0_layRows (n : Nat) (hn : n = 2200000000) (v_p0_units : Int32) (a_p1 : Nat → Int32) (a_rows : Nat → Int32) (a_outs : Nat → Int32) (a_p0_percents : Nat → Int32) (a_p0_yesLeads : Nat → Int32) (a_p0_noLeads : Nat → Int32) (z3 : Int32) (i0 : 0 ≤ (v_p0_units).toInt) (i1 : (v_p0_units).toInt ≤ 5) (i2 : ∀ i : Nat, ((i : Int) < (v_p0_units).toInt) → ((0 ≤ (a_p0_yesLeads i).toInt ∧ (a_p0_yesLeads i).toInt ≤ 4) ∨ (10 ≤ (a_p0_yesLeads i).toInt ∧ (a_p0_yesLeads i).toInt ≤ 13) ∨ (a_p0_yesLeads i).toInt = 20)) (i3 : ∀ i : Nat, ((i : Int) < (v_p0_units).toInt) → ((0 ≤ (a_p0_noLeads i).toInt ∧ (a_p0_noLeads i).toInt ≤ 4) ∨ (10 ≤ (a_p0_noLeads i).toInt ∧ (a_p0_noLeads i).toInt ≤ 13) ∨ (a_p0_noLeads i).toInt = 20)) (i4 : ∀ i : Nat, (i < 5) → (0 ≤ (a_p1 i).toInt ∧ (a_p1 i).toInt ≤ 2)) (i5 : 0 ≤ (z3).toInt) (i6 : (z3).toInt ≤ 4) : OK (FX0_layRows n v_p0_units a_p1 a_rows a_outs a_p0_percents a_p0_yesLeads a_p0_noLeads z3) (fun u => True) := by
  unfold FX0_layRows
  refine OK_bd (sJ7_fill_53178 n hn 25 a_rows (0 : Int32) (by omega)) (fun u_2 p_u_2 => ?_)
  have p332 := p_u_2
  clear p_u_2
  have v333 : HQ ((0 : Int32)).toInt 0 := HQ.mk (by decide)
  try simp only [v333.out] at p332
  refine OK_bd (sJ7_fill_53178 n hn 25 a_outs (0 : Int32) (by omega)) (fun u_4 p_u_4 => ?_)
  have p334 := p_u_4
  clear p_u_4
  try simp only [v333.out] at p334
  exact sFX0_layRows_19L n hn v_p0_units a_p1 a_p0_percents a_p0_yesLeads a_p0_noLeads z3 n u_2.2 u_4.2 z3 (0 : Int32) i0 i1 i2 i3 i4 i5 i6 i5 i6 (by (rw [v333.out]) <;> omega) (by (rw [v333.out]) <;> omega) (by (rw [v333.out]) <;> omega)
set_option maxHeartbeats 2000000 in
theorem sFX0_minorOf_64 (n : Nat) (hn : n = 2200000000) (a_rows : Nat → Int32) (a_minors : Nat → Int64) (z1 : Int32) (z2 : Int32) (z3 : Int32) (k11 : Int32 → Int32 → Int64 → Int64 → Int32 → Option (Int64 × Unit)) (mB11 : Nat) (hk11 : ∀ (x1 : Int32) (x2 : Int32) (x4 : Int64) (x6 : Int64) (x8 : Int32), (0 ≤ (z1).toInt) → ((z1).toInt ≤ 31) → (0 ≤ (z2).toInt) → ((z2).toInt ≤ 4) → (0 ≤ (z3).toInt) → ((z3).toInt ≤ 5) → (0 ≤ (x1).toInt) → ((x1).toInt ≤ 31) → (0 ≤ (x2).toInt) → ((x2).toInt ≤ 4) → (-1 ≤ (x8).toInt) → ((x8).toInt ≤ 4) → ((x8).toInt + 1).toNat < mB11 → OK (k11 x1 x2 x4 x6 x8) (fun u => True)) (x1 : Int32) (x2 : Int32) (x4 : Int64) (x6 : Int64) (x8 : Int32) (i0 : 0 ≤ (z1).toInt) (i1 : (z1).toInt ≤ 31) (i2 : 0 ≤ (z2).toInt) (i3 : (z2).toInt ≤ 4) (i4 : 0 ≤ (z3).toInt) (i5 : (z3).toInt ≤ 5) (i6 : 0 ≤ (x1).toInt) (i7 : (x1).toInt ≤ 31) (i8 : 0 ≤ (x2).toInt) (i9 : (x2).toInt ≤ 4) (i10 : 0 ≤ (x8).toInt) (i11 : (x8).toInt ≤ 4) (i12 : ((x8).toInt + 1).toNat ≤ mB11) : OK (FX0_minorOf_64 n a_rows a_minors z1 z2 z3 k11 x1 x2 x4 x6 x8) (fun u => True) := by
  unfold FX0_minorOf_64
  have v335 : HQ ((-1 : Int32)).toInt (-1) := HQ.mk (by decide)
  have v336 : HQ ((x8 + (-1 : Int32))).toInt ((x8).toInt + (-1)) := HQ.mk (addV rfl v335.out (by omega) (by omega))
  refine OK_lt (fun x_9 e_x_9 => ?_)
  have f337 : (x_9).toInt = ((x8).toInt + (-1)) := by rw [e_x_9]; exact v336.out
  exact hk11 x1 x2 x4 x6 x_9 i0 i1 i2 i3 i4 i5 i6 i7 i8 i9 (by omega) (by omega) (by omega)
set_option maxHeartbeats 2000000 in
theorem sFX0_minorOf_11 (n : Nat) (hn : n = 2200000000) (a_rows : Nat → Int32) (a_minors : Nat → Int64) (z1 : Int32) (z2 : Int32) (z3 : Int32) (k11 : Int32 → Int32 → Int64 → Int64 → Int32 → Option (Int64 × Unit)) (mB11 : Nat) (hk11 : ∀ (x1 : Int32) (x2 : Int32) (x4 : Int64) (x6 : Int64) (x8 : Int32), (0 ≤ (z1).toInt) → ((z1).toInt ≤ 31) → (0 ≤ (z2).toInt) → ((z2).toInt ≤ 4) → (0 ≤ (z3).toInt) → ((z3).toInt ≤ 5) → (0 ≤ (x1).toInt) → ((x1).toInt ≤ 31) → (0 ≤ (x2).toInt) → ((x2).toInt ≤ 4) → (-1 ≤ (x8).toInt) → ((x8).toInt ≤ 4) → ((x8).toInt + 1).toNat < mB11 → OK (k11 x1 x2 x4 x6 x8) (fun u => True)) (x1 : Int32) (x2 : Int32) (x4 : Int64) (x6 : Int64) (x8 : Int32) (i0 : 0 ≤ (z1).toInt) (i1 : (z1).toInt ≤ 31) (i2 : 0 ≤ (z2).toInt) (i3 : (z2).toInt ≤ 4) (i4 : 0 ≤ (z3).toInt) (i5 : (z3).toInt ≤ 5) (i6 : 0 ≤ (x1).toInt) (i7 : (x1).toInt ≤ 31) (i8 : 0 ≤ (x2).toInt) (i9 : (x2).toInt ≤ 4) (i10 : -1 ≤ (x8).toInt) (i11 : (x8).toInt ≤ 4) (hmu : ((x8).toInt + 1).toNat ≤ mB11) : OK (FX0_minorOf_11 n a_rows a_minors z1 z2 z3 k11 x1 x2 x4 x6 x8) (fun u => True) := by
  unfold FX0_minorOf_11
  refine OK_if (fun c338 => ?_) (fun c338 => ?_)
  · have v339 : HQ ((0 : Int32)).toInt 0 := HQ.mk (by decide)
    have f340 := lt32k rfl v339.out c338
    exact OK_some trivial
  · have v341 : HQ ((0 : Int32)).toInt 0 := HQ.mk (by decide)
    have f342 := nlt32k rfl v341.out c338
    obtain ⟨y343, v344, f345, f346⟩ := shlV x8 (by omega) (by omega)
    refine OK_lt (fun x_3 e_x_3 => ?_)
    have f347 : (x_3).toInt = y343 := by rw [e_x_3]; exact v344.out
    refine OK_if (fun c348 => ?_) (fun c348 => ?_)
    · exact sFX0_minorOf_64 n hn a_rows a_minors z1 z2 z3 k11 mB11 hk11 x1 x2 x4 x6 x8 i0 i1 i2 i3 i4 i5 i6 i7 i8 i9 (by omega) i11 (by omega)
    · have f349 := bitF x1 x_3 x8 e_x_3 (by omega) (by omega) (by omega) (by omega) c348
      have v350 : HQ ((5 : Int32)).toInt 5 := HQ.mk (by decide)
      have v351 : HQ ((x8 * (5 : Int32))).toInt ((x8).toInt * 5) := HQ.mk (mulV rfl v350.out (by omega) (by omega))
      have v352 : HQ (((x8 * (5 : Int32)) + x2)).toInt (((x8).toInt * 5) + (x2).toInt) := HQ.mk (addV v351.out rfl (by omega) (by omega))
      refine OK_ck (ckV v352.out (by omega) (by omega)) ?_
      have v353 : HQ ((x1 - x_3)).toInt ((x1).toInt - (x_3).toInt) := HQ.mk (subV rfl rfl (by omega) (by omega))
      refine OK_ck (ckV v353.out (by omega) (by omega)) ?_
      refine OK_lt (fun x_7 e_x_7 => ?_)
      refine OK_lt (fun x_8 e_x_8 => ?_)
      exact sFX0_minorOf_64 n hn a_rows a_minors z1 z2 z3 k11 mB11 hk11 x1 x2 x_7 x_8 x8 i0 i1 i2 i3 i4 i5 i6 i7 i8 i9 (by omega) i11 (by omega)
theorem sFX0_minorOf_11L (n : Nat) (hn : n = 2200000000) (a_rows : Nat → Int32) (a_minors : Nat → Int64) (z1 : Int32) (z2 : Int32) (z3 : Int32) : ∀ (j : Nat) (x1 : Int32) (x2 : Int32) (x4 : Int64) (x6 : Int64) (x8 : Int32), (0 ≤ (z1).toInt) → ((z1).toInt ≤ 31) → (0 ≤ (z2).toInt) → ((z2).toInt ≤ 4) → (0 ≤ (z3).toInt) → ((z3).toInt ≤ 5) → (0 ≤ (x1).toInt) → ((x1).toInt ≤ 31) → (0 ≤ (x2).toInt) → ((x2).toInt ≤ 4) → (-1 ≤ (x8).toInt) → ((x8).toInt ≤ 4) → ((x8).toInt + 1).toNat < j → OK (FX0_minorOf_11L n a_rows a_minors z1 z2 z3 j x1 x2 x4 x6 x8) (fun u => True) := by
  intro j
  induction j with
  | zero => intro _ _ _ _ _ _ _ _ _ _ _ _ _ _ _ _ _ hj; exact absurd hj (Nat.not_lt_zero _)
  | succ j ih =>
    intro x1 x2 x4 x6 x8 i0 i1 i2 i3 i4 i5 i6 i7 i8 i9 i10 i11 hj
    exact sFX0_minorOf_11 n hn a_rows a_minors z1 z2 z3 (FX0_minorOf_11L n a_rows a_minors z1 z2 z3 j) (((x8).toInt + 1).toNat) (fun y0 y1 y2 y3 y4 w0 w1 w2 w3 w4 w5 w6 w7 w8 w9 w10 w11 hlt => ih y0 y1 y2 y3 y4 w0 w1 w2 w3 w4 w5 w6 w7 w8 w9 w10 w11 (by omega)) x1 x2 x4 x6 x8 i0 i1 i2 i3 i4 i5 i6 i7 i8 i9 i10 i11 (Nat.le_refl _)
set_option maxHeartbeats 2000000 in
theorem sX0_minorOf (n : Nat) (hn : n = 2200000000) (a_rows : Nat → Int32) (a_minors : Nat → Int64) (z1 : Int32) (z2 : Int32) (z3 : Int32) (i0 : 0 ≤ (z1).toInt) (i1 : (z1).toInt ≤ 31) (i2 : 0 ≤ (z2).toInt) (i3 : (z2).toInt ≤ 4) (i4 : 0 ≤ (z3).toInt) (i5 : (z3).toInt ≤ 5) : OK (FX0_minorOf n a_rows a_minors z1 z2 z3) (fun u => True) := by
  unfold FX0_minorOf
  have v354 : HQ ((1 : Int32)).toInt 1 := HQ.mk (by decide)
  have v355 : HQ ((z3 - (1 : Int32))).toInt ((z3).toInt - 1) := HQ.mk (subV rfl v354.out (by omega) (by omega))
  refine OK_lt (fun x_1 e_x_1 => ?_)
  have f356 : (x_1).toInt = ((z3).toInt - 1) := by rw [e_x_1]; exact v355.out
  exact sFX0_minorOf_11L n hn a_rows a_minors z1 z2 z3 n z1 z2 (0 : Int64) (1 : Int64) x_1 i0 i1 i2 i3 i4 i5 i0 i1 i2 i3 (by omega) (by omega) (by omega)
