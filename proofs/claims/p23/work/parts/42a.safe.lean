set_option maxHeartbeats 2000000 in
theorem sX2_byYes (n : Nat) (hn : n = 2200000000) (a_percents : Nat → Int32) (z1 : Int32) (z2 : Int32) (z3 : Int32) (i0 : 0 ≤ (z1).toInt) (i1 : (z1).toInt ≤ 4) (i2 : 0 ≤ (z2).toInt) (i3 : (z2).toInt ≤ 2) (i4 : 0 ≤ (z3).toInt) (i5 : (z3).toInt ≤ 4) : OK (FX2_byYes n a_percents z1 z2 z3) (fun u => True) := by
  unfold FX2_byYes
  have v1 : HQ ((3 : Int32)).toInt 3 := HQ.mk (by decide)
  have v2 : HQ ((z1 * (3 : Int32))).toInt ((z1).toInt * 3) := HQ.mk (mulV rfl v1.out (by omega) (by omega))
  have v3 : HQ (((z1 * (3 : Int32)) + z2)).toInt (((z1).toInt * 3) + (z2).toInt) := HQ.mk (addV v2.out rfl (by omega) (by omega))
  have v4 : HQ ((5 : Int32)).toInt 5 := HQ.mk (by decide)
  have v5 : HQ ((((z1 * (3 : Int32)) + z2) * (5 : Int32))).toInt ((((z1).toInt * 3) + (z2).toInt) * 5) := HQ.mk (mulV v3.out v4.out (by omega) (by omega))
  have v6 : HQ (((((z1 * (3 : Int32)) + z2) * (5 : Int32)) + z3)).toInt (((((z1).toInt * 3) + (z2).toInt) * 5) + (z3).toInt) := HQ.mk (addV v5.out rfl (by omega) (by omega))
  refine OK_ck (ckV v6.out (by omega) (by omega)) ?_
  exact OK_some trivial
set_option maxHeartbeats 2000000 in
theorem sX2_clear (n : Nat) (hn : n = 2200000000) (v_units : Int32) (a_settings : Nat → Int32) (a_percents : Nat → Int32) (a_grades : Nat → Int32) : OK (FX2_clear n v_units a_settings a_percents a_grades) (fun u => ((u.2.1).toInt = 0) ∧ (∀ i : Nat, (i < 5) → ((u.2.2.1 i).toInt = 0)) ∧ (∀ i : Nat, (i < 4) → ((u.2.2.2.2 i).toInt = 0))) := by
  unfold FX2_clear
  refine OK_bd (sJ7_fill_53178 n hn 5 a_settings (0 : Int32) (by omega)) (fun u_2 p_u_2 => ?_)
  have p7 := p_u_2
  clear p_u_2
  have v8 : HQ ((0 : Int32)).toInt 0 := HQ.mk (by decide)
  try simp only [v8.out] at p7
  refine OK_bd (sJ7_fill_53178 n hn 75 a_percents (0 : Int32) (by omega)) (fun u_4 p_u_4 => ?_)
  have p9 := p_u_4
  clear p_u_4
  try simp only [v8.out] at p9
  refine OK_bd (sJ7_fill_53178 n hn 4 a_grades (0 : Int32) (by omega)) (fun u_6 p_u_6 => ?_)
  have p10 := p_u_6
  clear p_u_6
  try simp only [v8.out] at p10
  exact OK_some (show (((0 : Int32)).toInt = 0) ∧ (∀ i : Nat, (i < 5) → ((u_2.2 i).toInt = 0)) ∧ (∀ i : Nat, (i < 4) → ((u_6.2 i).toInt = 0)) from ⟨(by (rw [v8.out]) <;> omega), (by
      intro i hi
      have f11 := p7 i
      omega), (by
      intro i hi
      have f12 := p10 i
      omega)⟩)
set_option maxHeartbeats 2000000 in
theorem sFX2_hasGrade_2 (n : Nat) (hn : n = 2200000000) (a_grades : Nat → Int32) (a_gradePurities : Nat → Int32) (z1 : Int32) (z2 : Int32) (k2 : Int32 → Int32 → Int32 → Option (Int32 × Unit)) (mB2 : Nat) (hk2 : ∀ (x1 : Int32) (x2 : Int32) (x3 : Int32), (0 ≤ (z1).toInt) → ((z1).toInt ≤ 3) → (∀ i : Nat, (i < 4) → (0 ≤ (a_grades i).toInt ∧ (a_grades i).toInt ≤ 4)) → (0 ≤ (x1).toInt) → ((x1).toInt ≤ 3) → (0 ≤ (x3).toInt) → ((x3).toInt ≤ 4) → (4 - (x3).toInt).toNat < mB2 → OK (k2 x1 x2 x3) (fun u => True)) (x1 : Int32) (x2 : Int32) (x3 : Int32) (i0 : 0 ≤ (z1).toInt) (i1 : (z1).toInt ≤ 3) (i2 : ∀ i : Nat, (i < 4) → (0 ≤ (a_grades i).toInt ∧ (a_grades i).toInt ≤ 4)) (i3 : 0 ≤ (x1).toInt) (i4 : (x1).toInt ≤ 3) (i5 : 0 ≤ (x3).toInt) (i6 : (x3).toInt ≤ 4) (hmu : (4 - (x3).toInt).toNat ≤ mB2) : OK (FX2_hasGrade_2 n a_grades a_gradePurities z1 z2 k2 x1 x2 x3) (fun u => True) := by
  unfold FX2_hasGrade_2
  refine OK_ck (ckV rfl (by omega) (by omega)) ?_
  refine OK_if (fun c13 => ?_) (fun c13 => ?_)
  · obtain ⟨m14, v15, f16⟩ := tnV (e := x1) rfl (by omega)
    have v17 : HQ ((a_grades ((x1).toNatClampNeg))).toInt (a_grades m14).toInt := HQ.mk (by rw [v15.out])
    have f18 := i2 m14
    have f19 := le32k v17.out rfl c13
    exact OK_some trivial
  · obtain ⟨m20, v21, f22⟩ := tnV (e := x1) rfl (by omega)
    have v23 : HQ ((a_grades ((x1).toNatClampNeg))).toInt (a_grades m20).toInt := HQ.mk (by rw [v21.out])
    have f24 := i2 m20
    have f25 := nle32k v23.out rfl c13
    have v26 : HQ ((4 : Int32)).toInt 4 := HQ.mk (by decide)
    have v27 : HQ ((x1 * (4 : Int32))).toInt ((x1).toInt * 4) := HQ.mk (mulV rfl v26.out (by omega) (by omega))
    have v28 : HQ (((x1 * (4 : Int32)) + x3)).toInt (((x1).toInt * 4) + (x3).toInt) := HQ.mk (addV v27.out rfl (by omega) (by omega))
    refine OK_ck (ckV v28.out (by omega) (by omega)) ?_
    refine OK_if (fun c29 => ?_) (fun c29 => ?_)
    · obtain ⟨m30, v31, f32⟩ := tnV (e := ((x1 * (4 : Int32)) + x3)) v28.out (by omega)
      have v33 : HQ ((a_gradePurities ((((x1 * (4 : Int32)) + x3)).toNatClampNeg))).toInt (a_gradePurities m30).toInt := HQ.mk (by rw [v31.out])
      have f34 := eq32k v33.out rfl c29
      exact OK_some trivial
    · obtain ⟨m35, v36, f37⟩ := tnV (e := ((x1 * (4 : Int32)) + x3)) v28.out (by omega)
      have v38 : HQ ((a_gradePurities ((((x1 * (4 : Int32)) + x3)).toNatClampNeg))).toInt (a_gradePurities m35).toInt := HQ.mk (by rw [v36.out])
      have f39 := neq32k v38.out rfl c29
      have v40 : HQ ((1 : Int32)).toInt 1 := HQ.mk (by decide)
      have v41 : HQ ((x3 + (1 : Int32))).toInt ((x3).toInt + 1) := HQ.mk (addV rfl v40.out (by omega) (by omega))
      refine OK_lt (fun x_5 e_x_5 => ?_)
      have f42 : (x_5).toInt = ((x3).toInt + 1) := by rw [e_x_5]; exact v41.out
      exact hk2 x1 x2 x_5 i0 i1 i2 i3 i4 (by omega) (by omega) (by omega)
theorem sFX2_hasGrade_2L (n : Nat) (hn : n = 2200000000) (a_grades : Nat → Int32) (a_gradePurities : Nat → Int32) (z1 : Int32) (z2 : Int32) : ∀ (j : Nat) (x1 : Int32) (x2 : Int32) (x3 : Int32), (0 ≤ (z1).toInt) → ((z1).toInt ≤ 3) → (∀ i : Nat, (i < 4) → (0 ≤ (a_grades i).toInt ∧ (a_grades i).toInt ≤ 4)) → (0 ≤ (x1).toInt) → ((x1).toInt ≤ 3) → (0 ≤ (x3).toInt) → ((x3).toInt ≤ 4) → (4 - (x3).toInt).toNat < j → OK (FX2_hasGrade_2L n a_grades a_gradePurities z1 z2 j x1 x2 x3) (fun u => True) := by
  intro j
  induction j with
  | zero => intro _ _ _ _ _ _ _ _ _ _ hj; exact absurd hj (Nat.not_lt_zero _)
  | succ j ih =>
    intro x1 x2 x3 i0 i1 i2 i3 i4 i5 i6 hj
    exact sFX2_hasGrade_2 n hn a_grades a_gradePurities z1 z2 (FX2_hasGrade_2L n a_grades a_gradePurities z1 z2 j) ((4 - (x3).toInt).toNat) (fun y0 y1 y2 w0 w1 w2 w3 w4 w5 w6 hlt => ih y0 y1 y2 w0 w1 w2 w3 w4 w5 w6 (by omega)) x1 x2 x3 i0 i1 i2 i3 i4 i5 i6 (Nat.le_refl _)
set_option maxHeartbeats 2000000 in
theorem sX2_hasGrade (n : Nat) (hn : n = 2200000000) (a_grades : Nat → Int32) (a_gradePurities : Nat → Int32) (z1 : Int32) (z2 : Int32) (i0 : 0 ≤ (z1).toInt) (i1 : (z1).toInt ≤ 3) (i2 : ∀ i : Nat, (i < 4) → (0 ≤ (a_grades i).toInt ∧ (a_grades i).toInt ≤ 4)) : OK (FX2_hasGrade n a_grades a_gradePurities z1 z2) (fun u => True) := by
  unfold FX2_hasGrade
  have v43 : HQ ((0 : Int32)).toInt 0 := HQ.mk (by decide)
  exact sFX2_hasGrade_2L n hn a_grades a_gradePurities z1 z2 n z1 z2 (0 : Int32) i0 i1 i2 i0 i1 (by (rw [v43.out]) <;> omega) (by (rw [v43.out]) <;> omega) (by (rw [v43.out]) <;> omega)
set_option maxHeartbeats 2000000 in
theorem sX2_addGrade (n : Nat) (hn : n = 2200000000) (a_grades : Nat → Int32) (a_gradeKinds : Nat → Int32) (a_gradePurities : Nat → Int32) (a_gradePrices : Nat → Int32) (z1 : Int32) (z2 : Int32) (z3 : Int32) (z4 : Int32) (i0 : 0 ≤ (z1).toInt) (i1 : (z1).toInt ≤ 3) (i2 : 0 ≤ (z2).toInt) (i3 : (z2).toInt ≤ 4) (i4 : ∀ i : Nat, (i < 4) → (0 ≤ (a_grades i).toInt ∧ (a_grades i).toInt ≤ 4)) (i5 : ∀ i : Nat, (i < 4) → (0 ≤ (a_gradeKinds i).toInt ∧ (a_gradeKinds i).toInt ≤ 4)) : OK (FX2_addGrade n a_grades a_gradeKinds a_gradePurities a_gradePrices z1 z2 z3 z4) (fun u => (∀ i : Nat, (i < 4) → (0 ≤ (u.2.1 i).toInt ∧ (u.2.1 i).toInt ≤ 4)) ∧ (∀ i : Nat, (i < 4) → (0 ≤ (u.2.2.1 i).toInt ∧ (u.2.2.1 i).toInt ≤ 4))) := by
  unfold FX2_addGrade
  refine OK_ck (ckV rfl (by omega) (by omega)) ?_
  refine OK_if (fun c44 => ?_) (fun c44 => ?_)
  · obtain ⟨m45, v46, f47⟩ := tnV (e := z1) rfl (by omega)
    have v48 : HQ ((a_grades ((z1).toNatClampNeg))).toInt (a_grades m45).toInt := HQ.mk (by rw [v46.out])
    have f49 := i4 m45
    have v50 : HQ ((4 : Int32)).toInt 4 := HQ.mk (by decide)
    have f51 := lt32k v48.out v50.out c44
    refine OK_ck (ckV rfl (by omega) (by omega)) ?_
    have v52 : HQ ((z1 * (4 : Int32))).toInt ((z1).toInt * 4) := HQ.mk (mulV rfl v50.out (by omega) (by omega))
    have v53 : HQ (((z1 * (4 : Int32)) + (a_grades ((z1).toNatClampNeg)))).toInt (((z1).toInt * 4) + (a_grades m45).toInt) := HQ.mk (addV v52.out v48.out (by omega) (by omega))
    refine OK_lt (fun x_4 e_x_4 => ?_)
    have f54 : (x_4).toInt = (((z1).toInt * 4) + (a_grades m45).toInt) := by rw [e_x_4]; exact v53.out
    refine OK_ck (ckV rfl (by omega) (by omega)) ?_
    refine OK_lt (fun f_6 e_f_6 => ?_)
    rw [v46.out] at e_f_6
    refine OK_ck (ckV rfl (by omega) (by omega)) ?_
    obtain ⟨m55, v56, f57⟩ := tnV (e := x_4) rfl (by omega)
    refine OK_lt (fun f_8 e_f_8 => ?_)
    rw [v56.out] at e_f_8
    refine OK_ck (ckV rfl (by omega) (by omega)) ?_
    refine OK_lt (fun f_10 e_f_10 => ?_)
    rw [v56.out] at e_f_10
    refine OK_ck (ckV rfl (by omega) (by omega)) ?_
    have v58 : HQ ((1 : Int32)).toInt 1 := HQ.mk (by decide)
    have v59 : HQ (((a_grades ((z1).toNatClampNeg)) + (1 : Int32))).toInt ((a_grades m45).toInt + 1) := HQ.mk (addV v48.out v58.out (by omega) (by omega))
    refine OK_lt (fun x_12 e_x_12 => ?_)
    have f60 : (x_12).toInt = ((a_grades m45).toInt + 1) := by rw [e_x_12]; exact v59.out
    refine OK_ck (ckV rfl (by omega) (by omega)) ?_
    refine OK_lt (fun f_14 e_f_14 => ?_)
    rw [v46.out] at e_f_14
    exact OK_some (show (∀ i : Nat, (i < 4) → (0 ≤ (f_14 i).toInt ∧ (f_14 i).toInt ≤ 4)) ∧ (∀ i : Nat, (i < 4) → (0 ≤ (f_6 i).toInt ∧ (f_6 i).toInt ≤ 4)) from ⟨(by
        intro i hi
        have f61 := updW e_f_14 rfl i
        have f62 := i4 i
        have f63 := congAt a_grades i m45
        omega), (by
        intro i hi
        have f64 := updW e_f_6 rfl i
        have f65 := i5 i
        omega)⟩)
  · obtain ⟨m66, v67, f68⟩ := tnV (e := z1) rfl (by omega)
    have v69 : HQ ((a_grades ((z1).toNatClampNeg))).toInt (a_grades m66).toInt := HQ.mk (by rw [v67.out])
    have f70 := i4 m66
    have v71 : HQ ((4 : Int32)).toInt 4 := HQ.mk (by decide)
    have f72 := nlt32k v69.out v71.out c44
    exact OK_some (show (∀ i : Nat, (i < 4) → (0 ≤ (a_grades i).toInt ∧ (a_grades i).toInt ≤ 4)) ∧ (∀ i : Nat, (i < 4) → (0 ≤ (a_gradeKinds i).toInt ∧ (a_gradeKinds i).toInt ≤ 4)) from ⟨i4, i5⟩)
set_option maxHeartbeats 2000000 in
theorem sX2_addSetting (n : Nat) (hn : n = 2200000000) (a_p1 : Nat → Int32) (a_settings : Nat → Int32) (a_percents : Nat → Int32) (z1 : Int32) (z3 : Int32) (i0 : 0 ≤ (z1).toInt) (i1 : (z1).toInt ≤ 4) (i2 : 0 ≤ (z3).toInt) (i3 : (z3).toInt ≤ 395) (i4 : ∀ i : Nat, (i < 5) → (0 ≤ (a_settings i).toInt ∧ (a_settings i).toInt ≤ 3)) : OK (FX2_addSetting n a_p1 a_settings a_percents z1 z3) (fun u => (∀ i : Nat, (i < 5) → (0 ≤ (u.2.1 i).toInt ∧ (u.2.1 i).toInt ≤ 3))) := by
  unfold FX2_addSetting
  refine OK_ck (ckV rfl (by omega) (by omega)) ?_
  refine OK_if (fun c73 => ?_) (fun c73 => ?_)
  · obtain ⟨m74, v75, f76⟩ := tnV (e := z1) rfl (by omega)
    have v77 : HQ ((a_settings ((z1).toNatClampNeg))).toInt (a_settings m74).toInt := HQ.mk (by rw [v75.out])
    have f78 := i4 m74
    have v79 : HQ ((3 : Int32)).toInt 3 := HQ.mk (by decide)
    have f80 := lt32k v77.out v79.out c73
    refine OK_ck (ckV rfl (by omega) (by omega)) ?_
    have v81 : HQ ((z1 * (3 : Int32))).toInt ((z1).toInt * 3) := HQ.mk (mulV rfl v79.out (by omega) (by omega))
    have v82 : HQ (((z1 * (3 : Int32)) + (a_settings ((z1).toNatClampNeg)))).toInt (((z1).toInt * 3) + (a_settings m74).toInt) := HQ.mk (addV v81.out v77.out (by omega) (by omega))
    have v83 : HQ ((5 : Int32)).toInt 5 := HQ.mk (by decide)
    have v84 : HQ ((((z1 * (3 : Int32)) + (a_settings ((z1).toNatClampNeg))) * (5 : Int32))).toInt ((((z1).toInt * 3) + (a_settings m74).toInt) * 5) := HQ.mk (mulV v82.out v83.out (by omega) (by omega))
    refine OK_lt (fun x_4 e_x_4 => ?_)
    have f85 : (x_4).toInt = ((((z1).toInt * 3) + (a_settings m74).toInt) * 5) := by rw [e_x_4]; exact v84.out
    obtain ⟨m86, v87, f88⟩ := tnV (e := z3) rfl (by omega)
    obtain ⟨m89, v90, f91⟩ := tnV (e := (5 : Int32)) v83.out (by omega)
    obtain ⟨m92, v93, f94⟩ := tnV (e := x_4) rfl (by omega)
    refine OK_ck ⟨fun h => absurd (lt32k rfl (show (0 : Int32).toInt = 0 by decide) h) (by omega), fun h => absurd (lt32k rfl (show (0 : Int32).toInt = 0 by decide) h) (by omega), fun h => absurd (lt32k v83.out (show (0 : Int32).toInt = 0 by decide) h) (by omega), by rw [v87.out, v90.out]; omega, by rw [v93.out, v90.out]; omega⟩ ?_
    refine OK_lt (fun f_6 e_f_6 => ?_)
    try rw [v87.out] at e_f_6
    try rw [v93.out] at e_f_6
    try rw [v90.out] at e_f_6
    refine OK_ck (ckV rfl (by omega) (by omega)) ?_
    have v95 : HQ ((1 : Int32)).toInt 1 := HQ.mk (by decide)
    have v96 : HQ (((a_settings ((z1).toNatClampNeg)) + (1 : Int32))).toInt ((a_settings m74).toInt + 1) := HQ.mk (addV v77.out v95.out (by omega) (by omega))
    refine OK_lt (fun x_8 e_x_8 => ?_)
    have f97 : (x_8).toInt = ((a_settings m74).toInt + 1) := by rw [e_x_8]; exact v96.out
    refine OK_ck (ckV rfl (by omega) (by omega)) ?_
    refine OK_lt (fun f_10 e_f_10 => ?_)
    rw [v75.out] at e_f_10
    exact OK_some (show (∀ i : Nat, (i < 5) → (0 ≤ (f_10 i).toInt ∧ (f_10 i).toInt ≤ 3)) from (by
        intro i hi
        have f98 := updW e_f_10 rfl i
        have f99 := i4 i
        have f100 := congAt a_settings i m74
        omega))
  · obtain ⟨m101, v102, f103⟩ := tnV (e := z1) rfl (by omega)
    have v104 : HQ ((a_settings ((z1).toNatClampNeg))).toInt (a_settings m101).toInt := HQ.mk (by rw [v102.out])
    have f105 := i4 m101
    have v106 : HQ ((3 : Int32)).toInt 3 := HQ.mk (by decide)
    have f107 := nlt32k v104.out v106.out c73
    exact OK_some (show (∀ i : Nat, (i < 5) → (0 ≤ (a_settings i).toInt ∧ (a_settings i).toInt ≤ 3)) from i4)
