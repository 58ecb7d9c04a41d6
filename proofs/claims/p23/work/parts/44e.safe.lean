set_option maxHeartbeats 2000000 in
theorem sFX3_settle_43 (n : Nat) (hn : n = 2200000000) (v_setCount : Int32) (v_draft_units : Int32) (a_nameUnits : Nat → Int32) (a_setNames : Nat → Int32) (a_setValues : Nat → Int32) (gM : Int) (k43 : (Nat → Int32) → (Nat → Int32) → (Nat → Int32) → (Nat → Int32) → Int32 → Option (Unit × (Nat → Int32) × (Nat → Int32) × (Nat → Int32) × (Nat → Int32))) (mB43 : Nat) (hk43 : ∀ (a_draft_settings : Nat → Int32) (a_draft_percents : Nat → Int32) (a_draft_yesLeads : Nat → Int32) (a_draft_noLeads : Nat → Int32) (x1 : Int32), (0 ≤ (v_setCount).toInt) → ((v_setCount).toInt ≤ 80) → (0 ≤ (v_draft_units).toInt) → ((v_draft_units).toInt ≤ 5) → (0 ≤ gM) → (gM ≤ 96) → (∀ i : Nat, ((i : Int) < (v_setCount).toInt) → (0 ≤ (a_setNames i).toInt ∧ (a_setNames i).toInt < gM)) → (∀ i : Nat, ((i : Int) < gM) → (0 ≤ (a_nameUnits i).toInt ∧ (a_nameUnits i).toInt < (v_draft_units).toInt)) → (∀ i : Nat, (i < 5) → (0 ≤ (a_draft_settings i).toInt ∧ (a_draft_settings i).toInt ≤ 3)) → (0 ≤ (x1).toInt) → ((x1).toInt ≤ (v_draft_units).toInt) → (∀ i : Nat, ((i : Int) < (x1).toInt) → ((0 ≤ (a_draft_yesLeads i).toInt ∧ (a_draft_yesLeads i).toInt ≤ 4) ∨ (10 ≤ (a_draft_yesLeads i).toInt ∧ (a_draft_yesLeads i).toInt ≤ 13) ∨ (a_draft_yesLeads i).toInt = 20)) → (∀ i : Nat, ((i : Int) < (x1).toInt) → ((0 ≤ (a_draft_noLeads i).toInt ∧ (a_draft_noLeads i).toInt ≤ 4) ∨ (10 ≤ (a_draft_noLeads i).toInt ∧ (a_draft_noLeads i).toInt ≤ 13) ∨ (a_draft_noLeads i).toInt = 20)) → (∀ i : Nat, ((x1).toInt ≤ (i : Int) ∧ (i : Int) < (v_draft_units).toInt) → ((10 ≤ (a_draft_yesLeads i).toInt ∧ (a_draft_yesLeads i).toInt ≤ 13) ∨ (a_draft_yesLeads i).toInt = 20 ∨ (100 ≤ (a_draft_yesLeads i).toInt ∧ (a_draft_yesLeads i).toInt < 100 + gM))) → (∀ i : Nat, ((x1).toInt ≤ (i : Int) ∧ (i : Int) < (v_draft_units).toInt) → ((10 ≤ (a_draft_noLeads i).toInt ∧ (a_draft_noLeads i).toInt ≤ 13) ∨ (a_draft_noLeads i).toInt = 20 ∨ (100 ≤ (a_draft_noLeads i).toInt ∧ (a_draft_noLeads i).toInt < 100 + gM))) → (∀ i : Nat, ((i : Int) < (x1).toInt) → (1 ≤ (a_draft_settings i).toInt ∧ (a_draft_settings i).toInt ≤ 3)) → (5 - (x1).toInt).toNat < mB43 → OK (k43 a_draft_settings a_draft_percents a_draft_yesLeads a_draft_noLeads x1) (fun u => (∀ i : Nat, ((i : Int) < (v_draft_units).toInt) → ((0 ≤ (u.2.2.2.1 i).toInt ∧ (u.2.2.2.1 i).toInt ≤ 4) ∨ (10 ≤ (u.2.2.2.1 i).toInt ∧ (u.2.2.2.1 i).toInt ≤ 13) ∨ (u.2.2.2.1 i).toInt = 20)) ∧ (∀ i : Nat, ((i : Int) < (v_draft_units).toInt) → ((0 ≤ (u.2.2.2.2 i).toInt ∧ (u.2.2.2.2 i).toInt ≤ 4) ∨ (10 ≤ (u.2.2.2.2 i).toInt ∧ (u.2.2.2.2 i).toInt ≤ 13) ∨ (u.2.2.2.2 i).toInt = 20)) ∧ (∀ i : Nat, ((i : Int) < (v_draft_units).toInt) → (1 ≤ (u.2.1 i).toInt ∧ (u.2.1 i).toInt ≤ 3)))) (a_draft_settings : Nat → Int32) (a_draft_percents : Nat → Int32) (a_draft_yesLeads : Nat → Int32) (a_draft_noLeads : Nat → Int32) (x1 : Int32) (i0 : 0 ≤ (v_setCount).toInt) (i1 : (v_setCount).toInt ≤ 80) (i2 : 0 ≤ (v_draft_units).toInt) (i3 : (v_draft_units).toInt ≤ 5) (i4 : 0 ≤ gM) (i5 : gM ≤ 96) (i6 : ∀ i : Nat, ((i : Int) < (v_setCount).toInt) → (0 ≤ (a_setNames i).toInt ∧ (a_setNames i).toInt < gM)) (i7 : ∀ i : Nat, ((i : Int) < gM) → (0 ≤ (a_nameUnits i).toInt ∧ (a_nameUnits i).toInt < (v_draft_units).toInt)) (i8 : ∀ i : Nat, (i < 5) → (0 ≤ (a_draft_settings i).toInt ∧ (a_draft_settings i).toInt ≤ 3)) (i9 : 0 ≤ (x1).toInt) (i10 : (x1).toInt ≤ (v_draft_units).toInt) (i11 : ∀ i : Nat, ((i : Int) < (x1).toInt) → ((0 ≤ (a_draft_yesLeads i).toInt ∧ (a_draft_yesLeads i).toInt ≤ 4) ∨ (10 ≤ (a_draft_yesLeads i).toInt ∧ (a_draft_yesLeads i).toInt ≤ 13) ∨ (a_draft_yesLeads i).toInt = 20)) (i12 : ∀ i : Nat, ((i : Int) < (x1).toInt) → ((0 ≤ (a_draft_noLeads i).toInt ∧ (a_draft_noLeads i).toInt ≤ 4) ∨ (10 ≤ (a_draft_noLeads i).toInt ∧ (a_draft_noLeads i).toInt ≤ 13) ∨ (a_draft_noLeads i).toInt = 20)) (i13 : ∀ i : Nat, ((x1).toInt ≤ (i : Int) ∧ (i : Int) < (v_draft_units).toInt) → ((10 ≤ (a_draft_yesLeads i).toInt ∧ (a_draft_yesLeads i).toInt ≤ 13) ∨ (a_draft_yesLeads i).toInt = 20 ∨ (100 ≤ (a_draft_yesLeads i).toInt ∧ (a_draft_yesLeads i).toInt < 100 + gM))) (i14 : ∀ i : Nat, ((x1).toInt ≤ (i : Int) ∧ (i : Int) < (v_draft_units).toInt) → ((10 ≤ (a_draft_noLeads i).toInt ∧ (a_draft_noLeads i).toInt ≤ 13) ∨ (a_draft_noLeads i).toInt = 20 ∨ (100 ≤ (a_draft_noLeads i).toInt ∧ (a_draft_noLeads i).toInt < 100 + gM))) (i15 : ∀ i : Nat, ((i : Int) < (x1).toInt) → (1 ≤ (a_draft_settings i).toInt ∧ (a_draft_settings i).toInt ≤ 3)) (hmu : (5 - (x1).toInt).toNat ≤ mB43) : OK (FX3_settle_43 n v_setCount v_draft_units a_nameUnits a_setNames a_setValues k43 a_draft_settings a_draft_percents a_draft_yesLeads a_draft_noLeads x1) (fun u => (∀ i : Nat, ((i : Int) < (v_draft_units).toInt) → ((0 ≤ (u.2.2.2.1 i).toInt ∧ (u.2.2.2.1 i).toInt ≤ 4) ∨ (10 ≤ (u.2.2.2.1 i).toInt ∧ (u.2.2.2.1 i).toInt ≤ 13) ∨ (u.2.2.2.1 i).toInt = 20)) ∧ (∀ i : Nat, ((i : Int) < (v_draft_units).toInt) → ((0 ≤ (u.2.2.2.2 i).toInt ∧ (u.2.2.2.2 i).toInt ≤ 4) ∨ (10 ≤ (u.2.2.2.2 i).toInt ∧ (u.2.2.2.2 i).toInt ≤ 13) ∨ (u.2.2.2.2 i).toInt = 20)) ∧ (∀ i : Nat, ((i : Int) < (v_draft_units).toInt) → (1 ≤ (u.2.1 i).toInt ∧ (u.2.1 i).toInt ≤ 3))) := by
  unfold FX3_settle_43
  refine OK_if (fun c1311 => ?_) (fun c1311 => ?_)
  · have f1312 := le32k rfl rfl c1311
    exact OK_some (show (∀ i : Nat, ((i : Int) < (v_draft_units).toInt) → ((0 ≤ (a_draft_yesLeads i).toInt ∧ (a_draft_yesLeads i).toInt ≤ 4) ∨ (10 ≤ (a_draft_yesLeads i).toInt ∧ (a_draft_yesLeads i).toInt ≤ 13) ∨ (a_draft_yesLeads i).toInt = 20)) ∧ (∀ i : Nat, ((i : Int) < (v_draft_units).toInt) → ((0 ≤ (a_draft_noLeads i).toInt ∧ (a_draft_noLeads i).toInt ≤ 4) ∨ (10 ≤ (a_draft_noLeads i).toInt ∧ (a_draft_noLeads i).toInt ≤ 13) ∨ (a_draft_noLeads i).toInt = 20)) ∧ (∀ i : Nat, ((i : Int) < (v_draft_units).toInt) → (1 ≤ (a_draft_settings i).toInt ∧ (a_draft_settings i).toInt ≤ 3)) from ⟨(by
        intro i hi
        have f1313 := i11 i
        have f1314 := i13 i
        omega), (by
        intro i hi
        have f1315 := i12 i
        have f1316 := i14 i
        omega), (by
        intro i hi
        have f1317 := i8 i
        have f1318 := i15 i
        omega)⟩)
  · have f1319 := nle32k rfl rfl c1311
    refine OK_ck (ckV rfl (by omega) (by omega)) ?_
    obtain ⟨m1320, v1321, f1322⟩ := tnV (e := x1) rfl (by omega)
    have v1323 : HQ ((a_draft_yesLeads ((x1).toNatClampNeg))).toInt (a_draft_yesLeads m1320).toInt := HQ.mk (by rw [v1321.out])
    have f1324 := i11 m1320
    have f1325 := i13 m1320
    refine OK_bd (sX3_settled n hn a_nameUnits (a_draft_yesLeads ((x1).toNatClampNeg)) (gM) ((v_draft_units).toInt) (by omega) (by
        intro i hi
        have f1326 := i7 i
        omega) (by (rw [v1323.out]) <;> omega)) (fun u_10 p_u_10 => ?_)
    have p1327 := p_u_10
    clear p_u_10
    refine OK_ck (ckV rfl (by omega) (by omega)) ?_
    refine OK_lt (fun f_12 e_f_12 => ?_)
    rw [v1321.out] at e_f_12
    refine OK_ck (ckV rfl (by omega) (by omega)) ?_
    have v1328 : HQ ((a_draft_noLeads ((x1).toNatClampNeg))).toInt (a_draft_noLeads m1320).toInt := HQ.mk (by rw [v1321.out])
    have f1329 := i12 m1320
    have f1330 := i14 m1320
    refine OK_bd (sX3_settled n hn a_nameUnits (a_draft_noLeads ((x1).toNatClampNeg)) (gM) ((v_draft_units).toInt) (by omega) (by
        intro i hi
        have f1331 := i7 i
        omega) (by (rw [v1328.out]) <;> omega)) (fun u_15 p_u_15 => ?_)
    have p1332 := p_u_15
    clear p_u_15
    refine OK_ck (ckV rfl (by omega) (by omega)) ?_
    refine OK_lt (fun f_17 e_f_17 => ?_)
    rw [v1321.out] at e_f_17
    refine OK_ck (ckV rfl (by omega) (by omega)) ?_
    have v1333 : HQ ((1 : Int32)).toInt 1 := HQ.mk (by decide)
    have v1334 : HQ ((a_draft_settings ((x1).toNatClampNeg))).toInt (a_draft_settings m1320).toInt := HQ.mk (by rw [v1321.out])
    have f1335 := i8 m1320
    have f1336 := i15 m1320
    obtain ⟨y1337, v1338, f1339⟩ := iteVlt (a := (a_draft_settings ((x1).toNatClampNeg))) (b := (1 : Int32)) (p := (1 : Int32)) (q := (a_draft_settings ((x1).toNatClampNeg))) v1334.out v1333.out v1333.out v1334.out
    refine OK_lt (fun x_19 e_x_19 => ?_)
    have f1340 : (x_19).toInt = y1337 := by rw [e_x_19]; exact v1338.out
    refine OK_ck (ckV rfl (by omega) (by omega)) ?_
    refine OK_lt (fun f_21 e_f_21 => ?_)
    rw [v1321.out] at e_f_21
    have v1341 : HQ ((x1 + (1 : Int32))).toInt ((x1).toInt + 1) := HQ.mk (addV rfl v1333.out (by omega) (by omega))
    refine OK_lt (fun x_22 e_x_22 => ?_)
    have f1342 : (x_22).toInt = ((x1).toInt + 1) := by rw [e_x_22]; exact v1341.out
    exact hk43 f_21 a_draft_percents f_12 f_17 x_22 i0 i1 i2 i3 i4 i5 i6 i7 (by
        intro i hi
        have f1343 := updW e_f_21 rfl i
        have f1344 := i8 i
        have f1345 := i15 i
        have f1346 := congAt a_draft_settings i m1320
        omega) (by omega) (by omega) (by
        intro i hi
        have f1347 := updW e_f_12 rfl i
        have f1348 := i11 i
        have f1349 := i13 i
        have f1350 := congAt a_draft_yesLeads i m1320
        omega) (by
        intro i hi
        have f1351 := updW e_f_17 rfl i
        have f1352 := i12 i
        have f1353 := i14 i
        have f1354 := congAt a_draft_noLeads i m1320
        omega) (by
        intro i hi
        have f1355 := updW e_f_12 rfl i
        have f1356 := i11 i
        have f1357 := i13 i
        have f1358 := congAt a_draft_yesLeads i m1320
        omega) (by
        intro i hi
        have f1359 := updW e_f_17 rfl i
        have f1360 := i12 i
        have f1361 := i14 i
        have f1362 := congAt a_draft_noLeads i m1320
        omega) (by
        intro i hi
        have f1363 := updW e_f_21 rfl i
        have f1364 := i8 i
        have f1365 := i15 i
        have f1366 := congAt a_draft_settings i m1320
        omega) (by omega)
theorem sFX3_settle_43L (n : Nat) (hn : n = 2200000000) (v_setCount : Int32) (v_draft_units : Int32) (a_nameUnits : Nat → Int32) (a_setNames : Nat → Int32) (a_setValues : Nat → Int32) (gM : Int) : ∀ (j : Nat) (a_draft_settings : Nat → Int32) (a_draft_percents : Nat → Int32) (a_draft_yesLeads : Nat → Int32) (a_draft_noLeads : Nat → Int32) (x1 : Int32), (0 ≤ (v_setCount).toInt) → ((v_setCount).toInt ≤ 80) → (0 ≤ (v_draft_units).toInt) → ((v_draft_units).toInt ≤ 5) → (0 ≤ gM) → (gM ≤ 96) → (∀ i : Nat, ((i : Int) < (v_setCount).toInt) → (0 ≤ (a_setNames i).toInt ∧ (a_setNames i).toInt < gM)) → (∀ i : Nat, ((i : Int) < gM) → (0 ≤ (a_nameUnits i).toInt ∧ (a_nameUnits i).toInt < (v_draft_units).toInt)) → (∀ i : Nat, (i < 5) → (0 ≤ (a_draft_settings i).toInt ∧ (a_draft_settings i).toInt ≤ 3)) → (0 ≤ (x1).toInt) → ((x1).toInt ≤ (v_draft_units).toInt) → (∀ i : Nat, ((i : Int) < (x1).toInt) → ((0 ≤ (a_draft_yesLeads i).toInt ∧ (a_draft_yesLeads i).toInt ≤ 4) ∨ (10 ≤ (a_draft_yesLeads i).toInt ∧ (a_draft_yesLeads i).toInt ≤ 13) ∨ (a_draft_yesLeads i).toInt = 20)) → (∀ i : Nat, ((i : Int) < (x1).toInt) → ((0 ≤ (a_draft_noLeads i).toInt ∧ (a_draft_noLeads i).toInt ≤ 4) ∨ (10 ≤ (a_draft_noLeads i).toInt ∧ (a_draft_noLeads i).toInt ≤ 13) ∨ (a_draft_noLeads i).toInt = 20)) → (∀ i : Nat, ((x1).toInt ≤ (i : Int) ∧ (i : Int) < (v_draft_units).toInt) → ((10 ≤ (a_draft_yesLeads i).toInt ∧ (a_draft_yesLeads i).toInt ≤ 13) ∨ (a_draft_yesLeads i).toInt = 20 ∨ (100 ≤ (a_draft_yesLeads i).toInt ∧ (a_draft_yesLeads i).toInt < 100 + gM))) → (∀ i : Nat, ((x1).toInt ≤ (i : Int) ∧ (i : Int) < (v_draft_units).toInt) → ((10 ≤ (a_draft_noLeads i).toInt ∧ (a_draft_noLeads i).toInt ≤ 13) ∨ (a_draft_noLeads i).toInt = 20 ∨ (100 ≤ (a_draft_noLeads i).toInt ∧ (a_draft_noLeads i).toInt < 100 + gM))) → (∀ i : Nat, ((i : Int) < (x1).toInt) → (1 ≤ (a_draft_settings i).toInt ∧ (a_draft_settings i).toInt ≤ 3)) → (5 - (x1).toInt).toNat < j → OK (FX3_settle_43L n v_setCount v_draft_units a_nameUnits a_setNames a_setValues j a_draft_settings a_draft_percents a_draft_yesLeads a_draft_noLeads x1) (fun u => (∀ i : Nat, ((i : Int) < (v_draft_units).toInt) → ((0 ≤ (u.2.2.2.1 i).toInt ∧ (u.2.2.2.1 i).toInt ≤ 4) ∨ (10 ≤ (u.2.2.2.1 i).toInt ∧ (u.2.2.2.1 i).toInt ≤ 13) ∨ (u.2.2.2.1 i).toInt = 20)) ∧ (∀ i : Nat, ((i : Int) < (v_draft_units).toInt) → ((0 ≤ (u.2.2.2.2 i).toInt ∧ (u.2.2.2.2 i).toInt ≤ 4) ∨ (10 ≤ (u.2.2.2.2 i).toInt ∧ (u.2.2.2.2 i).toInt ≤ 13) ∨ (u.2.2.2.2 i).toInt = 20)) ∧ (∀ i : Nat, ((i : Int) < (v_draft_units).toInt) → (1 ≤ (u.2.1 i).toInt ∧ (u.2.1 i).toInt ≤ 3))) := by
  intro j
  induction j with
  | zero => intro _ _ _ _ _ _ _ _ _ _ _ _ _ _ _ _ _ _ _ _ _ hj; exact absurd hj (Nat.not_lt_zero _)
  | succ j ih =>
    intro a_draft_settings a_draft_percents a_draft_yesLeads a_draft_noLeads x1 i0 i1 i2 i3 i4 i5 i6 i7 i8 i9 i10 i11 i12 i13 i14 i15 hj
    exact sFX3_settle_43 n hn v_setCount v_draft_units a_nameUnits a_setNames a_setValues gM (FX3_settle_43L n v_setCount v_draft_units a_nameUnits a_setNames a_setValues j) ((5 - (x1).toInt).toNat) (fun y0 y1 y2 y3 y4 w0 w1 w2 w3 w4 w5 w6 w7 w8 w9 w10 w11 w12 w13 w14 w15 hlt => ih y0 y1 y2 y3 y4 w0 w1 w2 w3 w4 w5 w6 w7 w8 w9 w10 w11 w12 w13 w14 w15 (by omega)) a_draft_settings a_draft_percents a_draft_yesLeads a_draft_noLeads x1 i0 i1 i2 i3 i4 i5 i6 i7 i8 i9 i10 i11 i12 i13 i14 i15 (Nat.le_refl _)
set_option maxHeartbeats 2000000 in
theorem sFX3_settle_2 (n : Nat) (hn : n = 2200000000) (v_setCount : Int32) (v_draft_units : Int32) (a_nameUnits : Nat → Int32) (a_setNames : Nat → Int32) (a_setValues : Nat → Int32) (gM : Int) (k2 : (Nat → Int32) → (Nat → Int32) → (Nat → Int32) → (Nat → Int32) → Int32 → Option (Unit × (Nat → Int32) × (Nat → Int32) × (Nat → Int32) × (Nat → Int32))) (mB2 : Nat) (hk2 : ∀ (a_draft_settings : Nat → Int32) (a_draft_percents : Nat → Int32) (a_draft_yesLeads : Nat → Int32) (a_draft_noLeads : Nat → Int32) (x1 : Int32), (0 ≤ (v_setCount).toInt) → ((v_setCount).toInt ≤ 80) → (0 ≤ (v_draft_units).toInt) → ((v_draft_units).toInt ≤ 5) → (0 ≤ gM) → (gM ≤ 96) → (∀ i : Nat, ((i : Int) < (v_setCount).toInt) → (0 ≤ (a_setNames i).toInt ∧ (a_setNames i).toInt < gM)) → (∀ i : Nat, ((i : Int) < gM) → (0 ≤ (a_nameUnits i).toInt ∧ (a_nameUnits i).toInt < (v_draft_units).toInt)) → (∀ i : Nat, (i < 5) → (0 ≤ (a_draft_settings i).toInt ∧ (a_draft_settings i).toInt ≤ 3)) → (∀ i : Nat, ((i : Int) < (v_draft_units).toInt) → ((10 ≤ (a_draft_yesLeads i).toInt ∧ (a_draft_yesLeads i).toInt ≤ 13) ∨ (a_draft_yesLeads i).toInt = 20 ∨ (100 ≤ (a_draft_yesLeads i).toInt ∧ (a_draft_yesLeads i).toInt < 100 + gM))) → (∀ i : Nat, ((i : Int) < (v_draft_units).toInt) → ((10 ≤ (a_draft_noLeads i).toInt ∧ (a_draft_noLeads i).toInt ≤ 13) ∨ (a_draft_noLeads i).toInt = 20 ∨ (100 ≤ (a_draft_noLeads i).toInt ∧ (a_draft_noLeads i).toInt < 100 + gM))) → (0 ≤ (x1).toInt) → ((x1).toInt ≤ (v_setCount).toInt) → (80 - (x1).toInt).toNat < mB2 → OK (k2 a_draft_settings a_draft_percents a_draft_yesLeads a_draft_noLeads x1) (fun u => (∀ i : Nat, ((i : Int) < (v_draft_units).toInt) → ((0 ≤ (u.2.2.2.1 i).toInt ∧ (u.2.2.2.1 i).toInt ≤ 4) ∨ (10 ≤ (u.2.2.2.1 i).toInt ∧ (u.2.2.2.1 i).toInt ≤ 13) ∨ (u.2.2.2.1 i).toInt = 20)) ∧ (∀ i : Nat, ((i : Int) < (v_draft_units).toInt) → ((0 ≤ (u.2.2.2.2 i).toInt ∧ (u.2.2.2.2 i).toInt ≤ 4) ∨ (10 ≤ (u.2.2.2.2 i).toInt ∧ (u.2.2.2.2 i).toInt ≤ 13) ∨ (u.2.2.2.2 i).toInt = 20)) ∧ (∀ i : Nat, ((i : Int) < (v_draft_units).toInt) → (1 ≤ (u.2.1 i).toInt ∧ (u.2.1 i).toInt ≤ 3)))) (a_draft_settings : Nat → Int32) (a_draft_percents : Nat → Int32) (a_draft_yesLeads : Nat → Int32) (a_draft_noLeads : Nat → Int32) (x1 : Int32) (i0 : 0 ≤ (v_setCount).toInt) (i1 : (v_setCount).toInt ≤ 80) (i2 : 0 ≤ (v_draft_units).toInt) (i3 : (v_draft_units).toInt ≤ 5) (i4 : 0 ≤ gM) (i5 : gM ≤ 96) (i6 : ∀ i : Nat, ((i : Int) < (v_setCount).toInt) → (0 ≤ (a_setNames i).toInt ∧ (a_setNames i).toInt < gM)) (i7 : ∀ i : Nat, ((i : Int) < gM) → (0 ≤ (a_nameUnits i).toInt ∧ (a_nameUnits i).toInt < (v_draft_units).toInt)) (i8 : ∀ i : Nat, (i < 5) → (0 ≤ (a_draft_settings i).toInt ∧ (a_draft_settings i).toInt ≤ 3)) (i9 : ∀ i : Nat, ((i : Int) < (v_draft_units).toInt) → ((10 ≤ (a_draft_yesLeads i).toInt ∧ (a_draft_yesLeads i).toInt ≤ 13) ∨ (a_draft_yesLeads i).toInt = 20 ∨ (100 ≤ (a_draft_yesLeads i).toInt ∧ (a_draft_yesLeads i).toInt < 100 + gM))) (i10 : ∀ i : Nat, ((i : Int) < (v_draft_units).toInt) → ((10 ≤ (a_draft_noLeads i).toInt ∧ (a_draft_noLeads i).toInt ≤ 13) ∨ (a_draft_noLeads i).toInt = 20 ∨ (100 ≤ (a_draft_noLeads i).toInt ∧ (a_draft_noLeads i).toInt < 100 + gM))) (i11 : 0 ≤ (x1).toInt) (i12 : (x1).toInt ≤ (v_setCount).toInt) (hmu : (80 - (x1).toInt).toNat ≤ mB2) : OK (FX3_settle_2 n v_setCount v_draft_units a_nameUnits a_setNames a_setValues k2 a_draft_settings a_draft_percents a_draft_yesLeads a_draft_noLeads x1) (fun u => (∀ i : Nat, ((i : Int) < (v_draft_units).toInt) → ((0 ≤ (u.2.2.2.1 i).toInt ∧ (u.2.2.2.1 i).toInt ≤ 4) ∨ (10 ≤ (u.2.2.2.1 i).toInt ∧ (u.2.2.2.1 i).toInt ≤ 13) ∨ (u.2.2.2.1 i).toInt = 20)) ∧ (∀ i : Nat, ((i : Int) < (v_draft_units).toInt) → ((0 ≤ (u.2.2.2.2 i).toInt ∧ (u.2.2.2.2 i).toInt ≤ 4) ∨ (10 ≤ (u.2.2.2.2 i).toInt ∧ (u.2.2.2.2 i).toInt ≤ 13) ∨ (u.2.2.2.2 i).toInt = 20)) ∧ (∀ i : Nat, ((i : Int) < (v_draft_units).toInt) → (1 ≤ (u.2.1 i).toInt ∧ (u.2.1 i).toInt ≤ 3))) := by
  unfold FX3_settle_2
  refine OK_if (fun c1367 => ?_) (fun c1367 => ?_)
  · have f1368 := le32k rfl rfl c1367
    have v1369 : HQ ((0 : Int32)).toInt 0 := HQ.mk (by decide)
    exact sFX3_settle_43L n hn v_setCount v_draft_units a_nameUnits a_setNames a_setValues gM n a_draft_settings a_draft_percents a_draft_yesLeads a_draft_noLeads (0 : Int32) i0 i1 i2 i3 i4 i5 i6 i7 i8 (by (rw [v1369.out]) <;> omega) (by (rw [v1369.out]) <;> omega) (by
        intro i hi
        try simp only [v1369.out] at hi
        try simp only [v1369.out]
        have f1370 := i9 i
        omega) (by
        intro i hi
        try simp only [v1369.out] at hi
        try simp only [v1369.out]
        have f1371 := i10 i
        omega) (by
        intro i hi
        try simp only [v1369.out] at hi
        try simp only [v1369.out]
        have f1372 := i9 i
        omega) (by
        intro i hi
        try simp only [v1369.out] at hi
        try simp only [v1369.out]
        have f1373 := i10 i
        omega) (by
        intro i hi
        try simp only [v1369.out] at hi
        try simp only [v1369.out]
        have f1374 := i8 i
        omega) (by (rw [v1369.out]) <;> omega)
  · have f1375 := nle32k rfl rfl c1367
    refine OK_ck (ckV rfl (by omega) (by omega)) ?_
    obtain ⟨m1376, v1377, f1378⟩ := tnV (e := x1) rfl (by omega)
    have v1379 : HQ ((a_setNames ((x1).toNatClampNeg))).toInt (a_setNames m1376).toInt := HQ.mk (by rw [v1377.out])
    have f1380 := i6 m1376
    refine OK_ck (ckV v1379.out (by omega) (by omega)) ?_
    obtain ⟨m1381, v1382, f1383⟩ := tnV (e := (a_setNames ((x1).toNatClampNeg))) v1379.out (by omega)
    have v1384 : HQ ((a_nameUnits (((a_setNames ((x1).toNatClampNeg))).toNatClampNeg))).toInt (a_nameUnits m1381).toInt := HQ.mk (by rw [v1382.out])
    have f1385 := i7 m1381
    have v1386 : HQ ((5 : Int32)).toInt 5 := HQ.mk (by decide)
    have v1387 : HQ ((x1 * (5 : Int32))).toInt ((x1).toInt * 5) := HQ.mk (mulV rfl v1386.out (by omega) (by omega))
    refine OK_bd (sX2_addSetting n hn a_setValues a_draft_settings a_draft_percents (a_nameUnits (((a_setNames ((x1).toNatClampNeg))).toNatClampNeg)) (x1 * (5 : Int32)) (by (rw [v1384.out]) <;> omega) (by (rw [v1384.out]) <;> omega) (by (rw [v1387.out]) <;> omega) (by (rw [v1387.out]) <;> omega) i8) (fun u_5 p_u_5 => ?_)
    have p1388 := p_u_5
    clear p_u_5
    have v1389 : HQ ((1 : Int32)).toInt 1 := HQ.mk (by decide)
    have v1390 : HQ ((x1 + (1 : Int32))).toInt ((x1).toInt + 1) := HQ.mk (addV rfl v1389.out (by omega) (by omega))
    refine OK_lt (fun x_6 e_x_6 => ?_)
    have f1391 : (x_6).toInt = ((x1).toInt + 1) := by rw [e_x_6]; exact v1390.out
    exact hk2 u_5.2.1 u_5.2.2 a_draft_yesLeads a_draft_noLeads x_6 i0 i1 i2 i3 i4 i5 i6 i7 p1388 i9 i10 (by omega) (by omega) (by omega)
theorem sFX3_settle_2L (n : Nat) (hn : n = 2200000000) (v_setCount : Int32) (v_draft_units : Int32) (a_nameUnits : Nat → Int32) (a_setNames : Nat → Int32) (a_setValues : Nat → Int32) (gM : Int) : ∀ (j : Nat) (a_draft_settings : Nat → Int32) (a_draft_percents : Nat → Int32) (a_draft_yesLeads : Nat → Int32) (a_draft_noLeads : Nat → Int32) (x1 : Int32), (0 ≤ (v_setCount).toInt) → ((v_setCount).toInt ≤ 80) → (0 ≤ (v_draft_units).toInt) → ((v_draft_units).toInt ≤ 5) → (0 ≤ gM) → (gM ≤ 96) → (∀ i : Nat, ((i : Int) < (v_setCount).toInt) → (0 ≤ (a_setNames i).toInt ∧ (a_setNames i).toInt < gM)) → (∀ i : Nat, ((i : Int) < gM) → (0 ≤ (a_nameUnits i).toInt ∧ (a_nameUnits i).toInt < (v_draft_units).toInt)) → (∀ i : Nat, (i < 5) → (0 ≤ (a_draft_settings i).toInt ∧ (a_draft_settings i).toInt ≤ 3)) → (∀ i : Nat, ((i : Int) < (v_draft_units).toInt) → ((10 ≤ (a_draft_yesLeads i).toInt ∧ (a_draft_yesLeads i).toInt ≤ 13) ∨ (a_draft_yesLeads i).toInt = 20 ∨ (100 ≤ (a_draft_yesLeads i).toInt ∧ (a_draft_yesLeads i).toInt < 100 + gM))) → (∀ i : Nat, ((i : Int) < (v_draft_units).toInt) → ((10 ≤ (a_draft_noLeads i).toInt ∧ (a_draft_noLeads i).toInt ≤ 13) ∨ (a_draft_noLeads i).toInt = 20 ∨ (100 ≤ (a_draft_noLeads i).toInt ∧ (a_draft_noLeads i).toInt < 100 + gM))) → (0 ≤ (x1).toInt) → ((x1).toInt ≤ (v_setCount).toInt) → (80 - (x1).toInt).toNat < j → OK (FX3_settle_2L n v_setCount v_draft_units a_nameUnits a_setNames a_setValues j a_draft_settings a_draft_percents a_draft_yesLeads a_draft_noLeads x1) (fun u => (∀ i : Nat, ((i : Int) < (v_draft_units).toInt) → ((0 ≤ (u.2.2.2.1 i).toInt ∧ (u.2.2.2.1 i).toInt ≤ 4) ∨ (10 ≤ (u.2.2.2.1 i).toInt ∧ (u.2.2.2.1 i).toInt ≤ 13) ∨ (u.2.2.2.1 i).toInt = 20)) ∧ (∀ i : Nat, ((i : Int) < (v_draft_units).toInt) → ((0 ≤ (u.2.2.2.2 i).toInt ∧ (u.2.2.2.2 i).toInt ≤ 4) ∨ (10 ≤ (u.2.2.2.2 i).toInt ∧ (u.2.2.2.2 i).toInt ≤ 13) ∨ (u.2.2.2.2 i).toInt = 20)) ∧ (∀ i : Nat, ((i : Int) < (v_draft_units).toInt) → (1 ≤ (u.2.1 i).toInt ∧ (u.2.1 i).toInt ≤ 3))) := by
  intro j
  induction j with
  | zero => intro _ _ _ _ _ _ _ _ _ _ _ _ _ _ _ _ _ _ hj; exact absurd hj (Nat.not_lt_zero _)
  | succ j ih =>
    intro a_draft_settings a_draft_percents a_draft_yesLeads a_draft_noLeads x1 i0 i1 i2 i3 i4 i5 i6 i7 i8 i9 i10 i11 i12 hj
    exact sFX3_settle_2 n hn v_setCount v_draft_units a_nameUnits a_setNames a_setValues gM (FX3_settle_2L n v_setCount v_draft_units a_nameUnits a_setNames a_setValues j) ((80 - (x1).toInt).toNat) (fun y0 y1 y2 y3 y4 w0 w1 w2 w3 w4 w5 w6 w7 w8 w9 w10 w11 w12 hlt => ih y0 y1 y2 y3 y4 w0 w1 w2 w3 w4 w5 w6 w7 w8 w9 w10 w11 w12 (by omega)) a_draft_settings a_draft_percents a_draft_yesLeads a_draft_noLeads x1 i0 i1 i2 i3 i4 i5 i6 i7 i8 i9 i10 i11 i12 (Nat.le_refl _)
set_option maxHeartbeats 2000000 in
theorem sX3_settle (n : Nat) (hn : n = 2200000000) (v_setCount : Int32) (v_draft_units : Int32) (a_nameUnits : Nat → Int32) (a_setNames : Nat → Int32) (a_setValues : Nat → Int32) (a_draft_settings : Nat → Int32) (a_draft_percents : Nat → Int32) (a_draft_yesLeads : Nat → Int32) (a_draft_noLeads : Nat → Int32) (gM : Int) (i0 : 0 ≤ (v_setCount).toInt) (i1 : (v_setCount).toInt ≤ 80) (i2 : 0 ≤ (v_draft_units).toInt) (i3 : (v_draft_units).toInt ≤ 5) (i4 : 0 ≤ gM) (i5 : gM ≤ 96) (i6 : ∀ i : Nat, ((i : Int) < (v_setCount).toInt) → (0 ≤ (a_setNames i).toInt ∧ (a_setNames i).toInt < gM)) (i7 : ∀ i : Nat, ((i : Int) < gM) → (0 ≤ (a_nameUnits i).toInt ∧ (a_nameUnits i).toInt < (v_draft_units).toInt)) (i8 : ∀ i : Nat, (i < 5) → (0 ≤ (a_draft_settings i).toInt ∧ (a_draft_settings i).toInt ≤ 3)) (i9 : ∀ i : Nat, ((i : Int) < (v_draft_units).toInt) → ((10 ≤ (a_draft_yesLeads i).toInt ∧ (a_draft_yesLeads i).toInt ≤ 13) ∨ (a_draft_yesLeads i).toInt = 20 ∨ (100 ≤ (a_draft_yesLeads i).toInt ∧ (a_draft_yesLeads i).toInt < 100 + gM))) (i10 : ∀ i : Nat, ((i : Int) < (v_draft_units).toInt) → ((10 ≤ (a_draft_noLeads i).toInt ∧ (a_draft_noLeads i).toInt ≤ 13) ∨ (a_draft_noLeads i).toInt = 20 ∨ (100 ≤ (a_draft_noLeads i).toInt ∧ (a_draft_noLeads i).toInt < 100 + gM))) : OK (FX3_settle n v_setCount v_draft_units a_nameUnits a_setNames a_setValues a_draft_settings a_draft_percents a_draft_yesLeads a_draft_noLeads) (fun u => (∀ i : Nat, ((i : Int) < (v_draft_units).toInt) → ((0 ≤ (u.2.2.2.1 i).toInt ∧ (u.2.2.2.1 i).toInt ≤ 4) ∨ (10 ≤ (u.2.2.2.1 i).toInt ∧ (u.2.2.2.1 i).toInt ≤ 13) ∨ (u.2.2.2.1 i).toInt = 20)) ∧ (∀ i : Nat, ((i : Int) < (v_draft_units).toInt) → ((0 ≤ (u.2.2.2.2 i).toInt ∧ (u.2.2.2.2 i).toInt ≤ 4) ∨ (10 ≤ (u.2.2.2.2 i).toInt ∧ (u.2.2.2.2 i).toInt ≤ 13) ∨ (u.2.2.2.2 i).toInt = 20)) ∧ (∀ i : Nat, ((i : Int) < (v_draft_units).toInt) → (1 ≤ (u.2.1 i).toInt ∧ (u.2.1 i).toInt ≤ 3))) := by
  unfold FX3_settle
  have v1392 : HQ ((0 : Int32)).toInt 0 := HQ.mk (by decide)
  exact sFX3_settle_2L n hn v_setCount v_draft_units a_nameUnits a_setNames a_setValues gM n a_draft_settings a_draft_percents a_draft_yesLeads a_draft_noLeads (0 : Int32) i0 i1 i2 i3 i4 i5 i6 i7 i8 i9 i10 (by (rw [v1392.out]) <;> omega) (by (rw [v1392.out]) <;> omega) (by (rw [v1392.out]) <;> omega)
