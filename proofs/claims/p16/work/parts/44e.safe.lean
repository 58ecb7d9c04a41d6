set_option maxHeartbeats 2000000 in
theorem sFX3_settle_43 (n : Nat) (hn : n = 3000) (v_setCount : Int32) (v_draft_units : Int32) (a_nameUnits : Nat → Int32) (a_setNames : Nat → Int32) (a_setValues : Nat → Int32) (gM : Int) (k43 : (Nat → Int32) → (Nat → Int32) → (Nat → Int32) → (Nat → Int32) → Int32 → Option (Unit × (Nat → Int32) × (Nat → Int32) × (Nat → Int32) × (Nat → Int32))) (mB43 : Nat) (hk43 : ∀ (a_draft_settings : Nat → Int32) (a_draft_percents : Nat → Int32) (a_draft_yesLeads : Nat → Int32) (a_draft_noLeads : Nat → Int32) (x1 : Int32), (0 ≤ (v_setCount).toInt) → ((v_setCount).toInt ≤ 80) → (0 ≤ (v_draft_units).toInt) → ((v_draft_units).toInt ≤ 5) → (0 ≤ gM) → (gM ≤ 96) → (∀ i : Nat, ((i : Int) < (v_setCount).toInt) → (0 ≤ (a_setNames i).toInt ∧ (a_setNames i).toInt < gM)) → (∀ i : Nat, ((i : Int) < gM) → (0 ≤ (a_nameUnits i).toInt ∧ (a_nameUnits i).toInt < (v_draft_units).toInt)) → (∀ i : Nat, (i < 5) → (0 ≤ (a_draft_settings i).toInt ∧ (a_draft_settings i).toInt ≤ 3)) → (0 ≤ (x1).toInt) → ((x1).toInt ≤ (v_draft_units).toInt) → (∀ i : Nat, ((i : Int) < (x1).toInt) → ((0 ≤ (a_draft_yesLeads i).toInt ∧ (a_draft_yesLeads i).toInt ≤ 4) ∨ (10 ≤ (a_draft_yesLeads i).toInt ∧ (a_draft_yesLeads i).toInt ≤ 13) ∨ (a_draft_yesLeads i).toInt = 20)) → (∀ i : Nat, ((i : Int) < (x1).toInt) → ((0 ≤ (a_draft_noLeads i).toInt ∧ (a_draft_noLeads i).toInt ≤ 4) ∨ (10 ≤ (a_draft_noLeads i).toInt ∧ (a_draft_noLeads i).toInt ≤ 13) ∨ (a_draft_noLeads i).toInt = 20)) → (∀ i : Nat, ((x1).toInt ≤ (i : Int) ∧ (i : Int) < (v_draft_units).toInt) → ((10 ≤ (a_draft_yesLeads i).toInt ∧ (a_draft_yesLeads i).toInt ≤ 13) ∨ (a_draft_yesLeads i).toInt = 20 ∨ (100 ≤ (a_draft_yesLeads i).toInt ∧ (a_draft_yesLeads i).toInt < 100 + gM))) → (∀ i : Nat, ((x1).toInt ≤ (i : Int) ∧ (i : Int) < (v_draft_units).toInt) → ((10 ≤ (a_draft_noLeads i).toInt ∧ (a_draft_noLeads i).toInt ≤ 13) ∨ (a_draft_noLeads i).toInt = 20 ∨ (100 ≤ (a_draft_noLeads i).toInt ∧ (a_draft_noLeads i).toInt < 100 + gM))) → (∀ i : Nat, ((i : Int) < (x1).toInt) → (1 ≤ (a_draft_settings i).toInt ∧ (a_draft_settings i).toInt ≤ 3)) → (5 - (x1).toInt).toNat < mB43 → OK (k43 a_draft_settings a_draft_percents a_draft_yesLeads a_draft_noLeads x1) (fun u => (∀ i : Nat, ((i : Int) < (v_draft_units).toInt) → ((0 ≤ (u.2.2.2.1 i).toInt ∧ (u.2.2.2.1 i).toInt ≤ 4) ∨ (10 ≤ (u.2.2.2.1 i).toInt ∧ (u.2.2.2.1 i).toInt ≤ 13) ∨ (u.2.2.2.1 i).toInt = 20)) ∧ (∀ i : Nat, ((i : Int) < (v_draft_units).toInt) → ((0 ≤ (u.2.2.2.2 i).toInt ∧ (u.2.2.2.2 i).toInt ≤ 4) ∨ (10 ≤ (u.2.2.2.2 i).toInt ∧ (u.2.2.2.2 i).toInt ≤ 13) ∨ (u.2.2.2.2 i).toInt = 20)) ∧ (∀ i : Nat, ((i : Int) < (v_draft_units).toInt) → (1 ≤ (u.2.1 i).toInt ∧ (u.2.1 i).toInt ≤ 3)))) (a_draft_settings : Nat → Int32) (a_draft_percents : Nat → Int32) (a_draft_yesLeads : Nat → Int32) (a_draft_noLeads : Nat → Int32) (x1 : Int32) (i0 : 0 ≤ (v_setCount).toInt) (i1 : (v_setCount).toInt ≤ 80) (i2 : 0 ≤ (v_draft_units).toInt) (i3 : (v_draft_units).toInt ≤ 5) (i4 : 0 ≤ gM) (i5 : gM ≤ 96) (i6 : ∀ i : Nat, ((i : Int) < (v_setCount).toInt) → (0 ≤ (a_setNames i).toInt ∧ (a_setNames i).toInt < gM)) (i7 : ∀ i : Nat, ((i : Int) < gM) → (0 ≤ (a_nameUnits i).toInt ∧ (a_nameUnits i).toInt < (v_draft_units).toInt)) (i8 : ∀ i : Nat, (i < 5) → (0 ≤ (a_draft_settings i).toInt ∧ (a_draft_settings i).toInt ≤ 3)) (i9 : 0 ≤ (x1).toInt) (i10 : (x1).toInt ≤ (v_draft_units).toInt) (i11 : ∀ i : Nat, ((i : Int) < (x1).toInt) → ((0 ≤ (a_draft_yesLeads i).toInt ∧ (a_draft_yesLeads i).toInt ≤ 4) ∨ (10 ≤ (a_draft_yesLeads i).toInt ∧ (a_draft_yesLeads i).toInt ≤ 13) ∨ (a_draft_yesLeads i).toInt = 20)) (i12 : ∀ i : Nat, ((i : Int) < (x1).toInt) → ((0 ≤ (a_draft_noLeads i).toInt ∧ (a_draft_noLeads i).toInt ≤ 4) ∨ (10 ≤ (a_draft_noLeads i).toInt ∧ (a_draft_noLeads i).toInt ≤ 13) ∨ (a_draft_noLeads i).toInt = 20)) (i13 : ∀ i : Nat, ((x1).toInt ≤ (i : Int) ∧ (i : Int) < (v_draft_units).toInt) → ((10 ≤ (a_draft_yesLeads i).toInt ∧ (a_draft_yesLeads i).toInt ≤ 13) ∨ (a_draft_yesLeads i).toInt = 20 ∨ (100 ≤ (a_draft_yesLeads i).toInt ∧ (a_draft_yesLeads i).toInt < 100 + gM))) (i14 : ∀ i : Nat, ((x1).toInt ≤ (i : Int) ∧ (i : Int) < (v_draft_units).toInt) → ((10 ≤ (a_draft_noLeads i).toInt ∧ (a_draft_noLeads i).toInt ≤ 13) ∨ (a_draft_noLeads i).toInt = 20 ∨ (100 ≤ (a_draft_noLeads i).toInt ∧ (a_draft_noLeads i).toInt < 100 + gM))) (i15 : ∀ i : Nat, ((i : Int) < (x1).toInt) → (1 ≤ (a_draft_settings i).toInt ∧ (a_draft_settings i).toInt ≤ 3)) (hmu : (5 - (x1).toInt).toNat ≤ mB43) : OK (FX3_settle_43 n v_setCount v_draft_units a_nameUnits a_setNames a_setValues k43 a_draft_settings a_draft_percents a_draft_yesLeads a_draft_noLeads x1) (fun u => (∀ i : Nat, ((i : Int) < (v_draft_units).toInt) → ((0 ≤ (u.2.2.2.1 i).toInt ∧ (u.2.2.2.1 i).toInt ≤ 4) ∨ (10 ≤ (u.2.2.2.1 i).toInt ∧ (u.2.2.2.1 i).toInt ≤ 13) ∨ (u.2.2.2.1 i).toInt = 20)) ∧ (∀ i : Nat, ((i : Int) < (v_draft_units).toInt) → ((0 ≤ (u.2.2.2.2 i).toInt ∧ (u.2.2.2.2 i).toInt ≤ 4) ∨ (10 ≤ (u.2.2.2.2 i).toInt ∧ (u.2.2.2.2 i).toInt ≤ 13) ∨ (u.2.2.2.2 i).toInt = 20)) ∧ (∀ i : Nat, ((i : Int) < (v_draft_units).toInt) → (1 ≤ (u.2.1 i).toInt ∧ (u.2.1 i).toInt ≤ 3))) := by
  unfold FX3_settle_43
  refine OK_if (fun c1257 => ?_) (fun c1257 => ?_)
  · have f1258 := le32k rfl rfl c1257
    exact OK_some (show (∀ i : Nat, ((i : Int) < (v_draft_units).toInt) → ((0 ≤ (a_draft_yesLeads i).toInt ∧ (a_draft_yesLeads i).toInt ≤ 4) ∨ (10 ≤ (a_draft_yesLeads i).toInt ∧ (a_draft_yesLeads i).toInt ≤ 13) ∨ (a_draft_yesLeads i).toInt = 20)) ∧ (∀ i : Nat, ((i : Int) < (v_draft_units).toInt) → ((0 ≤ (a_draft_noLeads i).toInt ∧ (a_draft_noLeads i).toInt ≤ 4) ∨ (10 ≤ (a_draft_noLeads i).toInt ∧ (a_draft_noLeads i).toInt ≤ 13) ∨ (a_draft_noLeads i).toInt = 20)) ∧ (∀ i : Nat, ((i : Int) < (v_draft_units).toInt) → (1 ≤ (a_draft_settings i).toInt ∧ (a_draft_settings i).toInt ≤ 3)) from ⟨(by
        intro i hi
        have f1259 := i11 i
        have f1260 := i13 i
        omega), (by
        intro i hi
        have f1261 := i12 i
        have f1262 := i14 i
        omega), (by
        intro i hi
        have f1263 := i8 i
        have f1264 := i15 i
        omega)⟩)
  · have f1265 := nle32k rfl rfl c1257
    refine OK_ck (ckV rfl (by omega) (by omega)) ?_
    obtain ⟨m1266, v1267, f1268⟩ := tnV rfl (by omega)
    have v1269 : HQ ((a_draft_yesLeads ((x1).toNatClampNeg))).toInt (a_draft_yesLeads m1266).toInt := HQ.mk (by rw [v1267.out])
    have f1270 := i11 m1266
    have f1271 := i13 m1266
    refine OK_bd (sX3_settled n hn a_nameUnits (a_draft_yesLeads ((x1).toNatClampNeg)) (gM) ((v_draft_units).toInt) (by omega) (by
        intro i hi
        have f1272 := i7 i
        omega) (by rw [v1269.out]; omega)) (fun u_10 p_u_10 => ?_)
    have p1273 := p_u_10
    refine OK_ck (ckV rfl (by omega) (by omega)) ?_
    refine OK_lt (fun f_12 e_f_12 => ?_)
    rw [v1267.out] at e_f_12
    refine OK_ck (ckV rfl (by omega) (by omega)) ?_
    have v1274 : HQ ((a_draft_noLeads ((x1).toNatClampNeg))).toInt (a_draft_noLeads m1266).toInt := HQ.mk (by rw [v1267.out])
    have f1275 := i12 m1266
    have f1276 := i14 m1266
    refine OK_bd (sX3_settled n hn a_nameUnits (a_draft_noLeads ((x1).toNatClampNeg)) (gM) ((v_draft_units).toInt) (by omega) (by
        intro i hi
        have f1277 := i7 i
        omega) (by rw [v1274.out]; omega)) (fun u_15 p_u_15 => ?_)
    have p1278 := p_u_15
    refine OK_ck (ckV rfl (by omega) (by omega)) ?_
    refine OK_lt (fun f_17 e_f_17 => ?_)
    rw [v1267.out] at e_f_17
    refine OK_ck (ckV rfl (by omega) (by omega)) ?_
    have v1279 : HQ ((1 : Int32)).toInt 1 := HQ.mk (by decide)
    have v1280 : HQ ((a_draft_settings ((x1).toNatClampNeg))).toInt (a_draft_settings m1266).toInt := HQ.mk (by rw [v1267.out])
    have f1281 := i8 m1266
    have f1282 := i15 m1266
    obtain ⟨y1283, v1284, f1285⟩ := iteVlt v1280.out v1279.out v1279.out v1280.out
    refine OK_lt (fun x_19 e_x_19 => ?_)
    have f1286 : (x_19).toInt = y1283 := by rw [e_x_19]; exact v1284.out
    refine OK_ck (ckV rfl (by omega) (by omega)) ?_
    refine OK_lt (fun f_21 e_f_21 => ?_)
    rw [v1267.out] at e_f_21
    have v1287 : HQ ((x1 + (1 : Int32))).toInt ((x1).toInt + 1) := HQ.mk (addV rfl v1279.out (by omega) (by omega))
    refine OK_lt (fun x_22 e_x_22 => ?_)
    have f1288 : (x_22).toInt = ((x1).toInt + 1) := by rw [e_x_22]; exact v1287.out
    exact hk43 f_21 a_draft_percents f_12 f_17 x_22 i0 i1 i2 i3 i4 i5 i6 i7 (by
        intro i hi
        have f1289 := updV e_f_21 rfl i
        have f1290 := i8 i
        have f1291 := i15 i
        omega) (by omega) (by omega) (by
        intro i hi
        have f1292 := updV e_f_12 rfl i
        have f1293 := i11 i
        have f1294 := i13 i
        omega) (by
        intro i hi
        have f1295 := updV e_f_17 rfl i
        have f1296 := i12 i
        have f1297 := i14 i
        omega) (by
        intro i hi
        have f1298 := updV e_f_12 rfl i
        have f1299 := i11 i
        have f1300 := i13 i
        omega) (by
        intro i hi
        have f1301 := updV e_f_17 rfl i
        have f1302 := i12 i
        have f1303 := i14 i
        omega) (by
        intro i hi
        have f1304 := updV e_f_21 rfl i
        have f1305 := i8 i
        have f1306 := i15 i
        omega) (by omega)
theorem sFX3_settle_43L (n : Nat) (hn : n = 3000) (v_setCount : Int32) (v_draft_units : Int32) (a_nameUnits : Nat → Int32) (a_setNames : Nat → Int32) (a_setValues : Nat → Int32) (gM : Int) : ∀ (j : Nat) (a_draft_settings : Nat → Int32) (a_draft_percents : Nat → Int32) (a_draft_yesLeads : Nat → Int32) (a_draft_noLeads : Nat → Int32) (x1 : Int32), (0 ≤ (v_setCount).toInt) → ((v_setCount).toInt ≤ 80) → (0 ≤ (v_draft_units).toInt) → ((v_draft_units).toInt ≤ 5) → (0 ≤ gM) → (gM ≤ 96) → (∀ i : Nat, ((i : Int) < (v_setCount).toInt) → (0 ≤ (a_setNames i).toInt ∧ (a_setNames i).toInt < gM)) → (∀ i : Nat, ((i : Int) < gM) → (0 ≤ (a_nameUnits i).toInt ∧ (a_nameUnits i).toInt < (v_draft_units).toInt)) → (∀ i : Nat, (i < 5) → (0 ≤ (a_draft_settings i).toInt ∧ (a_draft_settings i).toInt ≤ 3)) → (0 ≤ (x1).toInt) → ((x1).toInt ≤ (v_draft_units).toInt) → (∀ i : Nat, ((i : Int) < (x1).toInt) → ((0 ≤ (a_draft_yesLeads i).toInt ∧ (a_draft_yesLeads i).toInt ≤ 4) ∨ (10 ≤ (a_draft_yesLeads i).toInt ∧ (a_draft_yesLeads i).toInt ≤ 13) ∨ (a_draft_yesLeads i).toInt = 20)) → (∀ i : Nat, ((i : Int) < (x1).toInt) → ((0 ≤ (a_draft_noLeads i).toInt ∧ (a_draft_noLeads i).toInt ≤ 4) ∨ (10 ≤ (a_draft_noLeads i).toInt ∧ (a_draft_noLeads i).toInt ≤ 13) ∨ (a_draft_noLeads i).toInt = 20)) → (∀ i : Nat, ((x1).toInt ≤ (i : Int) ∧ (i : Int) < (v_draft_units).toInt) → ((10 ≤ (a_draft_yesLeads i).toInt ∧ (a_draft_yesLeads i).toInt ≤ 13) ∨ (a_draft_yesLeads i).toInt = 20 ∨ (100 ≤ (a_draft_yesLeads i).toInt ∧ (a_draft_yesLeads i).toInt < 100 + gM))) → (∀ i : Nat, ((x1).toInt ≤ (i : Int) ∧ (i : Int) < (v_draft_units).toInt) → ((10 ≤ (a_draft_noLeads i).toInt ∧ (a_draft_noLeads i).toInt ≤ 13) ∨ (a_draft_noLeads i).toInt = 20 ∨ (100 ≤ (a_draft_noLeads i).toInt ∧ (a_draft_noLeads i).toInt < 100 + gM))) → (∀ i : Nat, ((i : Int) < (x1).toInt) → (1 ≤ (a_draft_settings i).toInt ∧ (a_draft_settings i).toInt ≤ 3)) → (5 - (x1).toInt).toNat < j → OK (FX3_settle_43L n v_setCount v_draft_units a_nameUnits a_setNames a_setValues j a_draft_settings a_draft_percents a_draft_yesLeads a_draft_noLeads x1) (fun u => (∀ i : Nat, ((i : Int) < (v_draft_units).toInt) → ((0 ≤ (u.2.2.2.1 i).toInt ∧ (u.2.2.2.1 i).toInt ≤ 4) ∨ (10 ≤ (u.2.2.2.1 i).toInt ∧ (u.2.2.2.1 i).toInt ≤ 13) ∨ (u.2.2.2.1 i).toInt = 20)) ∧ (∀ i : Nat, ((i : Int) < (v_draft_units).toInt) → ((0 ≤ (u.2.2.2.2 i).toInt ∧ (u.2.2.2.2 i).toInt ≤ 4) ∨ (10 ≤ (u.2.2.2.2 i).toInt ∧ (u.2.2.2.2 i).toInt ≤ 13) ∨ (u.2.2.2.2 i).toInt = 20)) ∧ (∀ i : Nat, ((i : Int) < (v_draft_units).toInt) → (1 ≤ (u.2.1 i).toInt ∧ (u.2.1 i).toInt ≤ 3))) := by
  intro j
  induction j with
  | zero => intro _ _ _ _ _ _ _ _ _ _ _ _ _ _ _ _ _ _ _ _ _ hj; exact absurd hj (Nat.not_lt_zero _)
  | succ j ih =>
    intro a_draft_settings a_draft_percents a_draft_yesLeads a_draft_noLeads x1 i0 i1 i2 i3 i4 i5 i6 i7 i8 i9 i10 i11 i12 i13 i14 i15 hj
    exact sFX3_settle_43 n hn v_setCount v_draft_units a_nameUnits a_setNames a_setValues gM (FX3_settle_43L n v_setCount v_draft_units a_nameUnits a_setNames a_setValues j) ((5 - (x1).toInt).toNat) (fun y0 y1 y2 y3 y4 w0 w1 w2 w3 w4 w5 w6 w7 w8 w9 w10 w11 w12 w13 w14 w15 hlt => ih y0 y1 y2 y3 y4 w0 w1 w2 w3 w4 w5 w6 w7 w8 w9 w10 w11 w12 w13 w14 w15 (by omega)) a_draft_settings a_draft_percents a_draft_yesLeads a_draft_noLeads x1 i0 i1 i2 i3 i4 i5 i6 i7 i8 i9 i10 i11 i12 i13 i14 i15 (Nat.le_refl _)
set_option maxHeartbeats 2000000 in
theorem sFX3_settle_2 (n : Nat) (hn : n = 3000) (v_setCount : Int32) (v_draft_units : Int32) (a_nameUnits : Nat → Int32) (a_setNames : Nat → Int32) (a_setValues : Nat → Int32) (gM : Int) (k2 : (Nat → Int32) → (Nat → Int32) → (Nat → Int32) → (Nat → Int32) → Int32 → Option (Unit × (Nat → Int32) × (Nat → Int32) × (Nat → Int32) × (Nat → Int32))) (mB2 : Nat) (hk2 : ∀ (a_draft_settings : Nat → Int32) (a_draft_percents : Nat → Int32) (a_draft_yesLeads : Nat → Int32) (a_draft_noLeads : Nat → Int32) (x1 : Int32), (0 ≤ (v_setCount).toInt) → ((v_setCount).toInt ≤ 80) → (0 ≤ (v_draft_units).toInt) → ((v_draft_units).toInt ≤ 5) → (0 ≤ gM) → (gM ≤ 96) → (∀ i : Nat, ((i : Int) < (v_setCount).toInt) → (0 ≤ (a_setNames i).toInt ∧ (a_setNames i).toInt < gM)) → (∀ i : Nat, ((i : Int) < gM) → (0 ≤ (a_nameUnits i).toInt ∧ (a_nameUnits i).toInt < (v_draft_units).toInt)) → (∀ i : Nat, (i < 5) → (0 ≤ (a_draft_settings i).toInt ∧ (a_draft_settings i).toInt ≤ 3)) → (∀ i : Nat, ((i : Int) < (v_draft_units).toInt) → ((10 ≤ (a_draft_yesLeads i).toInt ∧ (a_draft_yesLeads i).toInt ≤ 13) ∨ (a_draft_yesLeads i).toInt = 20 ∨ (100 ≤ (a_draft_yesLeads i).toInt ∧ (a_draft_yesLeads i).toInt < 100 + gM))) → (∀ i : Nat, ((i : Int) < (v_draft_units).toInt) → ((10 ≤ (a_draft_noLeads i).toInt ∧ (a_draft_noLeads i).toInt ≤ 13) ∨ (a_draft_noLeads i).toInt = 20 ∨ (100 ≤ (a_draft_noLeads i).toInt ∧ (a_draft_noLeads i).toInt < 100 + gM))) → (0 ≤ (x1).toInt) → ((x1).toInt ≤ (v_setCount).toInt) → (80 - (x1).toInt).toNat < mB2 → OK (k2 a_draft_settings a_draft_percents a_draft_yesLeads a_draft_noLeads x1) (fun u => (∀ i : Nat, ((i : Int) < (v_draft_units).toInt) → ((0 ≤ (u.2.2.2.1 i).toInt ∧ (u.2.2.2.1 i).toInt ≤ 4) ∨ (10 ≤ (u.2.2.2.1 i).toInt ∧ (u.2.2.2.1 i).toInt ≤ 13) ∨ (u.2.2.2.1 i).toInt = 20)) ∧ (∀ i : Nat, ((i : Int) < (v_draft_units).toInt) → ((0 ≤ (u.2.2.2.2 i).toInt ∧ (u.2.2.2.2 i).toInt ≤ 4) ∨ (10 ≤ (u.2.2.2.2 i).toInt ∧ (u.2.2.2.2 i).toInt ≤ 13) ∨ (u.2.2.2.2 i).toInt = 20)) ∧ (∀ i : Nat, ((i : Int) < (v_draft_units).toInt) → (1 ≤ (u.2.1 i).toInt ∧ (u.2.1 i).toInt ≤ 3)))) (a_draft_settings : Nat → Int32) (a_draft_percents : Nat → Int32) (a_draft_yesLeads : Nat → Int32) (a_draft_noLeads : Nat → Int32) (x1 : Int32) (i0 : 0 ≤ (v_setCount).toInt) (i1 : (v_setCount).toInt ≤ 80) (i2 : 0 ≤ (v_draft_units).toInt) (i3 : (v_draft_units).toInt ≤ 5) (i4 : 0 ≤ gM) (i5 : gM ≤ 96) (i6 : ∀ i : Nat, ((i : Int) < (v_setCount).toInt) → (0 ≤ (a_setNames i).toInt ∧ (a_setNames i).toInt < gM)) (i7 : ∀ i : Nat, ((i : Int) < gM) → (0 ≤ (a_nameUnits i).toInt ∧ (a_nameUnits i).toInt < (v_draft_units).toInt)) (i8 : ∀ i : Nat, (i < 5) → (0 ≤ (a_draft_settings i).toInt ∧ (a_draft_settings i).toInt ≤ 3)) (i9 : ∀ i : Nat, ((i : Int) < (v_draft_units).toInt) → ((10 ≤ (a_draft_yesLeads i).toInt ∧ (a_draft_yesLeads i).toInt ≤ 13) ∨ (a_draft_yesLeads i).toInt = 20 ∨ (100 ≤ (a_draft_yesLeads i).toInt ∧ (a_draft_yesLeads i).toInt < 100 + gM))) (i10 : ∀ i : Nat, ((i : Int) < (v_draft_units).toInt) → ((10 ≤ (a_draft_noLeads i).toInt ∧ (a_draft_noLeads i).toInt ≤ 13) ∨ (a_draft_noLeads i).toInt = 20 ∨ (100 ≤ (a_draft_noLeads i).toInt ∧ (a_draft_noLeads i).toInt < 100 + gM))) (i11 : 0 ≤ (x1).toInt) (i12 : (x1).toInt ≤ (v_setCount).toInt) (hmu : (80 - (x1).toInt).toNat ≤ mB2) : OK (FX3_settle_2 n v_setCount v_draft_units a_nameUnits a_setNames a_setValues k2 a_draft_settings a_draft_percents a_draft_yesLeads a_draft_noLeads x1) (fun u => (∀ i : Nat, ((i : Int) < (v_draft_units).toInt) → ((0 ≤ (u.2.2.2.1 i).toInt ∧ (u.2.2.2.1 i).toInt ≤ 4) ∨ (10 ≤ (u.2.2.2.1 i).toInt ∧ (u.2.2.2.1 i).toInt ≤ 13) ∨ (u.2.2.2.1 i).toInt = 20)) ∧ (∀ i : Nat, ((i : Int) < (v_draft_units).toInt) → ((0 ≤ (u.2.2.2.2 i).toInt ∧ (u.2.2.2.2 i).toInt ≤ 4) ∨ (10 ≤ (u.2.2.2.2 i).toInt ∧ (u.2.2.2.2 i).toInt ≤ 13) ∨ (u.2.2.2.2 i).toInt = 20)) ∧ (∀ i : Nat, ((i : Int) < (v_draft_units).toInt) → (1 ≤ (u.2.1 i).toInt ∧ (u.2.1 i).toInt ≤ 3))) := by
  unfold FX3_settle_2
  refine OK_if (fun c1307 => ?_) (fun c1307 => ?_)
  · have f1308 := le32k rfl rfl c1307
    have v1309 : HQ ((0 : Int32)).toInt 0 := HQ.mk (by decide)
    exact sFX3_settle_43L n hn v_setCount v_draft_units a_nameUnits a_setNames a_setValues gM n a_draft_settings a_draft_percents a_draft_yesLeads a_draft_noLeads (0 : Int32) i0 i1 i2 i3 i4 i5 i6 i7 i8 (by rw [v1309.out]; omega) (by rw [v1309.out]; omega) (by
        intro i hi
        try simp only [v1309.out] at hi
        try simp only [v1309.out]
        have f1310 := i9 i
        omega) (by
        intro i hi
        try simp only [v1309.out] at hi
        try simp only [v1309.out]
        have f1311 := i10 i
        omega) (by
        intro i hi
        try simp only [v1309.out] at hi
        try simp only [v1309.out]
        have f1312 := i9 i
        omega) (by
        intro i hi
        try simp only [v1309.out] at hi
        try simp only [v1309.out]
        have f1313 := i10 i
        omega) (by
        intro i hi
        try simp only [v1309.out] at hi
        try simp only [v1309.out]
        have f1314 := i8 i
        omega) (by omega)
  · have f1315 := nle32k rfl rfl c1307
    refine OK_ck (ckV rfl (by omega) (by omega)) ?_
    obtain ⟨m1316, v1317, f1318⟩ := tnV rfl (by omega)
    have v1319 : HQ ((a_setNames ((x1).toNatClampNeg))).toInt (a_setNames m1316).toInt := HQ.mk (by rw [v1317.out])
    have f1320 := i6 m1316
    refine OK_ck (ckV v1319.out (by omega) (by omega)) ?_
    obtain ⟨m1321, v1322, f1323⟩ := tnV v1319.out (by omega)
    have v1324 : HQ ((a_nameUnits (((a_setNames ((x1).toNatClampNeg))).toNatClampNeg))).toInt (a_nameUnits m1321).toInt := HQ.mk (by rw [v1322.out])
    have f1325 := i7 m1321
    have v1326 : HQ ((5 : Int32)).toInt 5 := HQ.mk (by decide)
    have v1327 : HQ ((x1 * (5 : Int32))).toInt ((x1).toInt * 5) := HQ.mk (mulV rfl v1326.out (by omega) (by omega))
    refine OK_bd (sX2_addSetting n hn a_setValues a_draft_settings a_draft_percents (a_nameUnits (((a_setNames ((x1).toNatClampNeg))).toNatClampNeg)) (x1 * (5 : Int32)) (by rw [v1324.out]; omega) (by rw [v1324.out]; omega) (by rw [v1327.out]; omega) (by rw [v1327.out]; omega) i8) (fun u_5 p_u_5 => ?_)
    have p1328 := p_u_5
    have v1329 : HQ ((1 : Int32)).toInt 1 := HQ.mk (by decide)
    have v1330 : HQ ((x1 + (1 : Int32))).toInt ((x1).toInt + 1) := HQ.mk (addV rfl v1329.out (by omega) (by omega))
    refine OK_lt (fun x_6 e_x_6 => ?_)
    have f1331 : (x_6).toInt = ((x1).toInt + 1) := by rw [e_x_6]; exact v1330.out
    exact hk2 u_5.2.1 u_5.2.2 a_draft_yesLeads a_draft_noLeads x_6 i0 i1 i2 i3 i4 i5 i6 i7 p1328 i9 i10 (by omega) (by omega) (by omega)
theorem sFX3_settle_2L (n : Nat) (hn : n = 3000) (v_setCount : Int32) (v_draft_units : Int32) (a_nameUnits : Nat → Int32) (a_setNames : Nat → Int32) (a_setValues : Nat → Int32) (gM : Int) : ∀ (j : Nat) (a_draft_settings : Nat → Int32) (a_draft_percents : Nat → Int32) (a_draft_yesLeads : Nat → Int32) (a_draft_noLeads : Nat → Int32) (x1 : Int32), (0 ≤ (v_setCount).toInt) → ((v_setCount).toInt ≤ 80) → (0 ≤ (v_draft_units).toInt) → ((v_draft_units).toInt ≤ 5) → (0 ≤ gM) → (gM ≤ 96) → (∀ i : Nat, ((i : Int) < (v_setCount).toInt) → (0 ≤ (a_setNames i).toInt ∧ (a_setNames i).toInt < gM)) → (∀ i : Nat, ((i : Int) < gM) → (0 ≤ (a_nameUnits i).toInt ∧ (a_nameUnits i).toInt < (v_draft_units).toInt)) → (∀ i : Nat, (i < 5) → (0 ≤ (a_draft_settings i).toInt ∧ (a_draft_settings i).toInt ≤ 3)) → (∀ i : Nat, ((i : Int) < (v_draft_units).toInt) → ((10 ≤ (a_draft_yesLeads i).toInt ∧ (a_draft_yesLeads i).toInt ≤ 13) ∨ (a_draft_yesLeads i).toInt = 20 ∨ (100 ≤ (a_draft_yesLeads i).toInt ∧ (a_draft_yesLeads i).toInt < 100 + gM))) → (∀ i : Nat, ((i : Int) < (v_draft_units).toInt) → ((10 ≤ (a_draft_noLeads i).toInt ∧ (a_draft_noLeads i).toInt ≤ 13) ∨ (a_draft_noLeads i).toInt = 20 ∨ (100 ≤ (a_draft_noLeads i).toInt ∧ (a_draft_noLeads i).toInt < 100 + gM))) → (0 ≤ (x1).toInt) → ((x1).toInt ≤ (v_setCount).toInt) → (80 - (x1).toInt).toNat < j → OK (FX3_settle_2L n v_setCount v_draft_units a_nameUnits a_setNames a_setValues j a_draft_settings a_draft_percents a_draft_yesLeads a_draft_noLeads x1) (fun u => (∀ i : Nat, ((i : Int) < (v_draft_units).toInt) → ((0 ≤ (u.2.2.2.1 i).toInt ∧ (u.2.2.2.1 i).toInt ≤ 4) ∨ (10 ≤ (u.2.2.2.1 i).toInt ∧ (u.2.2.2.1 i).toInt ≤ 13) ∨ (u.2.2.2.1 i).toInt = 20)) ∧ (∀ i : Nat, ((i : Int) < (v_draft_units).toInt) → ((0 ≤ (u.2.2.2.2 i).toInt ∧ (u.2.2.2.2 i).toInt ≤ 4) ∨ (10 ≤ (u.2.2.2.2 i).toInt ∧ (u.2.2.2.2 i).toInt ≤ 13) ∨ (u.2.2.2.2 i).toInt = 20)) ∧ (∀ i : Nat, ((i : Int) < (v_draft_units).toInt) → (1 ≤ (u.2.1 i).toInt ∧ (u.2.1 i).toInt ≤ 3))) := by
  intro j
  induction j with
  | zero => intro _ _ _ _ _ _ _ _ _ _ _ _ _ _ _ _ _ _ hj; exact absurd hj (Nat.not_lt_zero _)
  | succ j ih =>
    intro a_draft_settings a_draft_percents a_draft_yesLeads a_draft_noLeads x1 i0 i1 i2 i3 i4 i5 i6 i7 i8 i9 i10 i11 i12 hj
    exact sFX3_settle_2 n hn v_setCount v_draft_units a_nameUnits a_setNames a_setValues gM (FX3_settle_2L n v_setCount v_draft_units a_nameUnits a_setNames a_setValues j) ((80 - (x1).toInt).toNat) (fun y0 y1 y2 y3 y4 w0 w1 w2 w3 w4 w5 w6 w7 w8 w9 w10 w11 w12 hlt => ih y0 y1 y2 y3 y4 w0 w1 w2 w3 w4 w5 w6 w7 w8 w9 w10 w11 w12 (by omega)) a_draft_settings a_draft_percents a_draft_yesLeads a_draft_noLeads x1 i0 i1 i2 i3 i4 i5 i6 i7 i8 i9 i10 i11 i12 (Nat.le_refl _)
set_option maxHeartbeats 2000000 in
theorem sX3_settle (n : Nat) (hn : n = 3000) (v_setCount : Int32) (v_draft_units : Int32) (a_nameUnits : Nat → Int32) (a_setNames : Nat → Int32) (a_setValues : Nat → Int32) (a_draft_settings : Nat → Int32) (a_draft_percents : Nat → Int32) (a_draft_yesLeads : Nat → Int32) (a_draft_noLeads : Nat → Int32) (gM : Int) (i0 : 0 ≤ (v_setCount).toInt) (i1 : (v_setCount).toInt ≤ 80) (i2 : 0 ≤ (v_draft_units).toInt) (i3 : (v_draft_units).toInt ≤ 5) (i4 : 0 ≤ gM) (i5 : gM ≤ 96) (i6 : ∀ i : Nat, ((i : Int) < (v_setCount).toInt) → (0 ≤ (a_setNames i).toInt ∧ (a_setNames i).toInt < gM)) (i7 : ∀ i : Nat, ((i : Int) < gM) → (0 ≤ (a_nameUnits i).toInt ∧ (a_nameUnits i).toInt < (v_draft_units).toInt)) (i8 : ∀ i : Nat, (i < 5) → (0 ≤ (a_draft_settings i).toInt ∧ (a_draft_settings i).toInt ≤ 3)) (i9 : ∀ i : Nat, ((i : Int) < (v_draft_units).toInt) → ((10 ≤ (a_draft_yesLeads i).toInt ∧ (a_draft_yesLeads i).toInt ≤ 13) ∨ (a_draft_yesLeads i).toInt = 20 ∨ (100 ≤ (a_draft_yesLeads i).toInt ∧ (a_draft_yesLeads i).toInt < 100 + gM))) (i10 : ∀ i : Nat, ((i : Int) < (v_draft_units).toInt) → ((10 ≤ (a_draft_noLeads i).toInt ∧ (a_draft_noLeads i).toInt ≤ 13) ∨ (a_draft_noLeads i).toInt = 20 ∨ (100 ≤ (a_draft_noLeads i).toInt ∧ (a_draft_noLeads i).toInt < 100 + gM))) : OK (FX3_settle n v_setCount v_draft_units a_nameUnits a_setNames a_setValues a_draft_settings a_draft_percents a_draft_yesLeads a_draft_noLeads) (fun u => (∀ i : Nat, ((i : Int) < (v_draft_units).toInt) → ((0 ≤ (u.2.2.2.1 i).toInt ∧ (u.2.2.2.1 i).toInt ≤ 4) ∨ (10 ≤ (u.2.2.2.1 i).toInt ∧ (u.2.2.2.1 i).toInt ≤ 13) ∨ (u.2.2.2.1 i).toInt = 20)) ∧ (∀ i : Nat, ((i : Int) < (v_draft_units).toInt) → ((0 ≤ (u.2.2.2.2 i).toInt ∧ (u.2.2.2.2 i).toInt ≤ 4) ∨ (10 ≤ (u.2.2.2.2 i).toInt ∧ (u.2.2.2.2 i).toInt ≤ 13) ∨ (u.2.2.2.2 i).toInt = 20)) ∧ (∀ i : Nat, ((i : Int) < (v_draft_units).toInt) → (1 ≤ (u.2.1 i).toInt ∧ (u.2.1 i).toInt ≤ 3))) := by
  unfold FX3_settle
  have v1332 : HQ ((0 : Int32)).toInt 0 := HQ.mk (by decide)
  exact sFX3_settle_2L n hn v_setCount v_draft_units a_nameUnits a_setNames a_setValues gM n a_draft_settings a_draft_percents a_draft_yesLeads a_draft_noLeads (0 : Int32) i0 i1 i2 i3 i4 i5 i6 i7 i8 i9 i10 (by rw [v1332.out]; omega) (by rw [v1332.out]; omega) (by omega)
