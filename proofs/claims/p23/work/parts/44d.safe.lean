set_option maxHeartbeats 2000000 in
theorem sFX3_findNameless_39 (n : Nat) (hn : n = 2200000000) (v_nameCount : Int32) (a_nameUnits : Nat → Int32) (a_namePlaces : Nat → Int32) (k2 : Int32 → Int32 → Int32 → Option (Unit × Int32 × Int32)) (mB2 : Nat) (hk2 : ∀ (v_fault : Int32) (v_faultPlace : Int32) (x1 : Int32), (0 ≤ (v_nameCount).toInt) → ((v_nameCount).toInt ≤ 96) → (0 ≤ (x1).toInt) → ((x1).toInt ≤ (v_nameCount).toInt) → (∀ i : Nat, ((i : Int) < (x1).toInt ∧ (v_fault).toInt = 0) → ((a_nameUnits i).toInt ≠ -1)) → ((v_nameCount).toInt - (x1).toInt).toNat < mB2 → OK (k2 v_fault v_faultPlace x1) (fun u => (∀ i : Nat, ((i : Int) < (v_nameCount).toInt ∧ (u.2.1).toInt = 0) → ((a_nameUnits i).toInt ≠ -1)))) (v_fault : Int32) (v_faultPlace : Int32) (x1 : Int32) (i0 : 0 ≤ (v_nameCount).toInt) (i1 : (v_nameCount).toInt ≤ 96) (i2 : 0 ≤ (x1).toInt) (i3 : (x1).toInt < (v_nameCount).toInt) (i4 : ∀ i : Nat, ((i : Int) ≤ (x1).toInt ∧ (v_fault).toInt = 0) → ((a_nameUnits i).toInt ≠ -1)) (i5 : ((v_nameCount).toInt - (x1).toInt).toNat ≤ mB2) : OK (FX3_findNameless_39 n v_nameCount a_nameUnits a_namePlaces k2 v_fault v_faultPlace x1) (fun u => (∀ i : Nat, ((i : Int) < (v_nameCount).toInt ∧ (u.2.1).toInt = 0) → ((a_nameUnits i).toInt ≠ -1))) := by
  unfold FX3_findNameless_39
  have v1264 : HQ ((1 : Int32)).toInt 1 := HQ.mk (by decide)
  have v1265 : HQ ((x1 + (1 : Int32))).toInt ((x1).toInt + 1) := HQ.mk (addV rfl v1264.out (by omega) (by omega))
  refine OK_lt (fun x_8 e_x_8 => ?_)
  have f1266 : (x_8).toInt = ((x1).toInt + 1) := by rw [e_x_8]; exact v1265.out
  exact hk2 v_fault v_faultPlace x_8 i0 i1 (by omega) (by omega) (by
      intro i hi
      have f1267 := i4 i
      omega) (by omega)
set_option maxHeartbeats 2000000 in
theorem sFX3_findNameless_2 (n : Nat) (hn : n = 2200000000) (v_nameCount : Int32) (a_nameUnits : Nat → Int32) (a_namePlaces : Nat → Int32) (k2 : Int32 → Int32 → Int32 → Option (Unit × Int32 × Int32)) (mB2 : Nat) (hk2 : ∀ (v_fault : Int32) (v_faultPlace : Int32) (x1 : Int32), (0 ≤ (v_nameCount).toInt) → ((v_nameCount).toInt ≤ 96) → (0 ≤ (x1).toInt) → ((x1).toInt ≤ (v_nameCount).toInt) → (∀ i : Nat, ((i : Int) < (x1).toInt ∧ (v_fault).toInt = 0) → ((a_nameUnits i).toInt ≠ -1)) → ((v_nameCount).toInt - (x1).toInt).toNat < mB2 → OK (k2 v_fault v_faultPlace x1) (fun u => (∀ i : Nat, ((i : Int) < (v_nameCount).toInt ∧ (u.2.1).toInt = 0) → ((a_nameUnits i).toInt ≠ -1)))) (v_fault : Int32) (v_faultPlace : Int32) (x1 : Int32) (i0 : 0 ≤ (v_nameCount).toInt) (i1 : (v_nameCount).toInt ≤ 96) (i2 : 0 ≤ (x1).toInt) (i3 : (x1).toInt ≤ (v_nameCount).toInt) (i4 : ∀ i : Nat, ((i : Int) < (x1).toInt ∧ (v_fault).toInt = 0) → ((a_nameUnits i).toInt ≠ -1)) (hmu : ((v_nameCount).toInt - (x1).toInt).toNat ≤ mB2) : OK (FX3_findNameless_2 n v_nameCount a_nameUnits a_namePlaces k2 v_fault v_faultPlace x1) (fun u => (∀ i : Nat, ((i : Int) < (v_nameCount).toInt ∧ (u.2.1).toInt = 0) → ((a_nameUnits i).toInt ≠ -1))) := by
  unfold FX3_findNameless_2
  refine OK_if (fun c1268 => ?_) (fun c1268 => ?_)
  · have f1269 := le32k rfl rfl c1268
    exact OK_some (show (∀ i : Nat, ((i : Int) < (v_nameCount).toInt ∧ (v_fault).toInt = 0) → ((a_nameUnits i).toInt ≠ -1)) from (by
        intro i hi
        have f1270 := i4 i
        omega))
  · have f1271 := nle32k rfl rfl c1268
    refine OK_if (fun c1272 => ?_) (fun c1272 => ?_)
    · have v1273 : HQ ((0 : Int32)).toInt 0 := HQ.mk (by decide)
      have f1274 := eq32k rfl v1273.out c1272
      refine OK_ck (ckV rfl (by omega) (by omega)) ?_
      refine OK_if (fun c1275 => ?_) (fun c1275 => ?_)
      · obtain ⟨m1276, v1277, f1278⟩ := tnV (e := x1) rfl (by omega)
        have v1279 : HQ ((a_nameUnits ((x1).toNatClampNeg))).toInt (a_nameUnits m1276).toInt := HQ.mk (by rw [v1277.out])
        have f1280 := i4 m1276
        have v1281 : HQ ((-1 : Int32)).toInt (-1) := HQ.mk (by decide)
        have f1282 := eq32k v1279.out v1281.out c1275
        refine OK_ck (ckV rfl (by omega) (by omega)) ?_
        have v1283 : HQ ((6 : Int32)).toInt 6 := HQ.mk (by decide)
        refine OK_bd (sX3_fail n hn v_fault v_faultPlace (6 : Int32) (a_namePlaces ((x1).toNatClampNeg)) (by (rw [v1283.out]) <;> omega)) (fun u_7 p_u_7 => ?_)
        have p1284 := p_u_7
        clear p_u_7
        exact sFX3_findNameless_39 n hn v_nameCount a_nameUnits a_namePlaces k2 mB2 hk2 u_7.2.1 u_7.2.2 x1 i0 i1 i2 (by omega) (by
            intro i hi
            have f1285 := i4 i
            have f1286 := congAt a_nameUnits i m1276
            omega) (by omega)
      · obtain ⟨m1287, v1288, f1289⟩ := tnV (e := x1) rfl (by omega)
        have v1290 : HQ ((a_nameUnits ((x1).toNatClampNeg))).toInt (a_nameUnits m1287).toInt := HQ.mk (by rw [v1288.out])
        have f1291 := i4 m1287
        have v1292 : HQ ((-1 : Int32)).toInt (-1) := HQ.mk (by decide)
        have f1293 := neq32k v1290.out v1292.out c1275
        exact sFX3_findNameless_39 n hn v_nameCount a_nameUnits a_namePlaces k2 mB2 hk2 v_fault v_faultPlace x1 i0 i1 i2 (by omega) (by
            intro i hi
            have f1294 := i4 i
            have f1295 := congAt a_nameUnits i m1287
            omega) (by omega)
    · have v1296 : HQ ((0 : Int32)).toInt 0 := HQ.mk (by decide)
      have f1297 := neq32k rfl v1296.out c1272
      exact OK_some (show (∀ i : Nat, ((i : Int) < (v_nameCount).toInt ∧ (v_fault).toInt = 0) → ((a_nameUnits i).toInt ≠ -1)) from (by
          intro i hi
          have f1298 := i4 i
          omega))
theorem sFX3_findNameless_2L (n : Nat) (hn : n = 2200000000) (v_nameCount : Int32) (a_nameUnits : Nat → Int32) (a_namePlaces : Nat → Int32) : ∀ (j : Nat) (v_fault : Int32) (v_faultPlace : Int32) (x1 : Int32), (0 ≤ (v_nameCount).toInt) → ((v_nameCount).toInt ≤ 96) → (0 ≤ (x1).toInt) → ((x1).toInt ≤ (v_nameCount).toInt) → (∀ i : Nat, ((i : Int) < (x1).toInt ∧ (v_fault).toInt = 0) → ((a_nameUnits i).toInt ≠ -1)) → ((v_nameCount).toInt - (x1).toInt).toNat < j → OK (FX3_findNameless_2L n v_nameCount a_nameUnits a_namePlaces j v_fault v_faultPlace x1) (fun u => (∀ i : Nat, ((i : Int) < (v_nameCount).toInt ∧ (u.2.1).toInt = 0) → ((a_nameUnits i).toInt ≠ -1))) := by
  intro j
  induction j with
  | zero => intro _ _ _ _ _ _ _ _ hj; exact absurd hj (Nat.not_lt_zero _)
  | succ j ih =>
    intro v_fault v_faultPlace x1 i0 i1 i2 i3 i4 hj
    exact sFX3_findNameless_2 n hn v_nameCount a_nameUnits a_namePlaces (FX3_findNameless_2L n v_nameCount a_nameUnits a_namePlaces j) (((v_nameCount).toInt - (x1).toInt).toNat) (fun y0 y1 y2 w0 w1 w2 w3 w4 hlt => ih y0 y1 y2 w0 w1 w2 w3 w4 (by omega)) v_fault v_faultPlace x1 i0 i1 i2 i3 i4 (Nat.le_refl _)
set_option maxHeartbeats 2000000 in
theorem sX3_findNameless (n : Nat) (hn : n = 2200000000) (v_fault : Int32) (v_faultPlace : Int32) (v_nameCount : Int32) (a_nameUnits : Nat → Int32) (a_namePlaces : Nat → Int32) (i0 : 0 ≤ (v_nameCount).toInt) (i1 : (v_nameCount).toInt ≤ 96) : OK (FX3_findNameless n v_fault v_faultPlace v_nameCount a_nameUnits a_namePlaces) (fun u => (∀ i : Nat, ((i : Int) < (v_nameCount).toInt ∧ (u.2.1).toInt = 0) → ((a_nameUnits i).toInt ≠ -1))) := by
  unfold FX3_findNameless
  have v1299 : HQ ((0 : Int32)).toInt 0 := HQ.mk (by decide)
  exact sFX3_findNameless_2L n hn v_nameCount a_nameUnits a_namePlaces n v_fault v_faultPlace (0 : Int32) i0 i1 (by (rw [v1299.out]) <;> omega) (by (rw [v1299.out]) <;> omega) (by
      intro i hi
      try simp only [v1299.out] at hi
      try simp only [v1299.out]
      omega) (by (rw [v1299.out]) <;> omega)
set_option maxHeartbeats 2000000 in
theorem sX3_settled (n : Nat) (hn : n = 2200000000) (a_nameUnits : Nat → Int32) (z1 : Int32) (gM : Int) (gV : Int) (i0 : gM ≤ 96) (i1 : ∀ i : Nat, ((i : Int) < gM) → (0 ≤ (a_nameUnits i).toInt ∧ (a_nameUnits i).toInt < gV)) (i2 : (10 ≤ (z1).toInt ∧ (z1).toInt ≤ 13) ∨ (z1).toInt = 20 ∨ (100 ≤ (z1).toInt ∧ (z1).toInt < 100 + gM)) : OK (FX3_settled n a_nameUnits z1) (fun u => ((0 ≤ (u.1).toInt ∧ (u.1).toInt < gV) ∨ (10 ≤ (u.1).toInt ∧ (u.1).toInt ≤ 13) ∨ (u.1).toInt = 20)) := by
  unfold FX3_settled
  refine OK_if (fun c1300 => ?_) (fun c1300 => ?_)
  · have v1301 : HQ ((100 : Int32)).toInt 100 := HQ.mk (by decide)
    have f1302 := lt32k rfl v1301.out c1300
    exact OK_some (show ((0 ≤ (z1).toInt ∧ (z1).toInt < gV) ∨ (10 ≤ (z1).toInt ∧ (z1).toInt ≤ 13) ∨ (z1).toInt = 20) from (by omega))
  · have v1303 : HQ ((100 : Int32)).toInt 100 := HQ.mk (by decide)
    have f1304 := nlt32k rfl v1303.out c1300
    have v1305 : HQ ((z1 - (100 : Int32))).toInt ((z1).toInt - 100) := HQ.mk (subV rfl v1303.out (by omega) (by omega))
    refine OK_ck (ckV v1305.out (by omega) (by omega)) ?_
    obtain ⟨m1306, v1307, f1308⟩ := tnV (e := (z1 - (100 : Int32))) v1305.out (by omega)
    have v1309 : HQ ((a_nameUnits (((z1 - (100 : Int32))).toNatClampNeg))).toInt (a_nameUnits m1306).toInt := HQ.mk (by rw [v1307.out])
    have f1310 := i1 m1306
    exact OK_some (show ((0 ≤ ((a_nameUnits (((z1 - (100 : Int32))).toNatClampNeg))).toInt ∧ ((a_nameUnits (((z1 - (100 : Int32))).toNatClampNeg))).toInt < gV) ∨ (10 ≤ ((a_nameUnits (((z1 - (100 : Int32))).toNatClampNeg))).toInt ∧ ((a_nameUnits (((z1 - (100 : Int32))).toNatClampNeg))).toInt ≤ 13) ∨ ((a_nameUnits (((z1 - (100 : Int32))).toNatClampNeg))).toInt = 20) from (by (rw [v1309.out]) <;> omega))
