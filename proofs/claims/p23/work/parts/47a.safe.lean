set_option maxHeartbeats 2000000 in
theorem sFX7_unitOf_5 (n : Nat) (hn : n = 2200000000) (a_unitMany : Nat → Int32) (a_uName : Nat → Int64) (z1 : Int32) (z2 : Int64) (gU : Int) (k5 : Int32 → Int64 → Int32 → Option (Int32 × Unit)) (mB5 : Nat) (hk5 : ∀ (x1 : Int32) (x2 : Int64) (x4 : Int32), (0 ≤ (z1).toInt) → ((z1).toInt ≤ 1) → (∀ i : Nat, (i < 2) → (0 ≤ (a_unitMany i).toInt ∧ (a_unitMany i).toInt ≤ 5)) → (∀ i : Nat, ((i : Int) = (z1).toInt) → ((a_unitMany i).toInt = gU)) → (0 ≤ gU) → (gU ≤ 5) → ((x1).toInt = (z1).toInt) → (5 * (x1).toInt ≤ (x4).toInt) → ((x4).toInt ≤ 5 * (x1).toInt + 5) → (x2 = z2) → (10 - (x4).toInt).toNat < mB5 → OK (k5 x1 x2 x4) (fun u => (-1 ≤ (u.1).toInt) ∧ ((u.1).toInt < gU ∨ (u.1).toInt = -1) ∧ ((u.1).toInt ≤ 4) ∧ (0 ≤ (u.1).toInt → a_uName (5 * (z1).toInt + (u.1).toInt).toNat = z2))) (x1 : Int32) (x2 : Int64) (x4 : Int32) (i0 : 0 ≤ (z1).toInt) (i1 : (z1).toInt ≤ 1) (i2 : ∀ i : Nat, (i < 2) → (0 ≤ (a_unitMany i).toInt ∧ (a_unitMany i).toInt ≤ 5)) (i3 : ∀ i : Nat, ((i : Int) = (z1).toInt) → ((a_unitMany i).toInt = gU)) (i4 : 0 ≤ gU) (i5 : gU ≤ 5) (i6 : (x1).toInt = (z1).toInt) (i7 : 5 * (x1).toInt ≤ (x4).toInt) (i8 : (x4).toInt ≤ 5 * (x1).toInt + 5) (c_zz : x2 = z2) (hmu : (10 - (x4).toInt).toNat ≤ mB5) : OK (FX7_unitOf_5 n a_unitMany a_uName z1 z2 k5 x1 x2 x4) (fun u => (-1 ≤ (u.1).toInt) ∧ ((u.1).toInt < gU ∨ (u.1).toInt = -1) ∧ ((u.1).toInt ≤ 4) ∧ (0 ≤ (u.1).toInt → a_uName (5 * (z1).toInt + (u.1).toInt).toNat = z2)) := by
  unfold FX7_unitOf_5
  refine OK_ck (ckV rfl (by omega) (by omega)) ?_
  refine OK_if (fun c2414 => ?_) (fun c2414 => ?_)
  · have v2415 : HQ ((5 : Int32)).toInt 5 := HQ.mk (by decide)
    have v2416 : HQ (((5 : Int32) * x1)).toInt (5 * (x1).toInt) := HQ.mk (mulV v2415.out rfl (by omega) (by omega))
    obtain ⟨m2417, v2418, f2419⟩ := tnV (e := x1) rfl (by omega)
    have v2420 : HQ ((a_unitMany ((x1).toNatClampNeg))).toInt (a_unitMany m2417).toInt := HQ.mk (by rw [v2418.out])
    have f2421 := i2 m2417
    have f2422 := i3 m2417
    have v2423 : HQ ((((5 : Int32) * x1) + (a_unitMany ((x1).toNatClampNeg)))).toInt ((5 * (x1).toInt) + (a_unitMany m2417).toInt) := HQ.mk (addV v2416.out v2420.out (by omega) (by omega))
    have f2424 := le32k v2423.out rfl c2414
    have v2425 : HQ ((-1 : Int32)).toInt (-1) := HQ.mk (by decide)
    exact OK_some (show (-1 ≤ ((-1 : Int32)).toInt) ∧ (((-1 : Int32)).toInt < gU ∨ ((-1 : Int32)).toInt = -1) ∧ (((-1 : Int32)).toInt ≤ 4) ∧ (0 ≤ ((-1 : Int32)).toInt → a_uName (5 * (z1).toInt + ((-1 : Int32)).toInt).toNat = z2) from ⟨(by (rw [v2425.out]) <;> omega), (by (rw [v2425.out]) <;> omega), (by (rw [v2425.out]) <;> omega), (by first | exact (fun h => absurd h (by decide)) | exact (fun _ => unf (lg0 (by assumption)) c_zz (by omega) (by omega) (by omega) (by omega) (by omega)))⟩)
  · have v2426 : HQ ((5 : Int32)).toInt 5 := HQ.mk (by decide)
    have v2427 : HQ (((5 : Int32) * x1)).toInt (5 * (x1).toInt) := HQ.mk (mulV v2426.out rfl (by omega) (by omega))
    obtain ⟨m2428, v2429, f2430⟩ := tnV (e := x1) rfl (by omega)
    have v2431 : HQ ((a_unitMany ((x1).toNatClampNeg))).toInt (a_unitMany m2428).toInt := HQ.mk (by rw [v2429.out])
    have f2432 := i2 m2428
    have f2433 := i3 m2428
    have v2434 : HQ ((((5 : Int32) * x1) + (a_unitMany ((x1).toNatClampNeg)))).toInt ((5 * (x1).toInt) + (a_unitMany m2428).toInt) := HQ.mk (addV v2427.out v2431.out (by omega) (by omega))
    have f2435 := nle32k v2434.out rfl c2414
    refine OK_ck (ckV rfl (by omega) (by omega)) ?_
    refine OK_if (fun c2436 => ?_) (fun c2436 => ?_)
    · obtain ⟨m2437, v2438, f2439⟩ := tnV (e := x4) rfl (by omega)
      have v2440 : HQ ((a_uName ((x4).toNatClampNeg))).toInt (a_uName m2437).toInt := HQ.mk (by rw [v2438.out])
      obtain ⟨y2441, v2442, f2443⟩ := lgV (a := (a_uName ((x4).toNatClampNeg))) (b := x2) v2440.out rfl
      have v2444 : HQ ((0 : Int32)).toInt 0 := HQ.mk (by decide)
      have f2445 := eq32k v2442.out v2444.out c2436
      have v2446 : HQ ((x4 - ((5 : Int32) * x1))).toInt ((x4).toInt - (5 * (x1).toInt)) := HQ.mk (subV rfl v2427.out (by omega) (by omega))
      exact OK_some (show (-1 ≤ ((x4 - ((5 : Int32) * x1))).toInt) ∧ (((x4 - ((5 : Int32) * x1))).toInt < gU ∨ ((x4 - ((5 : Int32) * x1))).toInt = -1) ∧ (((x4 - ((5 : Int32) * x1))).toInt ≤ 4) ∧ (0 ≤ ((x4 - ((5 : Int32) * x1))).toInt → a_uName (5 * (z1).toInt + ((x4 - ((5 : Int32) * x1))).toInt).toNat = z2) from ⟨(by (rw [v2446.out]) <;> omega), (by (rw [v2446.out]) <;> omega), (by (rw [v2446.out]) <;> omega), (by first | exact (fun h => absurd h (by decide)) | exact (fun _ => unf (lg0 (by assumption)) c_zz (by omega) (by omega) (by omega) (by omega) (by omega)))⟩)
    · obtain ⟨m2447, v2448, f2449⟩ := tnV (e := x4) rfl (by omega)
      have v2450 : HQ ((a_uName ((x4).toNatClampNeg))).toInt (a_uName m2447).toInt := HQ.mk (by rw [v2448.out])
      obtain ⟨y2451, v2452, f2453⟩ := lgV (a := (a_uName ((x4).toNatClampNeg))) (b := x2) v2450.out rfl
      have v2454 : HQ ((0 : Int32)).toInt 0 := HQ.mk (by decide)
      have f2455 := neq32k v2452.out v2454.out c2436
      have v2456 : HQ ((1 : Int32)).toInt 1 := HQ.mk (by decide)
      have v2457 : HQ ((x4 + (1 : Int32))).toInt ((x4).toInt + 1) := HQ.mk (addV rfl v2456.out (by omega) (by omega))
      refine OK_lt (fun x_6 e_x_6 => ?_)
      have f2458 : (x_6).toInt = ((x4).toInt + 1) := by rw [e_x_6]; exact v2457.out
      exact hk5 x1 x2 x_6 i0 i1 i2 i3 i4 i5 i6 (by omega) (by omega) c_zz (by omega)
theorem sFX7_unitOf_5L (n : Nat) (hn : n = 2200000000) (a_unitMany : Nat → Int32) (a_uName : Nat → Int64) (z1 : Int32) (z2 : Int64) (gU : Int) : ∀ (j : Nat) (x1 : Int32) (x2 : Int64) (x4 : Int32), (0 ≤ (z1).toInt) → ((z1).toInt ≤ 1) → (∀ i : Nat, (i < 2) → (0 ≤ (a_unitMany i).toInt ∧ (a_unitMany i).toInt ≤ 5)) → (∀ i : Nat, ((i : Int) = (z1).toInt) → ((a_unitMany i).toInt = gU)) → (0 ≤ gU) → (gU ≤ 5) → ((x1).toInt = (z1).toInt) → (5 * (x1).toInt ≤ (x4).toInt) → ((x4).toInt ≤ 5 * (x1).toInt + 5) → (x2 = z2) → (10 - (x4).toInt).toNat < j → OK (FX7_unitOf_5L n a_unitMany a_uName z1 z2 j x1 x2 x4) (fun u => (-1 ≤ (u.1).toInt) ∧ ((u.1).toInt < gU ∨ (u.1).toInt = -1) ∧ ((u.1).toInt ≤ 4) ∧ (0 ≤ (u.1).toInt → a_uName (5 * (z1).toInt + (u.1).toInt).toNat = z2)) := by
  intro j
  induction j with
  | zero => intro _ _ _ _ _ _ _ _ _ _ _ _ _ hj; exact absurd hj (Nat.not_lt_zero _)
  | succ j ih =>
    intro x1 x2 x4 i0 i1 i2 i3 i4 i5 i6 i7 i8 c_zz hj
    exact sFX7_unitOf_5 n hn a_unitMany a_uName z1 z2 gU (FX7_unitOf_5L n a_unitMany a_uName z1 z2 j) ((10 - (x4).toInt).toNat) (fun y0 y1 y2 w0 w1 w2 w3 w4 w5 w6 w7 w8 w9 hlt => ih y0 y1 y2 w0 w1 w2 w3 w4 w5 w6 w7 w8 w9 (by omega)) x1 x2 x4 i0 i1 i2 i3 i4 i5 i6 i7 i8 c_zz (Nat.le_refl _)
set_option maxHeartbeats 2000000 in
theorem sX7_unitOf (n : Nat) (hn : n = 2200000000) (a_unitMany : Nat → Int32) (a_uName : Nat → Int64) (z1 : Int32) (z2 : Int64) (gU : Int) (i0 : 0 ≤ (z1).toInt) (i1 : (z1).toInt ≤ 1) (i2 : ∀ i : Nat, (i < 2) → (0 ≤ (a_unitMany i).toInt ∧ (a_unitMany i).toInt ≤ 5)) (i3 : ∀ i : Nat, ((i : Int) = (z1).toInt) → ((a_unitMany i).toInt = gU)) (i4 : 0 ≤ gU) (i5 : gU ≤ 5) : OK (FX7_unitOf n a_unitMany a_uName z1 z2) (fun u => (-1 ≤ (u.1).toInt) ∧ ((u.1).toInt < gU ∨ (u.1).toInt = -1) ∧ ((u.1).toInt ≤ 4) ∧ (0 ≤ (u.1).toInt → a_uName (5 * (z1).toInt + (u.1).toInt).toNat = z2)) := by
  unfold FX7_unitOf
  have v2459 : HQ ((5 : Int32)).toInt 5 := HQ.mk (by decide)
  have v2460 : HQ (((5 : Int32) * z1)).toInt (5 * (z1).toInt) := HQ.mk (mulV v2459.out rfl (by omega) (by omega))
  refine OK_lt (fun x_1 e_x_1 => ?_)
  have f2461 : (x_1).toInt = (5 * (z1).toInt) := by rw [e_x_1]; exact v2460.out
  exact sFX7_unitOf_5L n hn a_unitMany a_uName z1 z2 gU n z1 z2 x_1 i0 i1 i2 i3 i4 i5 (by omega) (by omega) (by omega) (rfl) (by omega)
set_option maxHeartbeats 2000000 in
theorem sFX7_named_36 (n : Nat) (hn : n = 2200000000) (v_rb : Int32) (a_unitMany : Nat → Int32) (a_uName : Nat → Int64) (z1 : Int64) (z3 : Int32) (gU : Int) (gM0 : Int) (v_missing : Int32) (x4 : Int32) (i0 : 0 ≤ (v_rb).toInt) (i1 : (v_rb).toInt ≤ 1) (i2 : ∀ i : Nat, (i < 2) → (0 ≤ (a_unitMany i).toInt ∧ (a_unitMany i).toInt ≤ 5)) (i3 : ∀ i : Nat, ((i : Int) = (v_rb).toInt) → ((a_unitMany i).toInt = gU)) (i4 : 0 ≤ gU) (i5 : gU ≤ 5) (i6 : -1 ≤ (x4).toInt) (i7 : (x4).toInt ≤ 4) (i8 : (x4).toInt < gU ∨ (x4).toInt = -1) (c_nn : 0 ≤ (x4).toInt → a_uName (5 * (v_rb).toInt + (x4).toInt).toNat = z1) (i10 : ((x4).toInt < 0 ∧ 0 ≤ (z3).toInt) → 0 ≤ (v_missing).toInt) (i11 : (v_missing).toInt < 0 → gM0 < 0 ∨ (z3).toInt < 0) : OK (FX7_named_36 n v_rb a_unitMany a_uName z1 z3 v_missing x4) (fun u => (0 ≤ (u.1).toInt) ∧ ((u.1).toInt ≤ 4) ∧ ((0 ≤ (z3).toInt ∧ (u.2).toInt < 0) → ((u.1).toInt < gU ∧ gM0 < 0)) ∧ ((0 ≤ (z3).toInt ∧ (u.2).toInt < 0) → a_uName (5 * (v_rb).toInt + (u.1).toInt).toNat = z1)) := by
  unfold FX7_named_36
  refine OK_if (fun c2462 => ?_) (fun c2462 => ?_)
  · have v2463 : HQ ((0 : Int32)).toInt 0 := HQ.mk (by decide)
    have f2464 := le32k v2463.out rfl c2462
    exact OK_some (show (0 ≤ (x4).toInt) ∧ ((x4).toInt ≤ 4) ∧ ((0 ≤ (z3).toInt ∧ (v_missing).toInt < 0) → ((x4).toInt < gU ∧ gM0 < 0)) ∧ ((0 ≤ (z3).toInt ∧ (v_missing).toInt < 0) → a_uName (5 * (v_rb).toInt + (x4).toInt).toNat = z1) from ⟨(by omega), i7, (by omega), (by first | exact (fun _ => c_nn (by omega)) | exact (fun h => absurd h.2 (by omega)))⟩)
  · have v2465 : HQ ((0 : Int32)).toInt 0 := HQ.mk (by decide)
    have f2466 := nle32k v2465.out rfl c2462
    exact OK_some (show (0 ≤ ((0 : Int32)).toInt) ∧ (((0 : Int32)).toInt ≤ 4) ∧ ((0 ≤ (z3).toInt ∧ (v_missing).toInt < 0) → (((0 : Int32)).toInt < gU ∧ gM0 < 0)) ∧ ((0 ≤ (z3).toInt ∧ (v_missing).toInt < 0) → a_uName (5 * (v_rb).toInt + ((0 : Int32)).toInt).toNat = z1) from ⟨(by (rw [v2465.out]) <;> omega), (by (rw [v2465.out]) <;> omega), (by (rw [v2465.out]) <;> omega), (by first | exact (fun _ => c_nn (by omega)) | exact (fun h => absurd h.2 (by omega)))⟩)
set_option maxHeartbeats 2000000 in
theorem sFX7_named_31 (n : Nat) (hn : n = 2200000000) (v_rb : Int32) (a_unitMany : Nat → Int32) (a_uName : Nat → Int64) (z1 : Int64) (z3 : Int32) (gU : Int) (gM0 : Int) (v_missing : Int32) (x3 : Int32) (x4 : Int32) (i0 : 0 ≤ (v_rb).toInt) (i1 : (v_rb).toInt ≤ 1) (i2 : ∀ i : Nat, (i < 2) → (0 ≤ (a_unitMany i).toInt ∧ (a_unitMany i).toInt ≤ 5)) (i3 : ∀ i : Nat, ((i : Int) = (v_rb).toInt) → ((a_unitMany i).toInt = gU)) (i4 : 0 ≤ gU) (i5 : gU ≤ 5) (i6 : (x3).toInt = (z3).toInt) (i7 : -1 ≤ (x4).toInt) (i8 : (x4).toInt ≤ -1) : OK (FX7_named_31 n v_rb a_unitMany a_uName z1 z3 v_missing x3 x4) (fun u => (0 ≤ (u.1).toInt) ∧ ((u.1).toInt ≤ 4) ∧ ((0 ≤ (z3).toInt ∧ (u.2).toInt < 0) → ((u.1).toInt < gU ∧ gM0 < 0)) ∧ ((0 ≤ (z3).toInt ∧ (u.2).toInt < 0) → a_uName (5 * (v_rb).toInt + (u.1).toInt).toNat = z1)) := by
  unfold FX7_named_31
  exact sFX7_named_36 n hn v_rb a_unitMany a_uName z1 z3 gU gM0 x3 x4 i0 i1 i2 i3 i4 i5 i7 (by omega) (by omega) (fun h => absurd h (by omega)) (by omega) (by omega)
set_option maxHeartbeats 2000000 in
theorem sX7_named (n : Nat) (hn : n = 2200000000) (v_rb : Int32) (v_missing : Int32) (a_unitMany : Nat → Int32) (a_uName : Nat → Int64) (z1 : Int64) (z3 : Int32) (gU : Int) (gM0 : Int) (i0 : 0 ≤ (v_rb).toInt) (i1 : (v_rb).toInt ≤ 1) (i2 : ∀ i : Nat, (i < 2) → (0 ≤ (a_unitMany i).toInt ∧ (a_unitMany i).toInt ≤ 5)) (i3 : ∀ i : Nat, ((i : Int) = (v_rb).toInt) → ((a_unitMany i).toInt = gU)) (i4 : 0 ≤ gU) (i5 : gU ≤ 5) (i6 : gM0 = (v_missing).toInt) : OK (FX7_named n v_rb v_missing a_unitMany a_uName z1 z3) (fun u => (0 ≤ (u.1).toInt) ∧ ((u.1).toInt ≤ 4) ∧ ((0 ≤ (z3).toInt ∧ (u.2).toInt < 0) → ((u.1).toInt < gU ∧ gM0 < 0)) ∧ ((0 ≤ (z3).toInt ∧ (u.2).toInt < 0) → a_uName (5 * (v_rb).toInt + (u.1).toInt).toNat = z1)) := by
  unfold FX7_named
  refine OK_bd (sX7_unitOf n hn a_unitMany a_uName v_rb z1 (gU) i0 i1 i2 (by
      intro i hi
      have f2467 := i2 i
      have f2468 := i3 i
      omega) (by omega) (by omega)) (fun u_2 p_u_2 => ?_)
  obtain ⟨p2469, p2470, p2471, c_un⟩ := p_u_2
  refine OK_if (fun c2472 => ?_) (fun c2472 => ?_)
  · have v2473 : HQ ((0 : Int32)).toInt 0 := HQ.mk (by decide)
    have f2474 := le32k v2473.out rfl c2472
    exact sFX7_named_36 n hn v_rb a_unitMany a_uName z1 z3 gU gM0 v_missing u_2.1 i0 i1 i2 i3 i4 i5 p2469 p2471 (by omega) c_un (by omega) (by omega)
  · have v2475 : HQ ((0 : Int32)).toInt 0 := HQ.mk (by decide)
    have f2476 := nle32k v2475.out rfl c2472
    refine OK_if (fun c2477 => ?_) (fun c2477 => ?_)
    · have f2478 := lt32k rfl v2475.out c2477
      exact sFX7_named_31 n hn v_rb a_unitMany a_uName z1 z3 gU gM0 v_missing z3 u_2.1 i0 i1 i2 i3 i4 i5 (by omega) p2469 (by omega)
    · have f2479 := nlt32k rfl v2475.out c2477
      refine OK_if (fun c2480 => ?_) (fun c2480 => ?_)
      · have f2481 := le32k rfl rfl c2480
        exact sFX7_named_36 n hn v_rb a_unitMany a_uName z1 z3 gU gM0 v_missing u_2.1 i0 i1 i2 i3 i4 i5 p2469 p2471 (by omega) c_un (by omega) (by omega)
      · have f2482 := nle32k rfl rfl c2480
        exact sFX7_named_31 n hn v_rb a_unitMany a_uName z1 z3 gU gM0 v_missing z3 u_2.1 i0 i1 i2 i3 i4 i5 (by omega) p2469 (by omega)
