set_option maxHeartbeats 2000000 in
theorem sX7_out (n : Nat) (hn : n = 2200000000) (v_size : Int32) (v_faultKind : Int32) (v_faultPlace : Int32) (v_at : Int32) (v_end : Int32) (v_token : Int32) (v_number : Int32) (v_name : Int64) (a_outName : Nat → Int64) (a_outPlace : Nat → Int32) (a_text : Nat → Int32) (z1 : Int32) (i0 : (v_size).toInt ≤ 1200) (i1 : 0 ≤ (v_at).toInt) (i2 : (v_at).toInt ≤ (v_end).toInt) (i3 : (v_end).toInt ≤ (v_size).toInt) (i4 : (v_token).toInt ≠ 0 → (v_at).toInt < (v_end).toInt) (i5 : (v_token).toInt = 4 → (0 ≤ (v_number).toInt ∧ (v_number).toInt ≤ 99999)) (i6 : (v_token).toInt = 4 → (sgv v_size a_text (v_end).toInt < 48 ∨ 57 < sgv v_size a_text (v_end).toInt)) (i7 : 0 ≤ (v_faultKind).toInt) (i8 : 0 ≤ (z1).toInt) (i9 : (z1).toInt ≤ 9) : OK (FX7_out n v_size v_faultKind v_faultPlace v_at v_end v_token v_number v_name a_outName a_outPlace a_text z1) (fun u => (0 ≤ (u.2.2.2.1).toInt) ∧ ((u.2.2.2.1).toInt ≤ (u.2.2.2.2.1).toInt) ∧ ((u.2.2.2.2.1).toInt ≤ (v_size).toInt) ∧ ((u.2.2.2.2.2.1).toInt ≠ 0 → (u.2.2.2.1).toInt < (u.2.2.2.2.1).toInt) ∧ ((u.2.2.2.2.2.1).toInt = 4 → (0 ≤ (u.2.2.2.2.2.2.1).toInt ∧ (u.2.2.2.2.2.2.1).toInt ≤ 99999)) ∧ ((u.2.2.2.2.2.1).toInt = 4 → (sgv v_size a_text (u.2.2.2.2.1).toInt < 48 ∨ 57 < sgv v_size a_text (u.2.2.2.2.1).toInt)) ∧ (0 ≤ (u.2.1).toInt) ∧ ((v_at).toInt ≤ (u.2.2.2.1).toInt) ∧ ((v_faultKind).toInt ≠ 0 → (u.2.1).toInt ≠ 0) ∧ ((0 ≤ (u.1).toInt ∧ (u.1).toInt ≤ 4) ∨ (10 ≤ (u.1).toInt ∧ (u.1).toInt ≤ 13) ∨ (u.1).toInt = 20 ∨ (u.1).toInt = 30)) := by
  unfold FX7_out
  refine OK_bd (sX7_isGood n hn v_faultKind) (fun u_2 p_u_2 => ?_)
  have p2354 := p_u_2
  clear p_u_2
  refine OK_if (fun c2355 => ?_) (fun c2355 => ?_)
  · have v2356 : HQ ((0 : Int32)).toInt 0 := HQ.mk (by decide)
    have f2357 := eq32k rfl v2356.out c2355
    exact OK_some (show (0 ≤ (v_at).toInt) ∧ ((v_at).toInt ≤ (v_end).toInt) ∧ ((v_end).toInt ≤ (v_size).toInt) ∧ ((v_token).toInt ≠ 0 → (v_at).toInt < (v_end).toInt) ∧ ((v_token).toInt = 4 → (0 ≤ (v_number).toInt ∧ (v_number).toInt ≤ 99999)) ∧ ((v_token).toInt = 4 → (sgv v_size a_text (v_end).toInt < 48 ∨ 57 < sgv v_size a_text (v_end).toInt)) ∧ (0 ≤ (v_faultKind).toInt) ∧ ((v_at).toInt ≤ (v_at).toInt) ∧ ((v_faultKind).toInt ≠ 0 → (v_faultKind).toInt ≠ 0) ∧ ((0 ≤ ((0 : Int32)).toInt ∧ ((0 : Int32)).toInt ≤ 4) ∨ (10 ≤ ((0 : Int32)).toInt ∧ ((0 : Int32)).toInt ≤ 13) ∨ ((0 : Int32)).toInt = 20 ∨ ((0 : Int32)).toInt = 30) from ⟨i1, i2, i3, i4, i5, i6, i7, (by omega), (by omega), (by (rw [v2356.out]) <;> omega)⟩)
  · have v2358 : HQ ((0 : Int32)).toInt 0 := HQ.mk (by decide)
    have f2359 := neq32k rfl v2358.out c2355
    refine OK_if (fun c2360 => ?_) (fun c2360 => ?_)
    · have v2361 : HQ ((2 : Int32)).toInt 2 := HQ.mk (by decide)
      have f2362 := eq32k rfl v2361.out c2360
      refine OK_ck (ckV rfl (by omega) (by omega)) ?_
      obtain ⟨m2363, v2364, f2365⟩ := tnV (e := z1) rfl (by omega)
      refine OK_lt (fun f_17 e_f_17 => ?_)
      rw [v2364.out] at e_f_17
      refine OK_ck (ckV rfl (by omega) (by omega)) ?_
      refine OK_lt (fun f_19 e_f_19 => ?_)
      rw [v2364.out] at e_f_19
      refine OK_bd (sX7_next n hn v_size v_at v_end v_token v_number v_name a_text ((v_end).toInt) ((v_token).toInt) (by omega) i3 i0 (by omega) (by omega) (by omega)) (fun u_21 p_u_21 => ?_)
      obtain ⟨p2366, p2367, p2368, p2369, p2370, p2371, p2372⟩ := p_u_21
      have v2373 : HQ ((30 : Int32)).toInt 30 := HQ.mk (by decide)
      exact OK_some (show (0 ≤ (u_21.2.1).toInt) ∧ ((u_21.2.1).toInt ≤ (u_21.2.2.1).toInt) ∧ ((u_21.2.2.1).toInt ≤ (v_size).toInt) ∧ ((u_21.2.2.2.1).toInt ≠ 0 → (u_21.2.1).toInt < (u_21.2.2.1).toInt) ∧ ((u_21.2.2.2.1).toInt = 4 → (0 ≤ (u_21.2.2.2.2.1).toInt ∧ (u_21.2.2.2.2.1).toInt ≤ 99999)) ∧ ((u_21.2.2.2.1).toInt = 4 → (sgv v_size a_text (u_21.2.2.1).toInt < 48 ∨ 57 < sgv v_size a_text (u_21.2.2.1).toInt)) ∧ (0 ≤ (v_faultKind).toInt) ∧ ((v_at).toInt ≤ (u_21.2.1).toInt) ∧ ((v_faultKind).toInt ≠ 0 → (v_faultKind).toInt ≠ 0) ∧ ((0 ≤ ((30 : Int32)).toInt ∧ ((30 : Int32)).toInt ≤ 4) ∨ (10 ≤ ((30 : Int32)).toInt ∧ ((30 : Int32)).toInt ≤ 13) ∨ ((30 : Int32)).toInt = 20 ∨ ((30 : Int32)).toInt = 30) from ⟨(by omega), p2367, p2368, p2369, p2370, p2371, i7, (by omega), (by omega), (by (rw [v2373.out]) <;> omega)⟩)
    · have v2374 : HQ ((2 : Int32)).toInt 2 := HQ.mk (by decide)
      have f2375 := neq32k rfl v2374.out c2360
      refine OK_bd (sX7_isWord n hn v_token v_name (1650551909 : Int64)) (fun u_6 p_u_6 => ?_)
      have p2376 := p_u_6
      clear p_u_6
      refine OK_if (fun c2377 => ?_) (fun c2377 => ?_)
      · have f2378 := eq32k rfl v2358.out c2377
        refine OK_bd (sX7_isWord n hn v_token v_name (125779836236645 : Int64)) (fun u_9 p_u_9 => ?_)
        have p2379 := p_u_9
        clear p_u_9
        refine OK_bd (sX7_must n hn v_size v_faultKind v_faultPlace v_at v_end v_token v_number v_name a_text u_9.1 i0 i1 i2 i3 i4 i5 i6 i7) (fun u_11 p_u_11 => ?_)
        obtain ⟨p2380, p2381, p2382, p2383, p2384, p2385, p2386, p2387, p2388⟩ := p_u_11
        have v2389 : HQ ((20 : Int32)).toInt 20 := HQ.mk (by decide)
        exact OK_some (show (0 ≤ (u_11.2.2.2.1).toInt) ∧ ((u_11.2.2.2.1).toInt ≤ (u_11.2.2.2.2.1).toInt) ∧ ((u_11.2.2.2.2.1).toInt ≤ (v_size).toInt) ∧ ((u_11.2.2.2.2.2.1).toInt ≠ 0 → (u_11.2.2.2.1).toInt < (u_11.2.2.2.2.1).toInt) ∧ ((u_11.2.2.2.2.2.1).toInt = 4 → (0 ≤ (u_11.2.2.2.2.2.2.1).toInt ∧ (u_11.2.2.2.2.2.2.1).toInt ≤ 99999)) ∧ ((u_11.2.2.2.2.2.1).toInt = 4 → (sgv v_size a_text (u_11.2.2.2.2.1).toInt < 48 ∨ 57 < sgv v_size a_text (u_11.2.2.2.2.1).toInt)) ∧ (0 ≤ (u_11.2.1).toInt) ∧ ((v_at).toInt ≤ (u_11.2.2.2.1).toInt) ∧ ((v_faultKind).toInt ≠ 0 → (u_11.2.1).toInt ≠ 0) ∧ ((0 ≤ ((20 : Int32)).toInt ∧ ((20 : Int32)).toInt ≤ 4) ∨ (10 ≤ ((20 : Int32)).toInt ∧ ((20 : Int32)).toInt ≤ 13) ∨ ((20 : Int32)).toInt = 20 ∨ ((20 : Int32)).toInt = 30) from ⟨p2380, p2381, p2382, p2383, p2384, p2385, p2386, p2387, (by omega), (by (rw [v2389.out]) <;> omega)⟩)
      · have f2390 := neq32k rfl v2358.out c2377
        refine OK_bd (sX7_next n hn v_size v_at v_end v_token v_number v_name a_text ((v_end).toInt) ((v_token).toInt) (by omega) i3 i0 (by omega) (by omega) (by omega)) (fun u_13 p_u_13 => ?_)
        obtain ⟨p2391, p2392, p2393, p2394, p2395, p2396, p2397⟩ := p_u_13
        have v2398 : HQ ((3 : Int32)).toInt 3 := HQ.mk (by decide)
        refine OK_bd (sX7_numeral n hn v_size v_faultKind v_faultPlace u_13.2.1 u_13.2.2.1 u_13.2.2.2.1 u_13.2.2.2.2.1 u_13.2.2.2.2.2 a_text (3 : Int32) ((u_13.2.1).toInt) ((u_13.2.2.1).toInt) ((u_13.2.2.2.1).toInt) ((u_13.2.2.2.2.1).toInt) ((v_faultKind).toInt) i0 (by omega) p2392 p2393 p2394 p2395 p2396 i7 (by (rw [v2398.out]) <;> omega) (by omega) (by omega) (by omega) (by omega) (by omega)) (fun u_15 p_u_15 => ?_)
        obtain ⟨p2399, p2400, p2401, p2402, p2403, p2404, p2405, p2406, p2407, p2408, p2409, p2410, p2411⟩ := p_u_15
        try simp only [v2398.out] at p2411
        have v2412 : HQ ((10 : Int32)).toInt 10 := HQ.mk (by decide)
        have v2413 : HQ (((10 : Int32) + u_15.1)).toInt (10 + (u_15.1).toInt) := HQ.mk (addV v2412.out rfl (by omega) (by omega))
        exact OK_some (show (0 ≤ (u_15.2.2.2.1).toInt) ∧ ((u_15.2.2.2.1).toInt ≤ (u_15.2.2.2.2.1).toInt) ∧ ((u_15.2.2.2.2.1).toInt ≤ (v_size).toInt) ∧ ((u_15.2.2.2.2.2.1).toInt ≠ 0 → (u_15.2.2.2.1).toInt < (u_15.2.2.2.2.1).toInt) ∧ ((u_15.2.2.2.2.2.1).toInt = 4 → (0 ≤ (u_15.2.2.2.2.2.2.1).toInt ∧ (u_15.2.2.2.2.2.2.1).toInt ≤ 99999)) ∧ ((u_15.2.2.2.2.2.1).toInt = 4 → (sgv v_size a_text (u_15.2.2.2.2.1).toInt < 48 ∨ 57 < sgv v_size a_text (u_15.2.2.2.2.1).toInt)) ∧ (0 ≤ (u_15.2.1).toInt) ∧ ((v_at).toInt ≤ (u_15.2.2.2.1).toInt) ∧ ((v_faultKind).toInt ≠ 0 → (u_15.2.1).toInt ≠ 0) ∧ ((0 ≤ (((10 : Int32) + u_15.1)).toInt ∧ (((10 : Int32) + u_15.1)).toInt ≤ 4) ∨ (10 ≤ (((10 : Int32) + u_15.1)).toInt ∧ (((10 : Int32) + u_15.1)).toInt ≤ 13) ∨ (((10 : Int32) + u_15.1)).toInt = 20 ∨ (((10 : Int32) + u_15.1)).toInt = 30) from ⟨p2399, p2400, p2401, p2402, p2403, p2404, p2405, (by omega), (by omega), (by (rw [v2413.out]) <;> omega)⟩)
