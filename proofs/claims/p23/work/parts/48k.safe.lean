set_option maxHeartbeats 2000000 in
theorem sX7_lorry (n : Nat) (hn : n = 2200000000) (v_lorries : Int32) (a_lTown : Nat → Int32) (a_lWeight : Nat → Int32) (a_lSampled : Nat → Int32) (a_isStruck : Nat → Int32) (z1 : Int32) (z2 : Int32) (z3 : Int32) (z4 : Int32) (z5 : Int32) (z6 : Int32) (z7 : Int32) (i0 : 0 ≤ (v_lorries).toInt) (i1 : (v_lorries).toInt ≤ 60) : OK (FX7_lorry n v_lorries a_lTown a_lWeight a_lSampled a_isStruck z1 z2 z3 z4 z5 z6 z7) (fun u => (0 ≤ (u.2.1).toInt) ∧ ((u.2.1).toInt ≤ 60)) := by
  unfold FX7_lorry
  refine OK_if (fun c4351 => ?_) (fun c4351 => ?_)
  · have v4352 : HQ ((0 : Int32)).toInt 0 := HQ.mk (by decide)
    have f4353 := lt32k rfl v4352.out c4351
    exact OK_some (show (0 ≤ (v_lorries).toInt) ∧ ((v_lorries).toInt ≤ 60) from ⟨i0, i1⟩)
  · have v4354 : HQ ((0 : Int32)).toInt 0 := HQ.mk (by decide)
    have f4355 := nlt32k rfl v4354.out c4351
    refine OK_if (fun c4356 => ?_) (fun c4356 => ?_)
    · have v4357 : HQ ((5 : Int32)).toInt 5 := HQ.mk (by decide)
      have f4358 := le32k v4357.out rfl c4356
      exact OK_some (show (0 ≤ (v_lorries).toInt) ∧ ((v_lorries).toInt ≤ 60) from ⟨i0, i1⟩)
    · have v4359 : HQ ((5 : Int32)).toInt 5 := HQ.mk (by decide)
      have f4360 := nle32k v4359.out rfl c4356
      refine OK_if (fun c4361 => ?_) (fun c4361 => ?_)
      · have v4362 : HQ ((1 : Int32)).toInt 1 := HQ.mk (by decide)
        have f4363 := lt32k rfl v4362.out c4361
        exact OK_some (show (0 ≤ (v_lorries).toInt) ∧ ((v_lorries).toInt ≤ 60) from ⟨i0, i1⟩)
      · have v4364 : HQ ((1 : Int32)).toInt 1 := HQ.mk (by decide)
        have f4365 := nlt32k rfl v4364.out c4361
        refine OK_if (fun c4366 => ?_) (fun c4366 => ?_)
        · have v4367 : HQ ((20000 : Int32)).toInt 20000 := HQ.mk (by decide)
          have f4368 := lt32k v4367.out rfl c4366
          exact OK_some (show (0 ≤ (v_lorries).toInt) ∧ ((v_lorries).toInt ≤ 60) from ⟨i0, i1⟩)
        · have v4369 : HQ ((20000 : Int32)).toInt 20000 := HQ.mk (by decide)
          have f4370 := nlt32k v4369.out rfl c4366
          refine OK_bd (sX7_isSample n hn z3) (fun u_6 p_u_6 => ?_)
          refine OK_if (fun c4371 => ?_) (fun c4371 => ?_)
          · have f4372 := eq32k rfl v4354.out c4371
            exact OK_some (show (0 ≤ (v_lorries).toInt) ∧ ((v_lorries).toInt ≤ 60) from ⟨i0, i1⟩)
          · have f4373 := neq32k rfl v4354.out c4371
            refine OK_bd (sX7_isSample n hn z4) (fun u_9 p_u_9 => ?_)
            refine OK_if (fun c4374 => ?_) (fun c4374 => ?_)
            · have f4375 := eq32k rfl v4354.out c4374
              exact OK_some (show (0 ≤ (v_lorries).toInt) ∧ ((v_lorries).toInt ≤ 60) from ⟨i0, i1⟩)
            · have f4376 := neq32k rfl v4354.out c4374
              refine OK_bd (sX7_isSample n hn z5) (fun u_12 p_u_12 => ?_)
              refine OK_if (fun c4377 => ?_) (fun c4377 => ?_)
              · have f4378 := eq32k rfl v4354.out c4377
                exact OK_some (show (0 ≤ (v_lorries).toInt) ∧ ((v_lorries).toInt ≤ 60) from ⟨i0, i1⟩)
              · have f4379 := neq32k rfl v4354.out c4377
                refine OK_bd (sX7_isSample n hn z6) (fun u_15 p_u_15 => ?_)
                refine OK_if (fun c4380 => ?_) (fun c4380 => ?_)
                · have f4381 := eq32k rfl v4354.out c4380
                  exact OK_some (show (0 ≤ (v_lorries).toInt) ∧ ((v_lorries).toInt ≤ 60) from ⟨i0, i1⟩)
                · have f4382 := neq32k rfl v4354.out c4380
                  refine OK_bd (sX7_isSample n hn z7) (fun u_18 p_u_18 => ?_)
                  refine OK_if (fun c4383 => ?_) (fun c4383 => ?_)
                  · have f4384 := eq32k rfl v4354.out c4383
                    exact OK_some (show (0 ≤ (v_lorries).toInt) ∧ ((v_lorries).toInt ≤ 60) from ⟨i0, i1⟩)
                  · have f4385 := neq32k rfl v4354.out c4383
                    refine OK_if (fun c4386 => ?_) (fun c4386 => ?_)
                    · have v4387 : HQ ((60 : Int32)).toInt 60 := HQ.mk (by decide)
                      have f4388 := eq32k rfl v4387.out c4386
                      exact OK_some (show (0 ≤ (v_lorries).toInt) ∧ ((v_lorries).toInt ≤ 60) from ⟨i0, i1⟩)
                    · have v4389 : HQ ((60 : Int32)).toInt 60 := HQ.mk (by decide)
                      have f4390 := neq32k rfl v4389.out c4386
                      refine OK_ck (ckV rfl (by omega) (by omega)) ?_
                      obtain ⟨m4391, v4392, f4393⟩ := tnV (e := v_lorries) rfl (by omega)
                      refine OK_lt (fun f_22 e_f_22 => ?_)
                      rw [v4392.out] at e_f_22
                      refine OK_ck (ckV rfl (by omega) (by omega)) ?_
                      refine OK_lt (fun f_24 e_f_24 => ?_)
                      rw [v4392.out] at e_f_24
                      have v4394 : HQ (((5 : Int32) * v_lorries)).toInt (5 * (v_lorries).toInt) := HQ.mk (mulV v4359.out rfl (by omega) (by omega))
                      refine OK_ck (ckV v4394.out (by omega) (by omega)) ?_
                      obtain ⟨m4395, v4396, f4397⟩ := tnV (e := ((5 : Int32) * v_lorries)) v4394.out (by omega)
                      refine OK_lt (fun f_26 e_f_26 => ?_)
                      rw [v4396.out] at e_f_26
                      have v4398 : HQ ((((5 : Int32) * v_lorries) + (1 : Int32))).toInt ((5 * (v_lorries).toInt) + 1) := HQ.mk (addV v4394.out v4364.out (by omega) (by omega))
                      refine OK_ck (ckV v4398.out (by omega) (by omega)) ?_
                      obtain ⟨m4399, v4400, f4401⟩ := tnV (e := (((5 : Int32) * v_lorries) + (1 : Int32))) v4398.out (by omega)
                      refine OK_lt (fun f_28 e_f_28 => ?_)
                      rw [v4400.out] at e_f_28
                      have v4402 : HQ ((2 : Int32)).toInt 2 := HQ.mk (by decide)
                      have v4403 : HQ ((((5 : Int32) * v_lorries) + (2 : Int32))).toInt ((5 * (v_lorries).toInt) + 2) := HQ.mk (addV v4394.out v4402.out (by omega) (by omega))
                      refine OK_ck (ckV v4403.out (by omega) (by omega)) ?_
                      obtain ⟨m4404, v4405, f4406⟩ := tnV (e := (((5 : Int32) * v_lorries) + (2 : Int32))) v4403.out (by omega)
                      refine OK_lt (fun f_30 e_f_30 => ?_)
                      rw [v4405.out] at e_f_30
                      have v4407 : HQ ((3 : Int32)).toInt 3 := HQ.mk (by decide)
                      have v4408 : HQ ((((5 : Int32) * v_lorries) + (3 : Int32))).toInt ((5 * (v_lorries).toInt) + 3) := HQ.mk (addV v4394.out v4407.out (by omega) (by omega))
                      refine OK_ck (ckV v4408.out (by omega) (by omega)) ?_
                      obtain ⟨m4409, v4410, f4411⟩ := tnV (e := (((5 : Int32) * v_lorries) + (3 : Int32))) v4408.out (by omega)
                      refine OK_lt (fun f_32 e_f_32 => ?_)
                      rw [v4410.out] at e_f_32
                      have v4412 : HQ ((4 : Int32)).toInt 4 := HQ.mk (by decide)
                      have v4413 : HQ ((((5 : Int32) * v_lorries) + (4 : Int32))).toInt ((5 * (v_lorries).toInt) + 4) := HQ.mk (addV v4394.out v4412.out (by omega) (by omega))
                      refine OK_ck (ckV v4413.out (by omega) (by omega)) ?_
                      obtain ⟨m4414, v4415, f4416⟩ := tnV (e := (((5 : Int32) * v_lorries) + (4 : Int32))) v4413.out (by omega)
                      refine OK_lt (fun f_34 e_f_34 => ?_)
                      rw [v4415.out] at e_f_34
                      refine OK_ck (ckV rfl (by omega) (by omega)) ?_
                      obtain ⟨y4417, v4418⟩ := HQ.any ((vp_nar .boolean (0 : Int32))).toInt
                      refine OK_lt (fun f_36 e_f_36 => ?_)
                      rw [v4392.out] at e_f_36
                      have v4419 : HQ ((v_lorries + (1 : Int32))).toInt ((v_lorries).toInt + 1) := HQ.mk (addV rfl v4364.out (by omega) (by omega))
                      refine OK_lt (fun x_37 e_x_37 => ?_)
                      have f4420 : (x_37).toInt = ((v_lorries).toInt + 1) := by rw [e_x_37]; exact v4419.out
                      exact OK_some (show (0 ≤ (x_37).toInt) ∧ ((x_37).toInt ≤ 60) from ⟨(by omega), (by omega)⟩)
set_option maxHeartbeats 2000000 in
theorem sX7_strike (n : Nat) (hn : n = 2200000000) (v_lorries : Int32) (a_isStruck : Nat → Int32) (z1 : Int32) (i0 : 0 ≤ (v_lorries).toInt) (i1 : (v_lorries).toInt ≤ 60) : OK (FX7_strike n v_lorries a_isStruck z1) (fun u => True) := by
  unfold FX7_strike
  refine OK_if (fun c4421 => ?_) (fun c4421 => ?_)
  · have v4422 : HQ ((0 : Int32)).toInt 0 := HQ.mk (by decide)
    have f4423 := lt32k rfl v4422.out c4421
    exact OK_some trivial
  · have v4424 : HQ ((0 : Int32)).toInt 0 := HQ.mk (by decide)
    have f4425 := nlt32k rfl v4424.out c4421
    refine OK_if (fun c4426 => ?_) (fun c4426 => ?_)
    · have f4427 := le32k rfl rfl c4426
      exact OK_some trivial
    · have f4428 := nle32k rfl rfl c4426
      refine OK_ck (ckV rfl (by omega) (by omega)) ?_
      refine OK_if (fun c4429 => ?_) (fun c4429 => ?_)
      · obtain ⟨m4430, v4431, f4432⟩ := tnV (e := z1) rfl (by omega)
        have v4433 : HQ ((a_isStruck ((z1).toNatClampNeg))).toInt (a_isStruck m4430).toInt := HQ.mk (by rw [v4431.out])
        have f4434 := eq32k v4433.out v4424.out c4429
        refine OK_ck (ckV rfl (by omega) (by omega)) ?_
        obtain ⟨y4435, v4436⟩ := HQ.any ((vp_nar .boolean (1 : Int32))).toInt
        refine OK_lt (fun f_6 e_f_6 => ?_)
        rw [v4431.out] at e_f_6
        exact OK_some trivial
      · obtain ⟨m4437, v4438, f4439⟩ := tnV (e := z1) rfl (by omega)
        have v4440 : HQ ((a_isStruck ((z1).toNatClampNeg))).toInt (a_isStruck m4437).toInt := HQ.mk (by rw [v4438.out])
        have f4441 := neq32k v4440.out v4424.out c4429
        exact OK_some trivial
