set_option maxHeartbeats 2000000 in
theorem sX7_lorry (n : Nat) (hn : n = 2200000000) (v_lorries : Int32) (a_lTown : Nat → Int32) (a_lWeight : Nat → Int32) (a_lSampled : Nat → Int32) (a_isStruck : Nat → Int32) (z1 : Int32) (z2 : Int32) (z3 : Int32) (z4 : Int32) (z5 : Int32) (z6 : Int32) (z7 : Int32) (i0 : 0 ≤ (v_lorries).toInt) (i1 : (v_lorries).toInt ≤ 60) : OK (FX7_lorry n v_lorries a_lTown a_lWeight a_lSampled a_isStruck z1 z2 z3 z4 z5 z6 z7) (fun u => (0 ≤ (u.2.1).toInt) ∧ ((u.2.1).toInt ≤ 60)) := by
  unfold FX7_lorry
  refine OK_if (fun c4347 => ?_) (fun c4347 => ?_)
  · have v4348 : HQ ((0 : Int32)).toInt 0 := HQ.mk (by decide)
    have f4349 := lt32k rfl v4348.out c4347
    exact OK_some (show (0 ≤ (v_lorries).toInt) ∧ ((v_lorries).toInt ≤ 60) from ⟨i0, i1⟩)
  · have v4350 : HQ ((0 : Int32)).toInt 0 := HQ.mk (by decide)
    have f4351 := nlt32k rfl v4350.out c4347
    refine OK_if (fun c4352 => ?_) (fun c4352 => ?_)
    · have v4353 : HQ ((5 : Int32)).toInt 5 := HQ.mk (by decide)
      have f4354 := le32k v4353.out rfl c4352
      exact OK_some (show (0 ≤ (v_lorries).toInt) ∧ ((v_lorries).toInt ≤ 60) from ⟨i0, i1⟩)
    · have v4355 : HQ ((5 : Int32)).toInt 5 := HQ.mk (by decide)
      have f4356 := nle32k v4355.out rfl c4352
      refine OK_if (fun c4357 => ?_) (fun c4357 => ?_)
      · have v4358 : HQ ((1 : Int32)).toInt 1 := HQ.mk (by decide)
        have f4359 := lt32k rfl v4358.out c4357
        exact OK_some (show (0 ≤ (v_lorries).toInt) ∧ ((v_lorries).toInt ≤ 60) from ⟨i0, i1⟩)
      · have v4360 : HQ ((1 : Int32)).toInt 1 := HQ.mk (by decide)
        have f4361 := nlt32k rfl v4360.out c4357
        refine OK_if (fun c4362 => ?_) (fun c4362 => ?_)
        · have v4363 : HQ ((20000 : Int32)).toInt 20000 := HQ.mk (by decide)
          have f4364 := lt32k v4363.out rfl c4362
          exact OK_some (show (0 ≤ (v_lorries).toInt) ∧ ((v_lorries).toInt ≤ 60) from ⟨i0, i1⟩)
        · have v4365 : HQ ((20000 : Int32)).toInt 20000 := HQ.mk (by decide)
          have f4366 := nlt32k v4365.out rfl c4362
          refine OK_bd (sX7_isSample n hn z3) (fun u_6 p_u_6 => ?_)
          refine OK_if (fun c4367 => ?_) (fun c4367 => ?_)
          · have f4368 := eq32k rfl v4350.out c4367
            exact OK_some (show (0 ≤ (v_lorries).toInt) ∧ ((v_lorries).toInt ≤ 60) from ⟨i0, i1⟩)
          · have f4369 := neq32k rfl v4350.out c4367
            refine OK_bd (sX7_isSample n hn z4) (fun u_9 p_u_9 => ?_)
            refine OK_if (fun c4370 => ?_) (fun c4370 => ?_)
            · have f4371 := eq32k rfl v4350.out c4370
              exact OK_some (show (0 ≤ (v_lorries).toInt) ∧ ((v_lorries).toInt ≤ 60) from ⟨i0, i1⟩)
            · have f4372 := neq32k rfl v4350.out c4370
              refine OK_bd (sX7_isSample n hn z5) (fun u_12 p_u_12 => ?_)
              refine OK_if (fun c4373 => ?_) (fun c4373 => ?_)
              · have f4374 := eq32k rfl v4350.out c4373
                exact OK_some (show (0 ≤ (v_lorries).toInt) ∧ ((v_lorries).toInt ≤ 60) from ⟨i0, i1⟩)
              · have f4375 := neq32k rfl v4350.out c4373
                refine OK_bd (sX7_isSample n hn z6) (fun u_15 p_u_15 => ?_)
                refine OK_if (fun c4376 => ?_) (fun c4376 => ?_)
                · have f4377 := eq32k rfl v4350.out c4376
                  exact OK_some (show (0 ≤ (v_lorries).toInt) ∧ ((v_lorries).toInt ≤ 60) from ⟨i0, i1⟩)
                · have f4378 := neq32k rfl v4350.out c4376
                  refine OK_bd (sX7_isSample n hn z7) (fun u_18 p_u_18 => ?_)
                  refine OK_if (fun c4379 => ?_) (fun c4379 => ?_)
                  · have f4380 := eq32k rfl v4350.out c4379
                    exact OK_some (show (0 ≤ (v_lorries).toInt) ∧ ((v_lorries).toInt ≤ 60) from ⟨i0, i1⟩)
                  · have f4381 := neq32k rfl v4350.out c4379
                    refine OK_if (fun c4382 => ?_) (fun c4382 => ?_)
                    · have v4383 : HQ ((60 : Int32)).toInt 60 := HQ.mk (by decide)
                      have f4384 := eq32k rfl v4383.out c4382
                      exact OK_some (show (0 ≤ (v_lorries).toInt) ∧ ((v_lorries).toInt ≤ 60) from ⟨i0, i1⟩)
                    · have v4385 : HQ ((60 : Int32)).toInt 60 := HQ.mk (by decide)
                      have f4386 := neq32k rfl v4385.out c4382
                      refine OK_ck (ckV rfl (by omega) (by omega)) ?_
                      obtain ⟨m4387, v4388, f4389⟩ := tnV (e := v_lorries) rfl (by omega)
                      refine OK_lt (fun f_22 e_f_22 => ?_)
                      rw [v4388.out] at e_f_22
                      refine OK_ck (ckV rfl (by omega) (by omega)) ?_
                      refine OK_lt (fun f_24 e_f_24 => ?_)
                      rw [v4388.out] at e_f_24
                      have v4390 : HQ (((5 : Int32) * v_lorries)).toInt (5 * (v_lorries).toInt) := HQ.mk (mulV v4355.out rfl (by omega) (by omega))
                      refine OK_ck (ckV v4390.out (by omega) (by omega)) ?_
                      obtain ⟨m4391, v4392, f4393⟩ := tnV (e := ((5 : Int32) * v_lorries)) v4390.out (by omega)
                      refine OK_lt (fun f_26 e_f_26 => ?_)
                      rw [v4392.out] at e_f_26
                      have v4394 : HQ ((((5 : Int32) * v_lorries) + (1 : Int32))).toInt ((5 * (v_lorries).toInt) + 1) := HQ.mk (addV v4390.out v4360.out (by omega) (by omega))
                      refine OK_ck (ckV v4394.out (by omega) (by omega)) ?_
                      obtain ⟨m4395, v4396, f4397⟩ := tnV (e := (((5 : Int32) * v_lorries) + (1 : Int32))) v4394.out (by omega)
                      refine OK_lt (fun f_28 e_f_28 => ?_)
                      rw [v4396.out] at e_f_28
                      have v4398 : HQ ((2 : Int32)).toInt 2 := HQ.mk (by decide)
                      have v4399 : HQ ((((5 : Int32) * v_lorries) + (2 : Int32))).toInt ((5 * (v_lorries).toInt) + 2) := HQ.mk (addV v4390.out v4398.out (by omega) (by omega))
                      refine OK_ck (ckV v4399.out (by omega) (by omega)) ?_
                      obtain ⟨m4400, v4401, f4402⟩ := tnV (e := (((5 : Int32) * v_lorries) + (2 : Int32))) v4399.out (by omega)
                      refine OK_lt (fun f_30 e_f_30 => ?_)
                      rw [v4401.out] at e_f_30
                      have v4403 : HQ ((3 : Int32)).toInt 3 := HQ.mk (by decide)
                      have v4404 : HQ ((((5 : Int32) * v_lorries) + (3 : Int32))).toInt ((5 * (v_lorries).toInt) + 3) := HQ.mk (addV v4390.out v4403.out (by omega) (by omega))
                      refine OK_ck (ckV v4404.out (by omega) (by omega)) ?_
                      obtain ⟨m4405, v4406, f4407⟩ := tnV (e := (((5 : Int32) * v_lorries) + (3 : Int32))) v4404.out (by omega)
                      refine OK_lt (fun f_32 e_f_32 => ?_)
                      rw [v4406.out] at e_f_32
                      have v4408 : HQ ((4 : Int32)).toInt 4 := HQ.mk (by decide)
                      have v4409 : HQ ((((5 : Int32) * v_lorries) + (4 : Int32))).toInt ((5 * (v_lorries).toInt) + 4) := HQ.mk (addV v4390.out v4408.out (by omega) (by omega))
                      refine OK_ck (ckV v4409.out (by omega) (by omega)) ?_
                      obtain ⟨m4410, v4411, f4412⟩ := tnV (e := (((5 : Int32) * v_lorries) + (4 : Int32))) v4409.out (by omega)
                      refine OK_lt (fun f_34 e_f_34 => ?_)
                      rw [v4411.out] at e_f_34
                      refine OK_ck (ckV rfl (by omega) (by omega)) ?_
                      obtain ⟨y4413, v4414⟩ := HQ.any ((vp_nar .boolean (0 : Int32))).toInt
                      refine OK_lt (fun f_36 e_f_36 => ?_)
                      rw [v4388.out] at e_f_36
                      have v4415 : HQ ((v_lorries + (1 : Int32))).toInt ((v_lorries).toInt + 1) := HQ.mk (addV rfl v4360.out (by omega) (by omega))
                      refine OK_lt (fun x_37 e_x_37 => ?_)
                      have f4416 : (x_37).toInt = ((v_lorries).toInt + 1) := by rw [e_x_37]; exact v4415.out
                      exact OK_some (show (0 ≤ (x_37).toInt) ∧ ((x_37).toInt ≤ 60) from ⟨(by omega), (by omega)⟩)
set_option maxHeartbeats 2000000 in
theorem sX7_strike (n : Nat) (hn : n = 2200000000) (v_lorries : Int32) (a_isStruck : Nat → Int32) (z1 : Int32) (i0 : 0 ≤ (v_lorries).toInt) (i1 : (v_lorries).toInt ≤ 60) : OK (FX7_strike n v_lorries a_isStruck z1) (fun u => True) := by
  unfold FX7_strike
  refine OK_if (fun c4417 => ?_) (fun c4417 => ?_)
  · have v4418 : HQ ((0 : Int32)).toInt 0 := HQ.mk (by decide)
    have f4419 := lt32k rfl v4418.out c4417
    exact OK_some trivial
  · have v4420 : HQ ((0 : Int32)).toInt 0 := HQ.mk (by decide)
    have f4421 := nlt32k rfl v4420.out c4417
    refine OK_if (fun c4422 => ?_) (fun c4422 => ?_)
    · have f4423 := le32k rfl rfl c4422
      exact OK_some trivial
    · have f4424 := nle32k rfl rfl c4422
      refine OK_ck (ckV rfl (by omega) (by omega)) ?_
      refine OK_if (fun c4425 => ?_) (fun c4425 => ?_)
      · obtain ⟨m4426, v4427, f4428⟩ := tnV (e := z1) rfl (by omega)
        have v4429 : HQ ((a_isStruck ((z1).toNatClampNeg))).toInt (a_isStruck m4426).toInt := HQ.mk (by rw [v4427.out])
        have f4430 := eq32k v4429.out v4420.out c4425
        refine OK_ck (ckV rfl (by omega) (by omega)) ?_
        obtain ⟨y4431, v4432⟩ := HQ.any ((vp_nar .boolean (1 : Int32))).toInt
        refine OK_lt (fun f_6 e_f_6 => ?_)
        rw [v4427.out] at e_f_6
        exact OK_some trivial
      · obtain ⟨m4433, v4434, f4435⟩ := tnV (e := z1) rfl (by omega)
        have v4436 : HQ ((a_isStruck ((z1).toNatClampNeg))).toInt (a_isStruck m4433).toInt := HQ.mk (by rw [v4434.out])
        have f4437 := neq32k v4436.out v4420.out c4425
        exact OK_some trivial
