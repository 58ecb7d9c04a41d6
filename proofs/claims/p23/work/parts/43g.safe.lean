set_option maxHeartbeats 2000000 in
theorem sX3_takeOut (n : Nat) (hn : n = 2200000000) (v_fault : Int32) (v_faultPlace : Int32) (v_nameCount : Int32) (v_tape_length : Int32) (v_tape_next : Int32) (v_tape_type : Int32) (v_tape_place : Int32) (v_tape_formerPlace : Int32) (v_tape_word : Int64) (v_tape_number : Int32) (a_tape_bytes : Nat → Int32) (a_names : Nat → Int64) (a_namePlaces : Nat → Int32) (a_nameUnits : Nat → Int32) (a_nameSettings : Nat → Int32) (gF : Int) (gN : Int) (gU : Int) (i0 : gF ≠ 0 → (v_fault).toInt ≠ 0) (i1 : gN ≤ (v_nameCount).toInt) (i2 : 0 ≤ gU) (i3 : 0 ≤ (v_tape_length).toInt) (i4 : (v_tape_length).toInt ≤ 1200) (i5 : 0 ≤ (v_tape_next).toInt) (i6 : (v_tape_next).toInt ≤ (v_tape_length).toInt) (i7 : (v_tape_type).toInt = 8 → (0 ≤ (v_tape_number).toInt ∧ (v_tape_number).toInt ≤ 99999)) (i8 : 0 ≤ (v_nameCount).toInt) (i9 : (v_nameCount).toInt ≤ 96) (i10 : ∀ i : Nat, ((i : Int) < (v_nameCount).toInt) → (-1 ≤ (a_nameUnits i).toInt ∧ (a_nameUnits i).toInt < gU)) (i11 : ∀ i : Nat, ((i : Int) < (v_nameCount).toInt) → (0 ≤ (a_nameSettings i).toInt ∧ (a_nameSettings i).toInt ≤ 3)) : OK (FX3_takeOut n v_fault v_faultPlace v_nameCount v_tape_length v_tape_next v_tape_type v_tape_place v_tape_formerPlace v_tape_word v_tape_number a_tape_bytes a_names a_namePlaces a_nameUnits a_nameSettings) (fun u => (gF ≠ 0 → (u.2.1).toInt ≠ 0) ∧ (gN ≤ (u.2.2.2.1).toInt) ∧ (0 ≤ (u.2.2.2.2.1).toInt) ∧ ((u.2.2.2.2.1).toInt ≤ (v_tape_length).toInt) ∧ ((u.2.2.2.2.2.1).toInt = 8 → (0 ≤ (u.2.2.2.2.2.2.2.2.2.1).toInt ∧ (u.2.2.2.2.2.2.2.2.2.1).toInt ≤ 99999)) ∧ (0 ≤ (u.2.2.2.1).toInt) ∧ ((u.2.2.2.1).toInt ≤ 96) ∧ (∀ i : Nat, ((i : Int) < (u.2.2.2.1).toInt) → (-1 ≤ (u.2.2.2.2.2.2.2.2.2.2.2.2.1 i).toInt ∧ (u.2.2.2.2.2.2.2.2.2.2.2.2.1 i).toInt < gU)) ∧ (∀ i : Nat, ((i : Int) < (u.2.2.2.1).toInt) → (0 ≤ (u.2.2.2.2.2.2.2.2.2.2.2.2.2 i).toInt ∧ (u.2.2.2.2.2.2.2.2.2.2.2.2.2 i).toInt ≤ 3)) ∧ ((u.2.1).toInt = 0 → ((10 ≤ (u.1).toInt ∧ (u.1).toInt ≤ 13) ∨ (u.1).toInt = 20 ∨ (100 ≤ (u.1).toInt ∧ (u.1).toInt < 100 + (u.2.2.2.1).toInt)))) := by
  unfold FX3_takeOut
  refine OK_if (fun c900 => ?_) (fun c900 => ?_)
  · have v901 : HQ ((6 : Int32)).toInt 6 := HQ.mk (by decide)
    have f902 := eq32k rfl v901.out c900
    refine OK_bd (sX3_take n hn v_fault v_faultPlace v_tape_length v_tape_next v_tape_type v_tape_place v_tape_formerPlace v_tape_word v_tape_number a_tape_bytes (6 : Int32) ((v_fault).toInt) (by omega) i3 i4 i5 i6 i7) (fun u_10 p_u_10 => ?_)
    obtain ⟨p903, p904, p905, p906⟩ := p_u_10
    have v907 : HQ ((20 : Int32)).toInt 20 := HQ.mk (by decide)
    exact OK_some (show (gF ≠ 0 → (u_10.2.1).toInt ≠ 0) ∧ (gN ≤ (v_nameCount).toInt) ∧ (0 ≤ (u_10.2.2.2.1).toInt) ∧ ((u_10.2.2.2.1).toInt ≤ (v_tape_length).toInt) ∧ ((u_10.2.2.2.2.1).toInt = 8 → (0 ≤ (u_10.2.2.2.2.2.2.2.2).toInt ∧ (u_10.2.2.2.2.2.2.2.2).toInt ≤ 99999)) ∧ (0 ≤ (v_nameCount).toInt) ∧ ((v_nameCount).toInt ≤ 96) ∧ (∀ i : Nat, ((i : Int) < (v_nameCount).toInt) → (-1 ≤ (a_nameUnits i).toInt ∧ (a_nameUnits i).toInt < gU)) ∧ (∀ i : Nat, ((i : Int) < (v_nameCount).toInt) → (0 ≤ (a_nameSettings i).toInt ∧ (a_nameSettings i).toInt ≤ 3)) ∧ ((u_10.2.1).toInt = 0 → ((10 ≤ ((20 : Int32)).toInt ∧ ((20 : Int32)).toInt ≤ 13) ∨ ((20 : Int32)).toInt = 20 ∨ (100 ≤ ((20 : Int32)).toInt ∧ ((20 : Int32)).toInt < 100 + (v_nameCount).toInt))) from ⟨(by omega), i1, p904, p905, p906, i8, i9, i10, i11, (by (rw [v907.out]) <;> omega)⟩)
  · have v908 : HQ ((6 : Int32)).toInt 6 := HQ.mk (by decide)
    have f909 := neq32k rfl v908.out c900
    refine OK_if (fun c910 => ?_) (fun c910 => ?_)
    · have v911 : HQ ((5 : Int32)).toInt 5 := HQ.mk (by decide)
      have f912 := eq32k rfl v911.out c910
      refine OK_bd (sX3_take n hn v_fault v_faultPlace v_tape_length v_tape_next v_tape_type v_tape_place v_tape_formerPlace v_tape_word v_tape_number a_tape_bytes (5 : Int32) ((v_fault).toInt) (by omega) i3 i4 i5 i6 i7) (fun u_6 p_u_6 => ?_)
      obtain ⟨p913, p914, p915, p916⟩ := p_u_6
      have v917 : HQ ((3 : Int32)).toInt 3 := HQ.mk (by decide)
      refine OK_bd (sX3_takeNumber n hn u_6.2.1 u_6.2.2.1 v_tape_length u_6.2.2.2.1 u_6.2.2.2.2.1 u_6.2.2.2.2.2.1 u_6.2.2.2.2.2.2.1 u_6.2.2.2.2.2.2.2.1 u_6.2.2.2.2.2.2.2.2 a_tape_bytes (3 : Int32) ((u_6.2.1).toInt) (by omega) (by (rw [v917.out]) <;> omega) i3 i4 p914 p915 p916) (fun u_8 p_u_8 => ?_)
      obtain ⟨p918, p919, p920, p921, p922, p923⟩ := p_u_8
      try simp only [v917.out] at p923
      have v924 : HQ ((10 : Int32)).toInt 10 := HQ.mk (by decide)
      have v925 : HQ (((10 : Int32) + u_8.1)).toInt (10 + (u_8.1).toInt) := HQ.mk (addV v924.out rfl (by omega) (by omega))
      exact OK_some (show (gF ≠ 0 → (u_8.2.1).toInt ≠ 0) ∧ (gN ≤ (v_nameCount).toInt) ∧ (0 ≤ (u_8.2.2.2.1).toInt) ∧ ((u_8.2.2.2.1).toInt ≤ (v_tape_length).toInt) ∧ ((u_8.2.2.2.2.1).toInt = 8 → (0 ≤ (u_8.2.2.2.2.2.2.2.2).toInt ∧ (u_8.2.2.2.2.2.2.2.2).toInt ≤ 99999)) ∧ (0 ≤ (v_nameCount).toInt) ∧ ((v_nameCount).toInt ≤ 96) ∧ (∀ i : Nat, ((i : Int) < (v_nameCount).toInt) → (-1 ≤ (a_nameUnits i).toInt ∧ (a_nameUnits i).toInt < gU)) ∧ (∀ i : Nat, ((i : Int) < (v_nameCount).toInt) → (0 ≤ (a_nameSettings i).toInt ∧ (a_nameSettings i).toInt ≤ 3)) ∧ ((u_8.2.1).toInt = 0 → ((10 ≤ (((10 : Int32) + u_8.1)).toInt ∧ (((10 : Int32) + u_8.1)).toInt ≤ 13) ∨ (((10 : Int32) + u_8.1)).toInt = 20 ∨ (100 ≤ (((10 : Int32) + u_8.1)).toInt ∧ (((10 : Int32) + u_8.1)).toInt < 100 + (v_nameCount).toInt))) from ⟨(by omega), i1, p919, p920, p921, i8, i9, i10, i11, (by (rw [v925.out]) <;> omega)⟩)
    · have v926 : HQ ((5 : Int32)).toInt 5 := HQ.mk (by decide)
      have f927 := neq32k rfl v926.out c910
      refine OK_bd (sX3_takeName n hn v_fault v_faultPlace v_nameCount v_tape_length v_tape_next v_tape_type v_tape_place v_tape_formerPlace v_tape_word v_tape_number a_names a_namePlaces a_nameUnits a_nameSettings a_tape_bytes ((v_fault).toInt) ((v_nameCount).toInt) (gU) (by omega) (by omega) (by omega) i3 i4 i5 i6 i7 i8 i9 (by
          intro i hi
          have f928 := i10 i
          omega) i11) (fun u_4 p_u_4 => ?_)
      obtain ⟨p929, p930, p931, p932, p933, p934, p935, p936, p937, p938⟩ := p_u_4
      have v939 : HQ ((100 : Int32)).toInt 100 := HQ.mk (by decide)
      obtain ⟨y940, v941, f942⟩ := addC (a := (100 : Int32)) (b := u_4.1) v939.out rfl
      exact OK_some (show (gF ≠ 0 → (u_4.2.1).toInt ≠ 0) ∧ (gN ≤ (u_4.2.2.2.1).toInt) ∧ (0 ≤ (u_4.2.2.2.2.1).toInt) ∧ ((u_4.2.2.2.2.1).toInt ≤ (v_tape_length).toInt) ∧ ((u_4.2.2.2.2.2.1).toInt = 8 → (0 ≤ (u_4.2.2.2.2.2.2.2.2.2.1).toInt ∧ (u_4.2.2.2.2.2.2.2.2.2.1).toInt ≤ 99999)) ∧ (0 ≤ (u_4.2.2.2.1).toInt) ∧ ((u_4.2.2.2.1).toInt ≤ 96) ∧ (∀ i : Nat, ((i : Int) < (u_4.2.2.2.1).toInt) → (-1 ≤ (u_4.2.2.2.2.2.2.2.2.2.2.2.2.1 i).toInt ∧ (u_4.2.2.2.2.2.2.2.2.2.2.2.2.1 i).toInt < gU)) ∧ (∀ i : Nat, ((i : Int) < (u_4.2.2.2.1).toInt) → (0 ≤ (u_4.2.2.2.2.2.2.2.2.2.2.2.2.2 i).toInt ∧ (u_4.2.2.2.2.2.2.2.2.2.2.2.2.2 i).toInt ≤ 3)) ∧ ((u_4.2.1).toInt = 0 → ((10 ≤ (((100 : Int32) + u_4.1)).toInt ∧ (((100 : Int32) + u_4.1)).toInt ≤ 13) ∨ (((100 : Int32) + u_4.1)).toInt = 20 ∨ (100 ≤ (((100 : Int32) + u_4.1)).toInt ∧ (((100 : Int32) + u_4.1)).toInt < 100 + (u_4.2.2.2.1).toInt))) from ⟨(by omega), (by omega), p931, p932, p933, p934, p935, (by
          intro i hi
          have f943 := p936 i
          omega), p937, (by (rw [v941.out]) <;> omega)⟩)
