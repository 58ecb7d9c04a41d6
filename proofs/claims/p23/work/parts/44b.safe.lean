set_option maxHeartbeats 2000000 in
theorem sFX3_readSet_89 (n : Nat) (hn : n = 2200000000) (v_tape_length : Int32) (a_tape_bytes : Nat → Int32) (gN : Int) (gU : Int) (v_fault : Int32) (v_faultPlace : Int32) (v_nameCount : Int32) (v_setCount : Int32) (v_tape_next : Int32) (v_tape_type : Int32) (v_tape_place : Int32) (v_tape_formerPlace : Int32) (v_tape_word : Int64) (v_tape_number : Int32) (a_names : Nat → Int64) (a_namePlaces : Nat → Int32) (a_nameUnits : Nat → Int32) (a_nameSettings : Nat → Int32) (a_setValues : Nat → Int32) (a_setNames : Nat → Int32) (x1 : Int32) (i0 : gN ≤ (v_nameCount).toInt) (i1 : 0 ≤ gU) (i2 : 0 ≤ (v_tape_length).toInt) (i3 : (v_tape_length).toInt ≤ 1200) (i4 : 0 ≤ (v_tape_next).toInt) (i5 : (v_tape_next).toInt ≤ (v_tape_length).toInt) (i6 : (v_tape_type).toInt = 8 → (0 ≤ (v_tape_number).toInt ∧ (v_tape_number).toInt ≤ 99999)) (i7 : 0 ≤ (v_nameCount).toInt) (i8 : (v_nameCount).toInt ≤ 96) (i9 : ∀ i : Nat, ((i : Int) < (v_nameCount).toInt) → (-1 ≤ (a_nameUnits i).toInt ∧ (a_nameUnits i).toInt < gU)) (i10 : ∀ i : Nat, ((i : Int) < (v_nameCount).toInt) → (0 ≤ (a_nameSettings i).toInt ∧ (a_nameSettings i).toInt ≤ 3)) (i11 : 0 ≤ (v_setCount).toInt) (i12 : (v_setCount).toInt ≤ 80) (i13 : ∀ i : Nat, ((i : Int) < (v_setCount).toInt) → (0 ≤ (a_setNames i).toInt ∧ (a_setNames i).toInt < (v_nameCount).toInt)) (i14 : (v_fault).toInt = 0 → (0 ≤ (x1).toInt ∧ (x1).toInt < (v_nameCount).toInt ∧ (v_setCount).toInt ≤ 79)) (i15 : ∀ i : Nat, ((v_fault).toInt = 0 ∧ (i : Int) = (x1).toInt) → ((a_nameSettings i).toInt ≤ 2)) : OK (FX3_readSet_89 n v_tape_length a_tape_bytes v_fault v_faultPlace v_nameCount v_setCount v_tape_next v_tape_type v_tape_place v_tape_formerPlace v_tape_word v_tape_number a_names a_namePlaces a_nameUnits a_nameSettings a_setValues a_setNames x1) (fun u => (gN ≤ (u.2.2.2.1).toInt) ∧ (0 ≤ (u.2.2.2.2.2.1).toInt) ∧ ((u.2.2.2.2.2.1).toInt ≤ (v_tape_length).toInt) ∧ ((u.2.2.2.2.2.2.1).toInt = 8 → (0 ≤ (u.2.2.2.2.2.2.2.2.2.2.1).toInt ∧ (u.2.2.2.2.2.2.2.2.2.2.1).toInt ≤ 99999)) ∧ (0 ≤ (u.2.2.2.1).toInt) ∧ ((u.2.2.2.1).toInt ≤ 96) ∧ (∀ i : Nat, ((i : Int) < (u.2.2.2.1).toInt) → (-1 ≤ (u.2.2.2.2.2.2.2.2.2.2.2.2.2.1 i).toInt ∧ (u.2.2.2.2.2.2.2.2.2.2.2.2.2.1 i).toInt < gU)) ∧ (∀ i : Nat, ((i : Int) < (u.2.2.2.1).toInt) → (0 ≤ (u.2.2.2.2.2.2.2.2.2.2.2.2.2.2.1 i).toInt ∧ (u.2.2.2.2.2.2.2.2.2.2.2.2.2.2.1 i).toInt ≤ 3)) ∧ (0 ≤ (u.2.2.2.2.1).toInt) ∧ ((u.2.2.2.2.1).toInt ≤ 80) ∧ (∀ i : Nat, ((i : Int) < (u.2.2.2.2.1).toInt) → (0 ≤ (u.2.2.2.2.2.2.2.2.2.2.2.2.2.2.2.2 i).toInt ∧ (u.2.2.2.2.2.2.2.2.2.2.2.2.2.2.2.2 i).toInt < (u.2.2.2.1).toInt))) := by
  unfold FX3_readSet_89
  refine OK_bd (sX3_take n hn v_fault v_faultPlace v_tape_length v_tape_next v_tape_type v_tape_place v_tape_formerPlace v_tape_word v_tape_number a_tape_bytes (9 : Int32) ((v_fault).toInt) (by omega) i2 i3 i4 i5 i6) (fun u_19 p_u_19 => ?_)
  obtain ⟨p1053, p1054, p1055, p1056⟩ := p_u_19
  refine OK_if (fun c1057 => ?_) (fun c1057 => ?_)
  · have v1058 : HQ ((0 : Int32)).toInt 0 := HQ.mk (by decide)
    have f1059 := eq32k rfl v1058.out c1057
    refine OK_ck (ckV rfl (by omega) (by omega)) ?_
    obtain ⟨m1060, v1061, f1062⟩ := tnV (e := v_setCount) rfl (by omega)
    refine OK_lt (fun f_22 e_f_22 => ?_)
    rw [v1061.out] at e_f_22
    refine OK_ck (ckV rfl (by omega) (by omega)) ?_
    obtain ⟨m1063, v1064, f1065⟩ := tnV (e := x1) rfl (by omega)
    have v1066 : HQ ((a_nameSettings ((x1).toNatClampNeg))).toInt (a_nameSettings m1063).toInt := HQ.mk (by rw [v1064.out])
    have f1067 := i10 m1063
    have f1068 := i15 m1063
    have v1069 : HQ ((1 : Int32)).toInt 1 := HQ.mk (by decide)
    have v1070 : HQ (((a_nameSettings ((x1).toNatClampNeg)) + (1 : Int32))).toInt ((a_nameSettings m1063).toInt + 1) := HQ.mk (addV v1066.out v1069.out (by omega) (by omega))
    refine OK_lt (fun x_24 e_x_24 => ?_)
    have f1071 : (x_24).toInt = ((a_nameSettings m1063).toInt + 1) := by rw [e_x_24]; exact v1070.out
    refine OK_ck (ckV rfl (by omega) (by omega)) ?_
    refine OK_lt (fun f_26 e_f_26 => ?_)
    rw [v1064.out] at e_f_26
    have v1072 : HQ ((v_setCount + (1 : Int32))).toInt ((v_setCount).toInt + 1) := HQ.mk (addV rfl v1069.out (by omega) (by omega))
    refine OK_lt (fun x_27 e_x_27 => ?_)
    have f1073 : (x_27).toInt = ((v_setCount).toInt + 1) := by rw [e_x_27]; exact v1072.out
    exact OK_some (show (gN ≤ (v_nameCount).toInt) ∧ (0 ≤ (u_19.2.2.2.1).toInt) ∧ ((u_19.2.2.2.1).toInt ≤ (v_tape_length).toInt) ∧ ((u_19.2.2.2.2.1).toInt = 8 → (0 ≤ (u_19.2.2.2.2.2.2.2.2).toInt ∧ (u_19.2.2.2.2.2.2.2.2).toInt ≤ 99999)) ∧ (0 ≤ (v_nameCount).toInt) ∧ ((v_nameCount).toInt ≤ 96) ∧ (∀ i : Nat, ((i : Int) < (v_nameCount).toInt) → (-1 ≤ (a_nameUnits i).toInt ∧ (a_nameUnits i).toInt < gU)) ∧ (∀ i : Nat, ((i : Int) < (v_nameCount).toInt) → (0 ≤ (f_26 i).toInt ∧ (f_26 i).toInt ≤ 3)) ∧ (0 ≤ (x_27).toInt) ∧ ((x_27).toInt ≤ 80) ∧ (∀ i : Nat, ((i : Int) < (x_27).toInt) → (0 ≤ (f_22 i).toInt ∧ (f_22 i).toInt < (v_nameCount).toInt)) from ⟨i0, p1054, p1055, p1056, i7, i8, i9, (by
        intro i hi
        have f1074 := updW e_f_26 rfl i
        have f1075 := i10 i
        have f1076 := i15 i
        have f1077 := congAt a_nameSettings i m1063
        omega), (by omega), (by omega), (by
        intro i hi
        have f1078 := updW e_f_22 rfl i
        have f1079 := i13 i
        omega)⟩)
  · have v1080 : HQ ((0 : Int32)).toInt 0 := HQ.mk (by decide)
    have f1081 := neq32k rfl v1080.out c1057
    exact OK_some (show (gN ≤ (v_nameCount).toInt) ∧ (0 ≤ (u_19.2.2.2.1).toInt) ∧ ((u_19.2.2.2.1).toInt ≤ (v_tape_length).toInt) ∧ ((u_19.2.2.2.2.1).toInt = 8 → (0 ≤ (u_19.2.2.2.2.2.2.2.2).toInt ∧ (u_19.2.2.2.2.2.2.2.2).toInt ≤ 99999)) ∧ (0 ≤ (v_nameCount).toInt) ∧ ((v_nameCount).toInt ≤ 96) ∧ (∀ i : Nat, ((i : Int) < (v_nameCount).toInt) → (-1 ≤ (a_nameUnits i).toInt ∧ (a_nameUnits i).toInt < gU)) ∧ (∀ i : Nat, ((i : Int) < (v_nameCount).toInt) → (0 ≤ (a_nameSettings i).toInt ∧ (a_nameSettings i).toInt ≤ 3)) ∧ (0 ≤ (v_setCount).toInt) ∧ ((v_setCount).toInt ≤ 80) ∧ (∀ i : Nat, ((i : Int) < (v_setCount).toInt) → (0 ≤ (a_setNames i).toInt ∧ (a_setNames i).toInt < (v_nameCount).toInt)) from ⟨i0, p1054, p1055, p1056, i7, i8, i9, i10, i11, i12, i13⟩)
set_option maxHeartbeats 2000000 in
theorem sFX3_readSet_52 (n : Nat) (hn : n = 2200000000) (v_tape_length : Int32) (a_tape_bytes : Nat → Int32) (gN : Int) (gU : Int) (k52 : Int32 → Int32 → Int32 → Int32 → Int32 → Int32 → Int32 → Int32 → Int64 → Int32 → (Nat → Int64) → (Nat → Int32) → (Nat → Int32) → (Nat → Int32) → (Nat → Int32) → (Nat → Int32) → Int32 → Int32 → Option (Unit × Int32 × Int32 × Int32 × Int32 × Int32 × Int32 × Int32 × Int32 × Int64 × Int32 × (Nat → Int64) × (Nat → Int32) × (Nat → Int32) × (Nat → Int32) × (Nat → Int32) × (Nat → Int32))) (mB52 : Nat) (hk52 : ∀ (v_fault : Int32) (v_faultPlace : Int32) (v_nameCount : Int32) (v_setCount : Int32) (v_tape_next : Int32) (v_tape_type : Int32) (v_tape_place : Int32) (v_tape_formerPlace : Int32) (v_tape_word : Int64) (v_tape_number : Int32) (a_names : Nat → Int64) (a_namePlaces : Nat → Int32) (a_nameUnits : Nat → Int32) (a_nameSettings : Nat → Int32) (a_setValues : Nat → Int32) (a_setNames : Nat → Int32) (x1 : Int32) (x2 : Int32), (gN ≤ (v_nameCount).toInt) → (0 ≤ gU) → (0 ≤ (v_tape_length).toInt) → ((v_tape_length).toInt ≤ 1200) → (0 ≤ (v_tape_next).toInt) → ((v_tape_next).toInt ≤ (v_tape_length).toInt) → ((v_tape_type).toInt = 8 → (0 ≤ (v_tape_number).toInt ∧ (v_tape_number).toInt ≤ 99999)) → (0 ≤ (v_nameCount).toInt) → ((v_nameCount).toInt ≤ 96) → (∀ i : Nat, ((i : Int) < (v_nameCount).toInt) → (-1 ≤ (a_nameUnits i).toInt ∧ (a_nameUnits i).toInt < gU)) → (∀ i : Nat, ((i : Int) < (v_nameCount).toInt) → (0 ≤ (a_nameSettings i).toInt ∧ (a_nameSettings i).toInt ≤ 3)) → (0 ≤ (v_setCount).toInt) → ((v_setCount).toInt ≤ 80) → (∀ i : Nat, ((i : Int) < (v_setCount).toInt) → (0 ≤ (a_setNames i).toInt ∧ (a_setNames i).toInt < (v_nameCount).toInt)) → ((v_fault).toInt = 0 → (0 ≤ (x1).toInt ∧ (x1).toInt < (v_nameCount).toInt ∧ (v_setCount).toInt ≤ 79)) → (∀ i : Nat, ((v_fault).toInt = 0 ∧ (i : Int) = (x1).toInt) → ((a_nameSettings i).toInt ≤ 2)) → (0 ≤ (x2).toInt) → ((x2).toInt ≤ 5) → (5 - (x2).toInt).toNat < mB52 → OK (k52 v_fault v_faultPlace v_nameCount v_setCount v_tape_next v_tape_type v_tape_place v_tape_formerPlace v_tape_word v_tape_number a_names a_namePlaces a_nameUnits a_nameSettings a_setValues a_setNames x1 x2) (fun u => (gN ≤ (u.2.2.2.1).toInt) ∧ (0 ≤ (u.2.2.2.2.2.1).toInt) ∧ ((u.2.2.2.2.2.1).toInt ≤ (v_tape_length).toInt) ∧ ((u.2.2.2.2.2.2.1).toInt = 8 → (0 ≤ (u.2.2.2.2.2.2.2.2.2.2.1).toInt ∧ (u.2.2.2.2.2.2.2.2.2.2.1).toInt ≤ 99999)) ∧ (0 ≤ (u.2.2.2.1).toInt) ∧ ((u.2.2.2.1).toInt ≤ 96) ∧ (∀ i : Nat, ((i : Int) < (u.2.2.2.1).toInt) → (-1 ≤ (u.2.2.2.2.2.2.2.2.2.2.2.2.2.1 i).toInt ∧ (u.2.2.2.2.2.2.2.2.2.2.2.2.2.1 i).toInt < gU)) ∧ (∀ i : Nat, ((i : Int) < (u.2.2.2.1).toInt) → (0 ≤ (u.2.2.2.2.2.2.2.2.2.2.2.2.2.2.1 i).toInt ∧ (u.2.2.2.2.2.2.2.2.2.2.2.2.2.2.1 i).toInt ≤ 3)) ∧ (0 ≤ (u.2.2.2.2.1).toInt) ∧ ((u.2.2.2.2.1).toInt ≤ 80) ∧ (∀ i : Nat, ((i : Int) < (u.2.2.2.2.1).toInt) → (0 ≤ (u.2.2.2.2.2.2.2.2.2.2.2.2.2.2.2.2 i).toInt ∧ (u.2.2.2.2.2.2.2.2.2.2.2.2.2.2.2.2 i).toInt < (u.2.2.2.1).toInt)))) (v_fault : Int32) (v_faultPlace : Int32) (v_nameCount : Int32) (v_setCount : Int32) (v_tape_next : Int32) (v_tape_type : Int32) (v_tape_place : Int32) (v_tape_formerPlace : Int32) (v_tape_word : Int64) (v_tape_number : Int32) (a_names : Nat → Int64) (a_namePlaces : Nat → Int32) (a_nameUnits : Nat → Int32) (a_nameSettings : Nat → Int32) (a_setValues : Nat → Int32) (a_setNames : Nat → Int32) (x1 : Int32) (x2 : Int32) (i0 : gN ≤ (v_nameCount).toInt) (i1 : 0 ≤ gU) (i2 : 0 ≤ (v_tape_length).toInt) (i3 : (v_tape_length).toInt ≤ 1200) (i4 : 0 ≤ (v_tape_next).toInt) (i5 : (v_tape_next).toInt ≤ (v_tape_length).toInt) (i6 : (v_tape_type).toInt = 8 → (0 ≤ (v_tape_number).toInt ∧ (v_tape_number).toInt ≤ 99999)) (i7 : 0 ≤ (v_nameCount).toInt) (i8 : (v_nameCount).toInt ≤ 96) (i9 : ∀ i : Nat, ((i : Int) < (v_nameCount).toInt) → (-1 ≤ (a_nameUnits i).toInt ∧ (a_nameUnits i).toInt < gU)) (i10 : ∀ i : Nat, ((i : Int) < (v_nameCount).toInt) → (0 ≤ (a_nameSettings i).toInt ∧ (a_nameSettings i).toInt ≤ 3)) (i11 : 0 ≤ (v_setCount).toInt) (i12 : (v_setCount).toInt ≤ 80) (i13 : ∀ i : Nat, ((i : Int) < (v_setCount).toInt) → (0 ≤ (a_setNames i).toInt ∧ (a_setNames i).toInt < (v_nameCount).toInt)) (i14 : (v_fault).toInt = 0 → (0 ≤ (x1).toInt ∧ (x1).toInt < (v_nameCount).toInt ∧ (v_setCount).toInt ≤ 79)) (i15 : ∀ i : Nat, ((v_fault).toInt = 0 ∧ (i : Int) = (x1).toInt) → ((a_nameSettings i).toInt ≤ 2)) (i16 : 0 ≤ (x2).toInt) (i17 : (x2).toInt ≤ 5) (hmu : (5 - (x2).toInt).toNat ≤ mB52) : OK (FX3_readSet_52 n v_tape_length a_tape_bytes k52 v_fault v_faultPlace v_nameCount v_setCount v_tape_next v_tape_type v_tape_place v_tape_formerPlace v_tape_word v_tape_number a_names a_namePlaces a_nameUnits a_nameSettings a_setValues a_setNames x1 x2) (fun u => (gN ≤ (u.2.2.2.1).toInt) ∧ (0 ≤ (u.2.2.2.2.2.1).toInt) ∧ ((u.2.2.2.2.2.1).toInt ≤ (v_tape_length).toInt) ∧ ((u.2.2.2.2.2.2.1).toInt = 8 → (0 ≤ (u.2.2.2.2.2.2.2.2.2.2.1).toInt ∧ (u.2.2.2.2.2.2.2.2.2.2.1).toInt ≤ 99999)) ∧ (0 ≤ (u.2.2.2.1).toInt) ∧ ((u.2.2.2.1).toInt ≤ 96) ∧ (∀ i : Nat, ((i : Int) < (u.2.2.2.1).toInt) → (-1 ≤ (u.2.2.2.2.2.2.2.2.2.2.2.2.2.1 i).toInt ∧ (u.2.2.2.2.2.2.2.2.2.2.2.2.2.1 i).toInt < gU)) ∧ (∀ i : Nat, ((i : Int) < (u.2.2.2.1).toInt) → (0 ≤ (u.2.2.2.2.2.2.2.2.2.2.2.2.2.2.1 i).toInt ∧ (u.2.2.2.2.2.2.2.2.2.2.2.2.2.2.1 i).toInt ≤ 3)) ∧ (0 ≤ (u.2.2.2.2.1).toInt) ∧ ((u.2.2.2.2.1).toInt ≤ 80) ∧ (∀ i : Nat, ((i : Int) < (u.2.2.2.2.1).toInt) → (0 ≤ (u.2.2.2.2.2.2.2.2.2.2.2.2.2.2.2.2 i).toInt ∧ (u.2.2.2.2.2.2.2.2.2.2.2.2.2.2.2.2 i).toInt < (u.2.2.2.1).toInt))) := by
  unfold FX3_readSet_52
  refine OK_if (fun c1082 => ?_) (fun c1082 => ?_)
  · have v1083 : HQ ((5 : Int32)).toInt 5 := HQ.mk (by decide)
    have f1084 := le32k v1083.out rfl c1082
    exact sFX3_readSet_89 n hn v_tape_length a_tape_bytes gN gU v_fault v_faultPlace v_nameCount v_setCount v_tape_next v_tape_type v_tape_place v_tape_formerPlace v_tape_word v_tape_number a_names a_namePlaces a_nameUnits a_nameSettings a_setValues a_setNames x1 i0 i1 i2 i3 i4 i5 i6 i7 i8 i9 i10 i11 i12 i13 i14 i15
  · have v1085 : HQ ((5 : Int32)).toInt 5 := HQ.mk (by decide)
    have f1086 := nle32k v1085.out rfl c1082
    refine OK_if (fun c1087 => ?_) (fun c1087 => ?_)
    · have v1088 : HQ ((0 : Int32)).toInt 0 := HQ.mk (by decide)
      have f1089 := eq32k rfl v1088.out c1087
      have v1090 : HQ ((100 : Int32)).toInt 100 := HQ.mk (by decide)
      refine OK_bd (sX3_takeNumber n hn v_fault v_faultPlace v_tape_length v_tape_next v_tape_type v_tape_place v_tape_formerPlace v_tape_word v_tape_number a_tape_bytes (100 : Int32) ((v_fault).toInt) (by omega) (by (rw [v1090.out]) <;> omega) i2 i3 i4 i5 i6) (fun u_14 p_u_14 => ?_)
      obtain ⟨p1091, p1092, p1093, p1094, p1095, p1096⟩ := p_u_14
      try simp only [v1090.out] at p1096
      have v1097 : HQ ((v_setCount * (5 : Int32))).toInt ((v_setCount).toInt * 5) := HQ.mk (mulV rfl v1085.out (by omega) (by omega))
      have v1098 : HQ (((v_setCount * (5 : Int32)) + x2)).toInt (((v_setCount).toInt * 5) + (x2).toInt) := HQ.mk (addV v1097.out rfl (by omega) (by omega))
      refine OK_ck (ckV v1098.out (by omega) (by omega)) ?_
      obtain ⟨m1099, v1100, f1101⟩ := tnV (e := ((v_setCount * (5 : Int32)) + x2)) v1098.out (by omega)
      refine OK_lt (fun f_16 e_f_16 => ?_)
      rw [v1100.out] at e_f_16
      have v1102 : HQ ((1 : Int32)).toInt 1 := HQ.mk (by decide)
      have v1103 : HQ ((x2 + (1 : Int32))).toInt ((x2).toInt + 1) := HQ.mk (addV rfl v1102.out (by omega) (by omega))
      refine OK_lt (fun x_17 e_x_17 => ?_)
      have f1104 : (x_17).toInt = ((x2).toInt + 1) := by rw [e_x_17]; exact v1103.out
      exact hk52 u_14.2.1 u_14.2.2.1 v_nameCount v_setCount u_14.2.2.2.1 u_14.2.2.2.2.1 u_14.2.2.2.2.2.1 u_14.2.2.2.2.2.2.1 u_14.2.2.2.2.2.2.2.1 u_14.2.2.2.2.2.2.2.2 a_names a_namePlaces a_nameUnits a_nameSettings f_16 a_setNames x1 x_17 i0 i1 i2 i3 p1092 p1093 p1094 i7 i8 i9 i10 i11 i12 i13 (by omega) (by
          intro i hi
          have f1105 := i10 i
          have f1106 := i15 i
          omega) (by omega) (by omega) (by omega)
    · have v1107 : HQ ((0 : Int32)).toInt 0 := HQ.mk (by decide)
      have f1108 := neq32k rfl v1107.out c1087
      exact sFX3_readSet_89 n hn v_tape_length a_tape_bytes gN gU v_fault v_faultPlace v_nameCount v_setCount v_tape_next v_tape_type v_tape_place v_tape_formerPlace v_tape_word v_tape_number a_names a_namePlaces a_nameUnits a_nameSettings a_setValues a_setNames x1 i0 i1 i2 i3 i4 i5 i6 i7 i8 i9 i10 i11 i12 i13 i14 i15
theorem sFX3_readSet_52L (n : Nat) (hn : n = 2200000000) (v_tape_length : Int32) (a_tape_bytes : Nat → Int32) (gN : Int) (gU : Int) : ∀ (j : Nat) (v_fault : Int32) (v_faultPlace : Int32) (v_nameCount : Int32) (v_setCount : Int32) (v_tape_next : Int32) (v_tape_type : Int32) (v_tape_place : Int32) (v_tape_formerPlace : Int32) (v_tape_word : Int64) (v_tape_number : Int32) (a_names : Nat → Int64) (a_namePlaces : Nat → Int32) (a_nameUnits : Nat → Int32) (a_nameSettings : Nat → Int32) (a_setValues : Nat → Int32) (a_setNames : Nat → Int32) (x1 : Int32) (x2 : Int32), (gN ≤ (v_nameCount).toInt) → (0 ≤ gU) → (0 ≤ (v_tape_length).toInt) → ((v_tape_length).toInt ≤ 1200) → (0 ≤ (v_tape_next).toInt) → ((v_tape_next).toInt ≤ (v_tape_length).toInt) → ((v_tape_type).toInt = 8 → (0 ≤ (v_tape_number).toInt ∧ (v_tape_number).toInt ≤ 99999)) → (0 ≤ (v_nameCount).toInt) → ((v_nameCount).toInt ≤ 96) → (∀ i : Nat, ((i : Int) < (v_nameCount).toInt) → (-1 ≤ (a_nameUnits i).toInt ∧ (a_nameUnits i).toInt < gU)) → (∀ i : Nat, ((i : Int) < (v_nameCount).toInt) → (0 ≤ (a_nameSettings i).toInt ∧ (a_nameSettings i).toInt ≤ 3)) → (0 ≤ (v_setCount).toInt) → ((v_setCount).toInt ≤ 80) → (∀ i : Nat, ((i : Int) < (v_setCount).toInt) → (0 ≤ (a_setNames i).toInt ∧ (a_setNames i).toInt < (v_nameCount).toInt)) → ((v_fault).toInt = 0 → (0 ≤ (x1).toInt ∧ (x1).toInt < (v_nameCount).toInt ∧ (v_setCount).toInt ≤ 79)) → (∀ i : Nat, ((v_fault).toInt = 0 ∧ (i : Int) = (x1).toInt) → ((a_nameSettings i).toInt ≤ 2)) → (0 ≤ (x2).toInt) → ((x2).toInt ≤ 5) → (5 - (x2).toInt).toNat < j → OK (FX3_readSet_52L n v_tape_length a_tape_bytes j v_fault v_faultPlace v_nameCount v_setCount v_tape_next v_tape_type v_tape_place v_tape_formerPlace v_tape_word v_tape_number a_names a_namePlaces a_nameUnits a_nameSettings a_setValues a_setNames x1 x2) (fun u => (gN ≤ (u.2.2.2.1).toInt) ∧ (0 ≤ (u.2.2.2.2.2.1).toInt) ∧ ((u.2.2.2.2.2.1).toInt ≤ (v_tape_length).toInt) ∧ ((u.2.2.2.2.2.2.1).toInt = 8 → (0 ≤ (u.2.2.2.2.2.2.2.2.2.2.1).toInt ∧ (u.2.2.2.2.2.2.2.2.2.2.1).toInt ≤ 99999)) ∧ (0 ≤ (u.2.2.2.1).toInt) ∧ ((u.2.2.2.1).toInt ≤ 96) ∧ (∀ i : Nat, ((i : Int) < (u.2.2.2.1).toInt) → (-1 ≤ (u.2.2.2.2.2.2.2.2.2.2.2.2.2.1 i).toInt ∧ (u.2.2.2.2.2.2.2.2.2.2.2.2.2.1 i).toInt < gU)) ∧ (∀ i : Nat, ((i : Int) < (u.2.2.2.1).toInt) → (0 ≤ (u.2.2.2.2.2.2.2.2.2.2.2.2.2.2.1 i).toInt ∧ (u.2.2.2.2.2.2.2.2.2.2.2.2.2.2.1 i).toInt ≤ 3)) ∧ (0 ≤ (u.2.2.2.2.1).toInt) ∧ ((u.2.2.2.2.1).toInt ≤ 80) ∧ (∀ i : Nat, ((i : Int) < (u.2.2.2.2.1).toInt) → (0 ≤ (u.2.2.2.2.2.2.2.2.2.2.2.2.2.2.2.2 i).toInt ∧ (u.2.2.2.2.2.2.2.2.2.2.2.2.2.2.2.2 i).toInt < (u.2.2.2.1).toInt))) := by
  intro j
  induction j with
  | zero => intro _ _ _ _ _ _ _ _ _ _ _ _ _ _ _ _ _ _ _ _ _ _ _ _ _ _ _ _ _ _ _ _ _ _ _ _ hj; exact absurd hj (Nat.not_lt_zero _)
  | succ j ih =>
    intro v_fault v_faultPlace v_nameCount v_setCount v_tape_next v_tape_type v_tape_place v_tape_formerPlace v_tape_word v_tape_number a_names a_namePlaces a_nameUnits a_nameSettings a_setValues a_setNames x1 x2 i0 i1 i2 i3 i4 i5 i6 i7 i8 i9 i10 i11 i12 i13 i14 i15 i16 i17 hj
    exact sFX3_readSet_52 n hn v_tape_length a_tape_bytes gN gU (FX3_readSet_52L n v_tape_length a_tape_bytes j) ((5 - (x2).toInt).toNat) (fun y0 y1 y2 y3 y4 y5 y6 y7 y8 y9 y10 y11 y12 y13 y14 y15 y16 y17 w0 w1 w2 w3 w4 w5 w6 w7 w8 w9 w10 w11 w12 w13 w14 w15 w16 w17 hlt => ih y0 y1 y2 y3 y4 y5 y6 y7 y8 y9 y10 y11 y12 y13 y14 y15 y16 y17 w0 w1 w2 w3 w4 w5 w6 w7 w8 w9 w10 w11 w12 w13 w14 w15 w16 w17 (by omega)) v_fault v_faultPlace v_nameCount v_setCount v_tape_next v_tape_type v_tape_place v_tape_formerPlace v_tape_word v_tape_number a_names a_namePlaces a_nameUnits a_nameSettings a_setValues a_setNames x1 x2 i0 i1 i2 i3 i4 i5 i6 i7 i8 i9 i10 i11 i12 i13 i14 i15 i16 i17 (Nat.le_refl _)
set_option maxHeartbeats 2000000 in
theorem sFX3_readSet_50 (n : Nat) (hn : n = 2200000000) (v_tape_length : Int32) (a_tape_bytes : Nat → Int32) (gN : Int) (gU : Int) (v_fault : Int32) (v_faultPlace : Int32) (v_nameCount : Int32) (v_setCount : Int32) (v_tape_next : Int32) (v_tape_type : Int32) (v_tape_place : Int32) (v_tape_formerPlace : Int32) (v_tape_word : Int64) (v_tape_number : Int32) (a_names : Nat → Int64) (a_namePlaces : Nat → Int32) (a_nameUnits : Nat → Int32) (a_nameSettings : Nat → Int32) (a_setValues : Nat → Int32) (a_setNames : Nat → Int32) (x1 : Int32) (i0 : gN ≤ (v_nameCount).toInt) (i1 : 0 ≤ gU) (i2 : 0 ≤ (v_tape_length).toInt) (i3 : (v_tape_length).toInt ≤ 1200) (i4 : 0 ≤ (v_tape_next).toInt) (i5 : (v_tape_next).toInt ≤ (v_tape_length).toInt) (i6 : (v_tape_type).toInt = 8 → (0 ≤ (v_tape_number).toInt ∧ (v_tape_number).toInt ≤ 99999)) (i7 : 0 ≤ (v_nameCount).toInt) (i8 : (v_nameCount).toInt ≤ 96) (i9 : ∀ i : Nat, ((i : Int) < (v_nameCount).toInt) → (-1 ≤ (a_nameUnits i).toInt ∧ (a_nameUnits i).toInt < gU)) (i10 : ∀ i : Nat, ((i : Int) < (v_nameCount).toInt) → (0 ≤ (a_nameSettings i).toInt ∧ (a_nameSettings i).toInt ≤ 3)) (i11 : 0 ≤ (v_setCount).toInt) (i12 : (v_setCount).toInt ≤ 80) (i13 : ∀ i : Nat, ((i : Int) < (v_setCount).toInt) → (0 ≤ (a_setNames i).toInt ∧ (a_setNames i).toInt < (v_nameCount).toInt)) (i14 : (v_fault).toInt = 0 → (0 ≤ (x1).toInt ∧ (x1).toInt < (v_nameCount).toInt ∧ (v_setCount).toInt ≤ 79)) (i15 : ∀ i : Nat, ((v_fault).toInt = 0 ∧ (i : Int) = (x1).toInt) → ((a_nameSettings i).toInt ≤ 2)) : OK (FX3_readSet_50 n v_tape_length a_tape_bytes v_fault v_faultPlace v_nameCount v_setCount v_tape_next v_tape_type v_tape_place v_tape_formerPlace v_tape_word v_tape_number a_names a_namePlaces a_nameUnits a_nameSettings a_setValues a_setNames x1) (fun u => (gN ≤ (u.2.2.2.1).toInt) ∧ (0 ≤ (u.2.2.2.2.2.1).toInt) ∧ ((u.2.2.2.2.2.1).toInt ≤ (v_tape_length).toInt) ∧ ((u.2.2.2.2.2.2.1).toInt = 8 → (0 ≤ (u.2.2.2.2.2.2.2.2.2.2.1).toInt ∧ (u.2.2.2.2.2.2.2.2.2.2.1).toInt ≤ 99999)) ∧ (0 ≤ (u.2.2.2.1).toInt) ∧ ((u.2.2.2.1).toInt ≤ 96) ∧ (∀ i : Nat, ((i : Int) < (u.2.2.2.1).toInt) → (-1 ≤ (u.2.2.2.2.2.2.2.2.2.2.2.2.2.1 i).toInt ∧ (u.2.2.2.2.2.2.2.2.2.2.2.2.2.1 i).toInt < gU)) ∧ (∀ i : Nat, ((i : Int) < (u.2.2.2.1).toInt) → (0 ≤ (u.2.2.2.2.2.2.2.2.2.2.2.2.2.2.1 i).toInt ∧ (u.2.2.2.2.2.2.2.2.2.2.2.2.2.2.1 i).toInt ≤ 3)) ∧ (0 ≤ (u.2.2.2.2.1).toInt) ∧ ((u.2.2.2.2.1).toInt ≤ 80) ∧ (∀ i : Nat, ((i : Int) < (u.2.2.2.2.1).toInt) → (0 ≤ (u.2.2.2.2.2.2.2.2.2.2.2.2.2.2.2.2 i).toInt ∧ (u.2.2.2.2.2.2.2.2.2.2.2.2.2.2.2.2 i).toInt < (u.2.2.2.1).toInt))) := by
  unfold FX3_readSet_50
  have v1109 : HQ ((0 : Int32)).toInt 0 := HQ.mk (by decide)
  exact sFX3_readSet_52L n hn v_tape_length a_tape_bytes gN gU n v_fault v_faultPlace v_nameCount v_setCount v_tape_next v_tape_type v_tape_place v_tape_formerPlace v_tape_word v_tape_number a_names a_namePlaces a_nameUnits a_nameSettings a_setValues a_setNames x1 (0 : Int32) i0 i1 i2 i3 i4 i5 i6 i7 i8 i9 i10 i11 i12 i13 i14 i15 (by (rw [v1109.out]) <;> omega) (by (rw [v1109.out]) <;> omega) (by (rw [v1109.out]) <;> omega)
set_option maxHeartbeats 2000000 in
theorem sFX3_readSet_38 (n : Nat) (hn : n = 2200000000) (v_tape_length : Int32) (a_tape_bytes : Nat → Int32) (gN : Int) (gU : Int) (v_fault : Int32) (v_faultPlace : Int32) (v_nameCount : Int32) (v_setCount : Int32) (v_tape_next : Int32) (v_tape_type : Int32) (v_tape_place : Int32) (v_tape_formerPlace : Int32) (v_tape_word : Int64) (v_tape_number : Int32) (a_names : Nat → Int64) (a_namePlaces : Nat → Int32) (a_nameUnits : Nat → Int32) (a_nameSettings : Nat → Int32) (a_setValues : Nat → Int32) (a_setNames : Nat → Int32) (x1 : Int32) (i0 : gN ≤ (v_nameCount).toInt) (i1 : 0 ≤ gU) (i2 : 0 ≤ (v_tape_length).toInt) (i3 : (v_tape_length).toInt ≤ 1200) (i4 : 0 ≤ (v_tape_next).toInt) (i5 : (v_tape_next).toInt ≤ (v_tape_length).toInt) (i6 : (v_tape_type).toInt = 8 → (0 ≤ (v_tape_number).toInt ∧ (v_tape_number).toInt ≤ 99999)) (i7 : 0 ≤ (v_nameCount).toInt) (i8 : (v_nameCount).toInt ≤ 96) (i9 : ∀ i : Nat, ((i : Int) < (v_nameCount).toInt) → (-1 ≤ (a_nameUnits i).toInt ∧ (a_nameUnits i).toInt < gU)) (i10 : ∀ i : Nat, ((i : Int) < (v_nameCount).toInt) → (0 ≤ (a_nameSettings i).toInt ∧ (a_nameSettings i).toInt ≤ 3)) (i11 : 0 ≤ (v_setCount).toInt) (i12 : (v_setCount).toInt ≤ 80) (i13 : ∀ i : Nat, ((i : Int) < (v_setCount).toInt) → (0 ≤ (a_setNames i).toInt ∧ (a_setNames i).toInt < (v_nameCount).toInt)) : OK (FX3_readSet_38 n v_tape_length a_tape_bytes v_fault v_faultPlace v_nameCount v_setCount v_tape_next v_tape_type v_tape_place v_tape_formerPlace v_tape_word v_tape_number a_names a_namePlaces a_nameUnits a_nameSettings a_setValues a_setNames x1) (fun u => (gN ≤ (u.2.2.2.1).toInt) ∧ (0 ≤ (u.2.2.2.2.2.1).toInt) ∧ ((u.2.2.2.2.2.1).toInt ≤ (v_tape_length).toInt) ∧ ((u.2.2.2.2.2.2.1).toInt = 8 → (0 ≤ (u.2.2.2.2.2.2.2.2.2.2.1).toInt ∧ (u.2.2.2.2.2.2.2.2.2.2.1).toInt ≤ 99999)) ∧ (0 ≤ (u.2.2.2.1).toInt) ∧ ((u.2.2.2.1).toInt ≤ 96) ∧ (∀ i : Nat, ((i : Int) < (u.2.2.2.1).toInt) → (-1 ≤ (u.2.2.2.2.2.2.2.2.2.2.2.2.2.1 i).toInt ∧ (u.2.2.2.2.2.2.2.2.2.2.2.2.2.1 i).toInt < gU)) ∧ (∀ i : Nat, ((i : Int) < (u.2.2.2.1).toInt) → (0 ≤ (u.2.2.2.2.2.2.2.2.2.2.2.2.2.2.1 i).toInt ∧ (u.2.2.2.2.2.2.2.2.2.2.2.2.2.2.1 i).toInt ≤ 3)) ∧ (0 ≤ (u.2.2.2.2.1).toInt) ∧ ((u.2.2.2.2.1).toInt ≤ 80) ∧ (∀ i : Nat, ((i : Int) < (u.2.2.2.2.1).toInt) → (0 ≤ (u.2.2.2.2.2.2.2.2.2.2.2.2.2.2.2.2 i).toInt ∧ (u.2.2.2.2.2.2.2.2.2.2.2.2.2.2.2.2 i).toInt < (u.2.2.2.1).toInt))) := by
  unfold FX3_readSet_38
  have v1110 : HQ ((2 : Int32)).toInt 2 := HQ.mk (by decide)
  refine OK_bd (sX3_fail n hn v_fault v_faultPlace (2 : Int32) v_tape_formerPlace (by (rw [v1110.out]) <;> omega)) (fun u_10 p_u_10 => ?_)
  have p1111 := p_u_10
  clear p_u_10
  exact sFX3_readSet_50 n hn v_tape_length a_tape_bytes gN gU u_10.2.1 u_10.2.2 v_nameCount v_setCount v_tape_next v_tape_type v_tape_place v_tape_formerPlace v_tape_word v_tape_number a_names a_namePlaces a_nameUnits a_nameSettings a_setValues a_setNames x1 i0 i1 i2 i3 i4 i5 i6 i7 i8 i9 i10 i11 i12 i13 (by omega) (by
      intro i hi
      have f1112 := i10 i
      omega)
set_option maxHeartbeats 2000000 in
theorem sX3_readSet (n : Nat) (hn : n = 2200000000) (v_fault : Int32) (v_faultPlace : Int32) (v_nameCount : Int32) (v_setCount : Int32) (v_tape_length : Int32) (v_tape_next : Int32) (v_tape_type : Int32) (v_tape_place : Int32) (v_tape_formerPlace : Int32) (v_tape_word : Int64) (v_tape_number : Int32) (a_tape_bytes : Nat → Int32) (a_names : Nat → Int64) (a_namePlaces : Nat → Int32) (a_nameUnits : Nat → Int32) (a_nameSettings : Nat → Int32) (a_setValues : Nat → Int32) (a_setNames : Nat → Int32) (gN : Int) (gU : Int) (i0 : gN ≤ (v_nameCount).toInt) (i1 : 0 ≤ gU) (i2 : 0 ≤ (v_tape_length).toInt) (i3 : (v_tape_length).toInt ≤ 1200) (i4 : 0 ≤ (v_tape_next).toInt) (i5 : (v_tape_next).toInt ≤ (v_tape_length).toInt) (i6 : (v_tape_type).toInt = 8 → (0 ≤ (v_tape_number).toInt ∧ (v_tape_number).toInt ≤ 99999)) (i7 : 0 ≤ (v_nameCount).toInt) (i8 : (v_nameCount).toInt ≤ 96) (i9 : ∀ i : Nat, ((i : Int) < (v_nameCount).toInt) → (-1 ≤ (a_nameUnits i).toInt ∧ (a_nameUnits i).toInt < gU)) (i10 : ∀ i : Nat, ((i : Int) < (v_nameCount).toInt) → (0 ≤ (a_nameSettings i).toInt ∧ (a_nameSettings i).toInt ≤ 3)) (i11 : 0 ≤ (v_setCount).toInt) (i12 : (v_setCount).toInt ≤ 80) (i13 : ∀ i : Nat, ((i : Int) < (v_setCount).toInt) → (0 ≤ (a_setNames i).toInt ∧ (a_setNames i).toInt < (v_nameCount).toInt)) : OK (FX3_readSet n v_fault v_faultPlace v_nameCount v_setCount v_tape_length v_tape_next v_tape_type v_tape_place v_tape_formerPlace v_tape_word v_tape_number a_tape_bytes a_names a_namePlaces a_nameUnits a_nameSettings a_setValues a_setNames) (fun u => (gN ≤ (u.2.2.2.1).toInt) ∧ (0 ≤ (u.2.2.2.2.2.1).toInt) ∧ ((u.2.2.2.2.2.1).toInt ≤ (v_tape_length).toInt) ∧ ((u.2.2.2.2.2.2.1).toInt = 8 → (0 ≤ (u.2.2.2.2.2.2.2.2.2.2.1).toInt ∧ (u.2.2.2.2.2.2.2.2.2.2.1).toInt ≤ 99999)) ∧ (0 ≤ (u.2.2.2.1).toInt) ∧ ((u.2.2.2.1).toInt ≤ 96) ∧ (∀ i : Nat, ((i : Int) < (u.2.2.2.1).toInt) → (-1 ≤ (u.2.2.2.2.2.2.2.2.2.2.2.2.2.1 i).toInt ∧ (u.2.2.2.2.2.2.2.2.2.2.2.2.2.1 i).toInt < gU)) ∧ (∀ i : Nat, ((i : Int) < (u.2.2.2.1).toInt) → (0 ≤ (u.2.2.2.2.2.2.2.2.2.2.2.2.2.2.1 i).toInt ∧ (u.2.2.2.2.2.2.2.2.2.2.2.2.2.2.1 i).toInt ≤ 3)) ∧ (0 ≤ (u.2.2.2.2.1).toInt) ∧ ((u.2.2.2.2.1).toInt ≤ 80) ∧ (∀ i : Nat, ((i : Int) < (u.2.2.2.2.1).toInt) → (0 ≤ (u.2.2.2.2.2.2.2.2.2.2.2.2.2.2.2.2 i).toInt ∧ (u.2.2.2.2.2.2.2.2.2.2.2.2.2.2.2.2 i).toInt < (u.2.2.2.1).toInt))) := by
  unfold FX3_readSet
  refine OK_bd (sX4_advance n hn v_tape_length v_tape_next v_tape_type v_tape_place v_tape_formerPlace v_tape_word v_tape_number a_tape_bytes i2 i3 i4 i5) (fun u_2 p_u_2 => ?_)
  obtain ⟨p1113, p1114, p1115⟩ := p_u_2
  refine OK_bd (sX3_takeName n hn v_fault v_faultPlace v_nameCount v_tape_length u_2.2.1 u_2.2.2.1 u_2.2.2.2.1 u_2.2.2.2.2.1 u_2.2.2.2.2.2.1 u_2.2.2.2.2.2.2 a_names a_namePlaces a_nameUnits a_nameSettings a_tape_bytes ((v_fault).toInt) ((v_nameCount).toInt) (gU) (by omega) (by omega) (by omega) i2 i3 p1113 p1114 p1115 i7 i8 (by
      intro i hi
      have f1116 := i9 i
      omega) i10) (fun u_4 p_u_4 => ?_)
  obtain ⟨p1117, p1118, p1119, p1120, p1121, p1122, p1123, p1124, p1125, p1126⟩ := p_u_4
  refine OK_if (fun c1127 => ?_) (fun c1127 => ?_)
  · have v1128 : HQ ((0 : Int32)).toInt 0 := HQ.mk (by decide)
    have f1129 := eq32k rfl v1128.out c1127
    refine OK_ck (ckV rfl (by omega) (by omega)) ?_
    refine OK_if (fun c1130 => ?_) (fun c1130 => ?_)
    · have v1131 : HQ ((3 : Int32)).toInt 3 := HQ.mk (by decide)
      obtain ⟨m1132, v1133, f1134⟩ := tnV (e := u_4.1) rfl (by omega)
      have v1135 : HQ ((u_4.2.2.2.2.2.2.2.2.2.2.2.2.2 ((u_4.1).toNatClampNeg))).toInt (u_4.2.2.2.2.2.2.2.2.2.2.2.2.2 m1132).toInt := HQ.mk (by rw [v1133.out])
      have f1136 := p1125 m1132
      have f1137 := le32k v1131.out v1135.out c1130
      exact sFX3_readSet_38 n hn v_tape_length a_tape_bytes gN gU u_4.2.1 u_4.2.2.1 u_4.2.2.2.1 v_setCount u_4.2.2.2.2.1 u_4.2.2.2.2.2.1 u_4.2.2.2.2.2.2.1 u_4.2.2.2.2.2.2.2.1 u_4.2.2.2.2.2.2.2.2.1 u_4.2.2.2.2.2.2.2.2.2.1 u_4.2.2.2.2.2.2.2.2.2.2.1 u_4.2.2.2.2.2.2.2.2.2.2.2.1 u_4.2.2.2.2.2.2.2.2.2.2.2.2.1 u_4.2.2.2.2.2.2.2.2.2.2.2.2.2 a_setValues a_setNames u_4.1 (by omega) i1 i2 i3 p1119 p1120 p1121 p1122 p1123 (by
          intro i hi
          have f1138 := p1124 i
          omega) p1125 i11 i12 (by
          intro i hi
          have f1139 := i13 i
          omega)
    · have v1140 : HQ ((3 : Int32)).toInt 3 := HQ.mk (by decide)
      obtain ⟨m1141, v1142, f1143⟩ := tnV (e := u_4.1) rfl (by omega)
      have v1144 : HQ ((u_4.2.2.2.2.2.2.2.2.2.2.2.2.2 ((u_4.1).toNatClampNeg))).toInt (u_4.2.2.2.2.2.2.2.2.2.2.2.2.2 m1141).toInt := HQ.mk (by rw [v1142.out])
      have f1145 := p1125 m1141
      have f1146 := nle32k v1140.out v1144.out c1130
      refine OK_if (fun c1147 => ?_) (fun c1147 => ?_)
      · have v1148 : HQ ((80 : Int32)).toInt 80 := HQ.mk (by decide)
        have f1149 := lt32k rfl v1148.out c1147
        exact sFX3_readSet_50 n hn v_tape_length a_tape_bytes gN gU u_4.2.1 u_4.2.2.1 u_4.2.2.2.1 v_setCount u_4.2.2.2.2.1 u_4.2.2.2.2.2.1 u_4.2.2.2.2.2.2.1 u_4.2.2.2.2.2.2.2.1 u_4.2.2.2.2.2.2.2.2.1 u_4.2.2.2.2.2.2.2.2.2.1 u_4.2.2.2.2.2.2.2.2.2.2.1 u_4.2.2.2.2.2.2.2.2.2.2.2.1 u_4.2.2.2.2.2.2.2.2.2.2.2.2.1 u_4.2.2.2.2.2.2.2.2.2.2.2.2.2 a_setValues a_setNames u_4.1 (by omega) i1 i2 i3 p1119 p1120 p1121 p1122 p1123 (by
            intro i hi
            have f1150 := p1124 i
            omega) p1125 i11 i12 (by
            intro i hi
            have f1151 := i13 i
            omega) (by omega) (by
            intro i hi
            have f1152 := p1125 i
            have f1153 := congAt u_4.2.2.2.2.2.2.2.2.2.2.2.2.2 i m1141
            omega)
      · have v1154 : HQ ((80 : Int32)).toInt 80 := HQ.mk (by decide)
        have f1155 := nlt32k rfl v1154.out c1147
        exact sFX3_readSet_38 n hn v_tape_length a_tape_bytes gN gU u_4.2.1 u_4.2.2.1 u_4.2.2.2.1 v_setCount u_4.2.2.2.2.1 u_4.2.2.2.2.2.1 u_4.2.2.2.2.2.2.1 u_4.2.2.2.2.2.2.2.1 u_4.2.2.2.2.2.2.2.2.1 u_4.2.2.2.2.2.2.2.2.2.1 u_4.2.2.2.2.2.2.2.2.2.2.1 u_4.2.2.2.2.2.2.2.2.2.2.2.1 u_4.2.2.2.2.2.2.2.2.2.2.2.2.1 u_4.2.2.2.2.2.2.2.2.2.2.2.2.2 a_setValues a_setNames u_4.1 (by omega) i1 i2 i3 p1119 p1120 p1121 p1122 p1123 (by
            intro i hi
            have f1156 := p1124 i
            omega) p1125 i11 i12 (by
            intro i hi
            have f1157 := i13 i
            omega)
  · have v1158 : HQ ((0 : Int32)).toInt 0 := HQ.mk (by decide)
    have f1159 := neq32k rfl v1158.out c1127
    exact sFX3_readSet_50 n hn v_tape_length a_tape_bytes gN gU u_4.2.1 u_4.2.2.1 u_4.2.2.2.1 v_setCount u_4.2.2.2.2.1 u_4.2.2.2.2.2.1 u_4.2.2.2.2.2.2.1 u_4.2.2.2.2.2.2.2.1 u_4.2.2.2.2.2.2.2.2.1 u_4.2.2.2.2.2.2.2.2.2.1 u_4.2.2.2.2.2.2.2.2.2.2.1 u_4.2.2.2.2.2.2.2.2.2.2.2.1 u_4.2.2.2.2.2.2.2.2.2.2.2.2.1 u_4.2.2.2.2.2.2.2.2.2.2.2.2.2 a_setValues a_setNames u_4.1 (by omega) i1 i2 i3 p1119 p1120 p1121 p1122 p1123 (by
        intro i hi
        have f1160 := p1124 i
        omega) p1125 i11 i12 (by
        intro i hi
        have f1161 := i13 i
        omega) (by omega) (by
        intro i hi
        have f1162 := p1125 i
        omega)
