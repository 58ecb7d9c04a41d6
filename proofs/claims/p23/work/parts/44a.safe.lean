set_option maxHeartbeats 2000000 in
theorem sFX3_readUnit_57 (n : Nat) (hn : n = 2200000000) (v_tape_length : Int32) (a_tape_bytes : Nat → Int32) (gN : Int) (v_fault : Int32) (v_faultPlace : Int32) (v_nameCount : Int32) (v_draft_units : Int32) (v_tape_next : Int32) (v_tape_type : Int32) (v_tape_place : Int32) (v_tape_formerPlace : Int32) (v_tape_word : Int64) (v_tape_number : Int32) (a_names : Nat → Int64) (a_namePlaces : Nat → Int32) (a_nameUnits : Nat → Int32) (a_nameSettings : Nat → Int32) (a_draft_yesLeads : Nat → Int32) (a_draft_noLeads : Nat → Int32) (x1 : Int32) (i0 : gN ≤ (v_nameCount).toInt) (i1 : 0 ≤ (v_tape_length).toInt) (i2 : (v_tape_length).toInt ≤ 1200) (i3 : 0 ≤ (v_tape_next).toInt) (i4 : (v_tape_next).toInt ≤ (v_tape_length).toInt) (i5 : (v_tape_type).toInt = 8 → (0 ≤ (v_tape_number).toInt ∧ (v_tape_number).toInt ≤ 99999)) (i6 : 0 ≤ (v_nameCount).toInt) (i7 : (v_nameCount).toInt ≤ 96) (i8 : ∀ i : Nat, ((i : Int) < (v_nameCount).toInt) → (-1 ≤ (a_nameUnits i).toInt ∧ (a_nameUnits i).toInt < (v_draft_units).toInt)) (i9 : ∀ i : Nat, ((i : Int) < (v_nameCount).toInt) → (0 ≤ (a_nameSettings i).toInt ∧ (a_nameSettings i).toInt ≤ 3)) (i10 : 0 ≤ (v_draft_units).toInt) (i11 : (v_draft_units).toInt ≤ 5) (i12 : ∀ i : Nat, ((i : Int) < (v_draft_units).toInt) → ((10 ≤ (a_draft_yesLeads i).toInt ∧ (a_draft_yesLeads i).toInt ≤ 13) ∨ (a_draft_yesLeads i).toInt = 20 ∨ (100 ≤ (a_draft_yesLeads i).toInt ∧ (a_draft_yesLeads i).toInt < 100 + (v_nameCount).toInt))) (i13 : ∀ i : Nat, ((i : Int) < (v_draft_units).toInt) → ((10 ≤ (a_draft_noLeads i).toInt ∧ (a_draft_noLeads i).toInt ≤ 13) ∨ (a_draft_noLeads i).toInt = 20 ∨ (100 ≤ (a_draft_noLeads i).toInt ∧ (a_draft_noLeads i).toInt < 100 + (v_nameCount).toInt))) (i14 : (v_fault).toInt = 0 → (0 ≤ (x1).toInt ∧ (x1).toInt < (v_nameCount).toInt)) (i15 : (v_draft_units).toInt < 5) : OK (FX3_readUnit_57 n v_tape_length a_tape_bytes v_fault v_faultPlace v_nameCount v_draft_units v_tape_next v_tape_type v_tape_place v_tape_formerPlace v_tape_word v_tape_number a_names a_namePlaces a_nameUnits a_nameSettings a_draft_yesLeads a_draft_noLeads x1) (fun u => (gN ≤ (u.2.2.2.1).toInt) ∧ (0 ≤ (u.2.2.2.2.2.1).toInt) ∧ ((u.2.2.2.2.2.1).toInt ≤ (v_tape_length).toInt) ∧ ((u.2.2.2.2.2.2.1).toInt = 8 → (0 ≤ (u.2.2.2.2.2.2.2.2.2.2.1).toInt ∧ (u.2.2.2.2.2.2.2.2.2.2.1).toInt ≤ 99999)) ∧ (0 ≤ (u.2.2.2.1).toInt) ∧ ((u.2.2.2.1).toInt ≤ 96) ∧ (∀ i : Nat, ((i : Int) < (u.2.2.2.1).toInt) → (-1 ≤ (u.2.2.2.2.2.2.2.2.2.2.2.2.2.1 i).toInt ∧ (u.2.2.2.2.2.2.2.2.2.2.2.2.2.1 i).toInt < (u.2.2.2.2.1).toInt)) ∧ (∀ i : Nat, ((i : Int) < (u.2.2.2.1).toInt) → (0 ≤ (u.2.2.2.2.2.2.2.2.2.2.2.2.2.2.1 i).toInt ∧ (u.2.2.2.2.2.2.2.2.2.2.2.2.2.2.1 i).toInt ≤ 3)) ∧ (0 ≤ (u.2.2.2.2.1).toInt) ∧ ((u.2.2.2.2.1).toInt ≤ 5) ∧ (∀ i : Nat, ((i : Int) < (u.2.2.2.2.1).toInt) → ((10 ≤ (u.2.2.2.2.2.2.2.2.2.2.2.2.2.2.2.1 i).toInt ∧ (u.2.2.2.2.2.2.2.2.2.2.2.2.2.2.2.1 i).toInt ≤ 13) ∨ (u.2.2.2.2.2.2.2.2.2.2.2.2.2.2.2.1 i).toInt = 20 ∨ (100 ≤ (u.2.2.2.2.2.2.2.2.2.2.2.2.2.2.2.1 i).toInt ∧ (u.2.2.2.2.2.2.2.2.2.2.2.2.2.2.2.1 i).toInt < 100 + (u.2.2.2.1).toInt))) ∧ (∀ i : Nat, ((i : Int) < (u.2.2.2.2.1).toInt) → ((10 ≤ (u.2.2.2.2.2.2.2.2.2.2.2.2.2.2.2.2 i).toInt ∧ (u.2.2.2.2.2.2.2.2.2.2.2.2.2.2.2.2 i).toInt ≤ 13) ∨ (u.2.2.2.2.2.2.2.2.2.2.2.2.2.2.2.2 i).toInt = 20 ∨ (100 ≤ (u.2.2.2.2.2.2.2.2.2.2.2.2.2.2.2.2 i).toInt ∧ (u.2.2.2.2.2.2.2.2.2.2.2.2.2.2.2.2 i).toInt < 100 + (u.2.2.2.1).toInt)))) := by
  unfold FX3_readUnit_57
  replace i5 : HP _ := i5
  refine OK_bd (sX3_take n hn v_fault v_faultPlace v_tape_length v_tape_next v_tape_type v_tape_place v_tape_formerPlace v_tape_word v_tape_number a_tape_bytes (1 : Int32) ((v_fault).toInt) (by (first | omega | (unfold HP at *; omega))) i1 i2 i3 i4 i5) (fun u_14 p_u_14 => ?_)
  obtain ⟨p944, p945, p946, p947⟩ := p_u_14
  replace p947 : HP _ := p947
  refine OK_bd (sX3_takeOut n hn u_14.2.1 u_14.2.2.1 v_nameCount v_tape_length u_14.2.2.2.1 u_14.2.2.2.2.1 u_14.2.2.2.2.2.1 u_14.2.2.2.2.2.2.1 u_14.2.2.2.2.2.2.2.1 u_14.2.2.2.2.2.2.2.2 a_tape_bytes a_names a_namePlaces a_nameUnits a_nameSettings ((u_14.2.1).toInt) ((v_nameCount).toInt) ((v_draft_units).toInt) (by (first | omega | (unfold HP at *; omega))) (by (first | omega | (unfold HP at *; omega))) (by (first | omega | (unfold HP at *; omega))) i1 i2 p945 p946 p947 i6 i7 (by
      intro i hi
      have f948 := i8 i
      (first | omega | (unfold HP at *; omega))) i9) (fun u_16 p_u_16 => ?_)
  obtain ⟨p949, p950, p951, p952, p953, p954, p955, p956, p957, p958⟩ := p_u_16
  replace p953 : HP _ := p953
  refine OK_bd (sX3_take n hn u_16.2.1 u_16.2.2.1 v_tape_length u_16.2.2.2.2.1 u_16.2.2.2.2.2.1 u_16.2.2.2.2.2.2.1 u_16.2.2.2.2.2.2.2.1 u_16.2.2.2.2.2.2.2.2.1 u_16.2.2.2.2.2.2.2.2.2.1 a_tape_bytes (2 : Int32) ((u_16.2.1).toInt) (by (first | omega | (unfold HP at *; omega))) i1 i2 p951 p952 p953) (fun u_18 p_u_18 => ?_)
  obtain ⟨p959, p960, p961, p962⟩ := p_u_18
  replace p962 : HP _ := p962
  refine OK_bd (sX3_takeOut n hn u_18.2.1 u_18.2.2.1 u_16.2.2.2.1 v_tape_length u_18.2.2.2.1 u_18.2.2.2.2.1 u_18.2.2.2.2.2.1 u_18.2.2.2.2.2.2.1 u_18.2.2.2.2.2.2.2.1 u_18.2.2.2.2.2.2.2.2 a_tape_bytes u_16.2.2.2.2.2.2.2.2.2.2.1 u_16.2.2.2.2.2.2.2.2.2.2.2.1 u_16.2.2.2.2.2.2.2.2.2.2.2.2.1 u_16.2.2.2.2.2.2.2.2.2.2.2.2.2 ((u_18.2.1).toInt) ((u_16.2.2.2.1).toInt) ((v_draft_units).toInt) (by (first | omega | (unfold HP at *; omega))) (by (first | omega | (unfold HP at *; omega))) (by (first | omega | (unfold HP at *; omega))) i1 i2 p960 p961 p962 p954 p955 p956 p957) (fun u_20 p_u_20 => ?_)
  obtain ⟨p963, p964, p965, p966, p967, p968, p969, p970, p971, p972⟩ := p_u_20
  replace p967 : HP _ := p967
  refine OK_bd (sX3_take n hn u_20.2.1 u_20.2.2.1 v_tape_length u_20.2.2.2.2.1 u_20.2.2.2.2.2.1 u_20.2.2.2.2.2.2.1 u_20.2.2.2.2.2.2.2.1 u_20.2.2.2.2.2.2.2.2.1 u_20.2.2.2.2.2.2.2.2.2.1 a_tape_bytes (9 : Int32) ((u_20.2.1).toInt) (by (first | omega | (unfold HP at *; omega))) i1 i2 p965 p966 p967) (fun u_22 p_u_22 => ?_)
  obtain ⟨p973, p974, p975, p976⟩ := p_u_22
  replace p976 : HP _ := p976
  refine OK_if (fun c977 => ?_) (fun c977 => ?_)
  · have v978 : HQ ((0 : Int32)).toInt 0 := HQ.mk (by decide)
    have f979 := eq32k rfl v978.out c977
    refine OK_ck (ckV rfl (by (first | omega | (unfold HP at *; omega))) (by (first | omega | (unfold HP at *; omega)))) ?_
    obtain ⟨m980, v981, f982⟩ := tnV (e := x1) rfl (by (first | omega | (unfold HP at *; omega)))
    refine OK_lt (fun f_25 e_f_25 => ?_)
    rw [v981.out] at e_f_25
    refine OK_ck (ckV rfl (by (first | omega | (unfold HP at *; omega))) (by (first | omega | (unfold HP at *; omega)))) ?_
    obtain ⟨m983, v984, f985⟩ := tnV (e := v_draft_units) rfl (by (first | omega | (unfold HP at *; omega)))
    refine OK_lt (fun f_27 e_f_27 => ?_)
    rw [v984.out] at e_f_27
    refine OK_ck (ckV rfl (by (first | omega | (unfold HP at *; omega))) (by (first | omega | (unfold HP at *; omega)))) ?_
    refine OK_lt (fun f_29 e_f_29 => ?_)
    rw [v984.out] at e_f_29
    have v986 : HQ ((1 : Int32)).toInt 1 := HQ.mk (by decide)
    have v987 : HQ ((v_draft_units + (1 : Int32))).toInt ((v_draft_units).toInt + 1) := HQ.mk (addV rfl v986.out (by (first | omega | (unfold HP at *; omega))) (by (first | omega | (unfold HP at *; omega))))
    refine OK_lt (fun x_30 e_x_30 => ?_)
    have f988 : (x_30).toInt = ((v_draft_units).toInt + 1) := by rw [e_x_30]; exact v987.out
    exact OK_some (show (gN ≤ (u_20.2.2.2.1).toInt) ∧ (0 ≤ (u_22.2.2.2.1).toInt) ∧ ((u_22.2.2.2.1).toInt ≤ (v_tape_length).toInt) ∧ ((u_22.2.2.2.2.1).toInt = 8 → (0 ≤ (u_22.2.2.2.2.2.2.2.2).toInt ∧ (u_22.2.2.2.2.2.2.2.2).toInt ≤ 99999)) ∧ (0 ≤ (u_20.2.2.2.1).toInt) ∧ ((u_20.2.2.2.1).toInt ≤ 96) ∧ (∀ i : Nat, ((i : Int) < (u_20.2.2.2.1).toInt) → (-1 ≤ (f_25 i).toInt ∧ (f_25 i).toInt < (x_30).toInt)) ∧ (∀ i : Nat, ((i : Int) < (u_20.2.2.2.1).toInt) → (0 ≤ (u_20.2.2.2.2.2.2.2.2.2.2.2.2.2 i).toInt ∧ (u_20.2.2.2.2.2.2.2.2.2.2.2.2.2 i).toInt ≤ 3)) ∧ (0 ≤ (x_30).toInt) ∧ ((x_30).toInt ≤ 5) ∧ (∀ i : Nat, ((i : Int) < (x_30).toInt) → ((10 ≤ (f_27 i).toInt ∧ (f_27 i).toInt ≤ 13) ∨ (f_27 i).toInt = 20 ∨ (100 ≤ (f_27 i).toInt ∧ (f_27 i).toInt < 100 + (u_20.2.2.2.1).toInt))) ∧ (∀ i : Nat, ((i : Int) < (x_30).toInt) → ((10 ≤ (f_29 i).toInt ∧ (f_29 i).toInt ≤ 13) ∨ (f_29 i).toInt = 20 ∨ (100 ≤ (f_29 i).toInt ∧ (f_29 i).toInt < 100 + (u_20.2.2.2.1).toInt))) from ⟨(by (first | omega | (unfold HP at *; omega))), p974, p975, p976, p968, p969, (by
        intro i hi
        have f989 := updW e_f_25 rfl i
        have f990 := p970 i
        (first | omega | (unfold HP at *; omega))), p971, (by (first | omega | (unfold HP at *; omega))), (by (first | omega | (unfold HP at *; omega))), (by
        intro i hi
        have f991 := updW e_f_27 rfl i
        have f992 := i12 i
        (first | omega | (unfold HP at *; omega))), (by
        intro i hi
        have f993 := updW e_f_29 rfl i
        have f994 := i13 i
        (first | omega | (unfold HP at *; omega)))⟩)
  · have v995 : HQ ((0 : Int32)).toInt 0 := HQ.mk (by decide)
    have f996 := neq32k rfl v995.out c977
    exact OK_some (show (gN ≤ (u_20.2.2.2.1).toInt) ∧ (0 ≤ (u_22.2.2.2.1).toInt) ∧ ((u_22.2.2.2.1).toInt ≤ (v_tape_length).toInt) ∧ ((u_22.2.2.2.2.1).toInt = 8 → (0 ≤ (u_22.2.2.2.2.2.2.2.2).toInt ∧ (u_22.2.2.2.2.2.2.2.2).toInt ≤ 99999)) ∧ (0 ≤ (u_20.2.2.2.1).toInt) ∧ ((u_20.2.2.2.1).toInt ≤ 96) ∧ (∀ i : Nat, ((i : Int) < (u_20.2.2.2.1).toInt) → (-1 ≤ (u_20.2.2.2.2.2.2.2.2.2.2.2.2.1 i).toInt ∧ (u_20.2.2.2.2.2.2.2.2.2.2.2.2.1 i).toInt < (v_draft_units).toInt)) ∧ (∀ i : Nat, ((i : Int) < (u_20.2.2.2.1).toInt) → (0 ≤ (u_20.2.2.2.2.2.2.2.2.2.2.2.2.2 i).toInt ∧ (u_20.2.2.2.2.2.2.2.2.2.2.2.2.2 i).toInt ≤ 3)) ∧ (0 ≤ (v_draft_units).toInt) ∧ ((v_draft_units).toInt ≤ 5) ∧ (∀ i : Nat, ((i : Int) < (v_draft_units).toInt) → ((10 ≤ (a_draft_yesLeads i).toInt ∧ (a_draft_yesLeads i).toInt ≤ 13) ∨ (a_draft_yesLeads i).toInt = 20 ∨ (100 ≤ (a_draft_yesLeads i).toInt ∧ (a_draft_yesLeads i).toInt < 100 + (u_20.2.2.2.1).toInt))) ∧ (∀ i : Nat, ((i : Int) < (v_draft_units).toInt) → ((10 ≤ (a_draft_noLeads i).toInt ∧ (a_draft_noLeads i).toInt ≤ 13) ∨ (a_draft_noLeads i).toInt = 20 ∨ (100 ≤ (a_draft_noLeads i).toInt ∧ (a_draft_noLeads i).toInt < 100 + (u_20.2.2.2.1).toInt))) from ⟨(by (first | omega | (unfold HP at *; omega))), p974, p975, p976, p968, p969, (by
        intro i hi
        have f997 := p970 i
        (first | omega | (unfold HP at *; omega))), p971, i10, i11, (by
        intro i hi
        have f998 := i12 i
        (first | omega | (unfold HP at *; omega))), (by
        intro i hi
        have f999 := i13 i
        (first | omega | (unfold HP at *; omega)))⟩)
set_option maxHeartbeats 2000000 in
theorem sX3_readUnit (n : Nat) (hn : n = 2200000000) (v_fault : Int32) (v_faultPlace : Int32) (v_nameCount : Int32) (v_draft_units : Int32) (v_tape_length : Int32) (v_tape_next : Int32) (v_tape_type : Int32) (v_tape_place : Int32) (v_tape_formerPlace : Int32) (v_tape_word : Int64) (v_tape_number : Int32) (a_tape_bytes : Nat → Int32) (a_names : Nat → Int64) (a_namePlaces : Nat → Int32) (a_nameUnits : Nat → Int32) (a_nameSettings : Nat → Int32) (a_draft_yesLeads : Nat → Int32) (a_draft_noLeads : Nat → Int32) (gN : Int) (i0 : gN ≤ (v_nameCount).toInt) (i1 : 0 ≤ (v_tape_length).toInt) (i2 : (v_tape_length).toInt ≤ 1200) (i3 : 0 ≤ (v_tape_next).toInt) (i4 : (v_tape_next).toInt ≤ (v_tape_length).toInt) (i5 : (v_tape_type).toInt = 8 → (0 ≤ (v_tape_number).toInt ∧ (v_tape_number).toInt ≤ 99999)) (i6 : 0 ≤ (v_nameCount).toInt) (i7 : (v_nameCount).toInt ≤ 96) (i8 : ∀ i : Nat, ((i : Int) < (v_nameCount).toInt) → (-1 ≤ (a_nameUnits i).toInt ∧ (a_nameUnits i).toInt < (v_draft_units).toInt)) (i9 : ∀ i : Nat, ((i : Int) < (v_nameCount).toInt) → (0 ≤ (a_nameSettings i).toInt ∧ (a_nameSettings i).toInt ≤ 3)) (i10 : 0 ≤ (v_draft_units).toInt) (i11 : (v_draft_units).toInt ≤ 5) (i12 : ∀ i : Nat, ((i : Int) < (v_draft_units).toInt) → ((10 ≤ (a_draft_yesLeads i).toInt ∧ (a_draft_yesLeads i).toInt ≤ 13) ∨ (a_draft_yesLeads i).toInt = 20 ∨ (100 ≤ (a_draft_yesLeads i).toInt ∧ (a_draft_yesLeads i).toInt < 100 + (v_nameCount).toInt))) (i13 : ∀ i : Nat, ((i : Int) < (v_draft_units).toInt) → ((10 ≤ (a_draft_noLeads i).toInt ∧ (a_draft_noLeads i).toInt ≤ 13) ∨ (a_draft_noLeads i).toInt = 20 ∨ (100 ≤ (a_draft_noLeads i).toInt ∧ (a_draft_noLeads i).toInt < 100 + (v_nameCount).toInt))) : OK (FX3_readUnit n v_fault v_faultPlace v_nameCount v_draft_units v_tape_length v_tape_next v_tape_type v_tape_place v_tape_formerPlace v_tape_word v_tape_number a_tape_bytes a_names a_namePlaces a_nameUnits a_nameSettings a_draft_yesLeads a_draft_noLeads) (fun u => (gN ≤ (u.2.2.2.1).toInt) ∧ (0 ≤ (u.2.2.2.2.2.1).toInt) ∧ ((u.2.2.2.2.2.1).toInt ≤ (v_tape_length).toInt) ∧ ((u.2.2.2.2.2.2.1).toInt = 8 → (0 ≤ (u.2.2.2.2.2.2.2.2.2.2.1).toInt ∧ (u.2.2.2.2.2.2.2.2.2.2.1).toInt ≤ 99999)) ∧ (0 ≤ (u.2.2.2.1).toInt) ∧ ((u.2.2.2.1).toInt ≤ 96) ∧ (∀ i : Nat, ((i : Int) < (u.2.2.2.1).toInt) → (-1 ≤ (u.2.2.2.2.2.2.2.2.2.2.2.2.2.1 i).toInt ∧ (u.2.2.2.2.2.2.2.2.2.2.2.2.2.1 i).toInt < (u.2.2.2.2.1).toInt)) ∧ (∀ i : Nat, ((i : Int) < (u.2.2.2.1).toInt) → (0 ≤ (u.2.2.2.2.2.2.2.2.2.2.2.2.2.2.1 i).toInt ∧ (u.2.2.2.2.2.2.2.2.2.2.2.2.2.2.1 i).toInt ≤ 3)) ∧ (0 ≤ (u.2.2.2.2.1).toInt) ∧ ((u.2.2.2.2.1).toInt ≤ 5) ∧ (∀ i : Nat, ((i : Int) < (u.2.2.2.2.1).toInt) → ((10 ≤ (u.2.2.2.2.2.2.2.2.2.2.2.2.2.2.2.1 i).toInt ∧ (u.2.2.2.2.2.2.2.2.2.2.2.2.2.2.2.1 i).toInt ≤ 13) ∨ (u.2.2.2.2.2.2.2.2.2.2.2.2.2.2.2.1 i).toInt = 20 ∨ (100 ≤ (u.2.2.2.2.2.2.2.2.2.2.2.2.2.2.2.1 i).toInt ∧ (u.2.2.2.2.2.2.2.2.2.2.2.2.2.2.2.1 i).toInt < 100 + (u.2.2.2.1).toInt))) ∧ (∀ i : Nat, ((i : Int) < (u.2.2.2.2.1).toInt) → ((10 ≤ (u.2.2.2.2.2.2.2.2.2.2.2.2.2.2.2.2 i).toInt ∧ (u.2.2.2.2.2.2.2.2.2.2.2.2.2.2.2.2 i).toInt ≤ 13) ∨ (u.2.2.2.2.2.2.2.2.2.2.2.2.2.2.2.2 i).toInt = 20 ∨ (100 ≤ (u.2.2.2.2.2.2.2.2.2.2.2.2.2.2.2.2 i).toInt ∧ (u.2.2.2.2.2.2.2.2.2.2.2.2.2.2.2.2 i).toInt < 100 + (u.2.2.2.1).toInt)))) := by
  unfold FX3_readUnit
  replace i5 : HP _ := i5
  refine OK_if (fun c1000 => ?_) (fun c1000 => ?_)
  · have v1001 : HQ ((5 : Int32)).toInt 5 := HQ.mk (by decide)
    have f1002 := lt32k rfl v1001.out c1000
    refine OK_bd (sX4_advance n hn v_tape_length v_tape_next v_tape_type v_tape_place v_tape_formerPlace v_tape_word v_tape_number a_tape_bytes i1 i2 i3 i4) (fun u_3 p_u_3 => ?_)
    obtain ⟨p1003, p1004, p1005⟩ := p_u_3
    replace p1005 : HP _ := p1005
    refine OK_bd (sX3_takeName n hn v_fault v_faultPlace v_nameCount v_tape_length u_3.2.1 u_3.2.2.1 u_3.2.2.2.1 u_3.2.2.2.2.1 u_3.2.2.2.2.2.1 u_3.2.2.2.2.2.2 a_names a_namePlaces a_nameUnits a_nameSettings a_tape_bytes ((v_fault).toInt) ((v_nameCount).toInt) ((v_draft_units).toInt) (by (first | omega | (unfold HP at *; omega))) (by (first | omega | (unfold HP at *; omega))) (by (first | omega | (unfold HP at *; omega))) i1 i2 p1003 p1004 p1005 i6 i7 (by
        intro i hi
        have f1006 := i8 i
        (first | omega | (unfold HP at *; omega))) i9) (fun u_5 p_u_5 => ?_)
    obtain ⟨p1007, p1008, p1009, p1010, p1011, p1012, p1013, p1014, p1015, p1016⟩ := p_u_5
    replace p1011 : HP _ := p1011
    refine OK_if (fun c1017 => ?_) (fun c1017 => ?_)
    · have v1018 : HQ ((0 : Int32)).toInt 0 := HQ.mk (by decide)
      have f1019 := eq32k rfl v1018.out c1017
      refine OK_ck (ckV rfl (by (first | omega | (unfold HP at *; omega))) (by (first | omega | (unfold HP at *; omega)))) ?_
      refine OK_if (fun c1020 => ?_) (fun c1020 => ?_)
      · obtain ⟨m1021, v1022, f1023⟩ := tnV (e := u_5.1) rfl (by (first | omega | (unfold HP at *; omega)))
        have v1024 : HQ ((u_5.2.2.2.2.2.2.2.2.2.2.2.2.1 ((u_5.1).toNatClampNeg))).toInt (u_5.2.2.2.2.2.2.2.2.2.2.2.2.1 m1021).toInt := HQ.mk (by rw [v1022.out])
        have f1025 := p1014 m1021
        have v1026 : HQ ((-1 : Int32)).toInt (-1) := HQ.mk (by decide)
        have f1027 := eq32k v1024.out v1026.out c1020
        exact sFX3_readUnit_57 n hn v_tape_length a_tape_bytes gN u_5.2.1 u_5.2.2.1 u_5.2.2.2.1 v_draft_units u_5.2.2.2.2.1 u_5.2.2.2.2.2.1 u_5.2.2.2.2.2.2.1 u_5.2.2.2.2.2.2.2.1 u_5.2.2.2.2.2.2.2.2.1 u_5.2.2.2.2.2.2.2.2.2.1 u_5.2.2.2.2.2.2.2.2.2.2.1 u_5.2.2.2.2.2.2.2.2.2.2.2.1 u_5.2.2.2.2.2.2.2.2.2.2.2.2.1 u_5.2.2.2.2.2.2.2.2.2.2.2.2.2 a_draft_yesLeads a_draft_noLeads u_5.1 (by (first | omega | (unfold HP at *; omega))) i1 i2 p1009 p1010 p1011 p1012 p1013 (by
            intro i hi
            have f1028 := p1014 i
            have f1029 := congAt u_5.2.2.2.2.2.2.2.2.2.2.2.2.1 i m1021
            (first | omega | (unfold HP at *; omega))) p1015 i10 i11 (by
            intro i hi
            have f1030 := i12 i
            (first | omega | (unfold HP at *; omega))) (by
            intro i hi
            have f1031 := i13 i
            (first | omega | (unfold HP at *; omega))) p1016 (by (first | omega | (unfold HP at *; omega)))
      · obtain ⟨m1032, v1033, f1034⟩ := tnV (e := u_5.1) rfl (by (first | omega | (unfold HP at *; omega)))
        have v1035 : HQ ((u_5.2.2.2.2.2.2.2.2.2.2.2.2.1 ((u_5.1).toNatClampNeg))).toInt (u_5.2.2.2.2.2.2.2.2.2.2.2.2.1 m1032).toInt := HQ.mk (by rw [v1033.out])
        have f1036 := p1014 m1032
        have v1037 : HQ ((-1 : Int32)).toInt (-1) := HQ.mk (by decide)
        have f1038 := neq32k v1035.out v1037.out c1020
        have v1039 : HQ ((3 : Int32)).toInt 3 := HQ.mk (by decide)
        refine OK_bd (sX3_fail n hn u_5.2.1 u_5.2.2.1 (3 : Int32) u_5.2.2.2.2.2.2.2.1 (by (rw [v1039.out]) <;> (first | omega | (unfold HP at *; omega)))) (fun u_10 p_u_10 => ?_)
        have p1040 := p_u_10
        clear p_u_10
        exact sFX3_readUnit_57 n hn v_tape_length a_tape_bytes gN u_10.2.1 u_10.2.2 u_5.2.2.2.1 v_draft_units u_5.2.2.2.2.1 u_5.2.2.2.2.2.1 u_5.2.2.2.2.2.2.1 u_5.2.2.2.2.2.2.2.1 u_5.2.2.2.2.2.2.2.2.1 u_5.2.2.2.2.2.2.2.2.2.1 u_5.2.2.2.2.2.2.2.2.2.2.1 u_5.2.2.2.2.2.2.2.2.2.2.2.1 u_5.2.2.2.2.2.2.2.2.2.2.2.2.1 u_5.2.2.2.2.2.2.2.2.2.2.2.2.2 a_draft_yesLeads a_draft_noLeads u_5.1 (by (first | omega | (unfold HP at *; omega))) i1 i2 p1009 p1010 p1011 p1012 p1013 (by
            intro i hi
            have f1041 := p1014 i
            have f1042 := congAt u_5.2.2.2.2.2.2.2.2.2.2.2.2.1 i m1032
            (first | omega | (unfold HP at *; omega))) p1015 i10 i11 (by
            intro i hi
            have f1043 := i12 i
            (first | omega | (unfold HP at *; omega))) (by
            intro i hi
            have f1044 := i13 i
            (first | omega | (unfold HP at *; omega))) (by (first | omega | (unfold HP at *; omega))) (by (first | omega | (unfold HP at *; omega)))
    · have v1045 : HQ ((0 : Int32)).toInt 0 := HQ.mk (by decide)
      have f1046 := neq32k rfl v1045.out c1017
      exact sFX3_readUnit_57 n hn v_tape_length a_tape_bytes gN u_5.2.1 u_5.2.2.1 u_5.2.2.2.1 v_draft_units u_5.2.2.2.2.1 u_5.2.2.2.2.2.1 u_5.2.2.2.2.2.2.1 u_5.2.2.2.2.2.2.2.1 u_5.2.2.2.2.2.2.2.2.1 u_5.2.2.2.2.2.2.2.2.2.1 u_5.2.2.2.2.2.2.2.2.2.2.1 u_5.2.2.2.2.2.2.2.2.2.2.2.1 u_5.2.2.2.2.2.2.2.2.2.2.2.2.1 u_5.2.2.2.2.2.2.2.2.2.2.2.2.2 a_draft_yesLeads a_draft_noLeads u_5.1 (by (first | omega | (unfold HP at *; omega))) i1 i2 p1009 p1010 p1011 p1012 p1013 (by
          intro i hi
          have f1047 := p1014 i
          (first | omega | (unfold HP at *; omega))) p1015 i10 i11 (by
          intro i hi
          have f1048 := i12 i
          (first | omega | (unfold HP at *; omega))) (by
          intro i hi
          have f1049 := i13 i
          (first | omega | (unfold HP at *; omega))) p1016 (by (first | omega | (unfold HP at *; omega)))
  · have v1050 : HQ ((5 : Int32)).toInt 5 := HQ.mk (by decide)
    have f1051 := nlt32k rfl v1050.out c1000
    refine OK_bd (sX3_refuseToken n hn v_fault v_faultPlace v_tape_type v_tape_place) (fun u_12 p_u_12 => ?_)
    have p1052 := p_u_12
    clear p_u_12
    exact OK_some (show (gN ≤ (v_nameCount).toInt) ∧ (0 ≤ (v_tape_next).toInt) ∧ ((v_tape_next).toInt ≤ (v_tape_length).toInt) ∧ ((v_tape_type).toInt = 8 → (0 ≤ (v_tape_number).toInt ∧ (v_tape_number).toInt ≤ 99999)) ∧ (0 ≤ (v_nameCount).toInt) ∧ ((v_nameCount).toInt ≤ 96) ∧ (∀ i : Nat, ((i : Int) < (v_nameCount).toInt) → (-1 ≤ (a_nameUnits i).toInt ∧ (a_nameUnits i).toInt < (v_draft_units).toInt)) ∧ (∀ i : Nat, ((i : Int) < (v_nameCount).toInt) → (0 ≤ (a_nameSettings i).toInt ∧ (a_nameSettings i).toInt ≤ 3)) ∧ (0 ≤ (v_draft_units).toInt) ∧ ((v_draft_units).toInt ≤ 5) ∧ (∀ i : Nat, ((i : Int) < (v_draft_units).toInt) → ((10 ≤ (a_draft_yesLeads i).toInt ∧ (a_draft_yesLeads i).toInt ≤ 13) ∨ (a_draft_yesLeads i).toInt = 20 ∨ (100 ≤ (a_draft_yesLeads i).toInt ∧ (a_draft_yesLeads i).toInt < 100 + (v_nameCount).toInt))) ∧ (∀ i : Nat, ((i : Int) < (v_draft_units).toInt) → ((10 ≤ (a_draft_noLeads i).toInt ∧ (a_draft_noLeads i).toInt ≤ 13) ∨ (a_draft_noLeads i).toInt = 20 ∨ (100 ≤ (a_draft_noLeads i).toInt ∧ (a_draft_noLeads i).toInt < 100 + (v_nameCount).toInt))) from ⟨i0, i3, i4, i5, i6, i7, i8, i9, i10, i11, i12, i13⟩)
