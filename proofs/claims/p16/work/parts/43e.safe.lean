set_option maxHeartbeats 2000000 in
theorem sFX3_accepts_22 (n : Nat) (hn : n = 3000) (v_tape_type : Int32) (v_tape_place : Int32) (z1 : Int32) (gF : Int) (v_fault : Int32) (v_faultPlace : Int32) (i0 : gF ≠ 0 → (v_fault).toInt ≠ 0) (i1 : (v_fault).toInt = 0 → (v_tape_type).toInt = (z1).toInt) : OK (FX3_accepts_22 n v_tape_type v_tape_place z1 v_fault v_faultPlace) (fun u => (gF ≠ 0 → (u.2.1).toInt ≠ 0) ∧ ((u.1).toInt = 0 → (u.2.1).toInt ≠ 0) ∧ ((u.1).toInt ≠ 0 → ((u.2.1).toInt = 0 ∧ (v_tape_type).toInt = (z1).toInt))) := by
  unfold FX3_accepts_22
  refine OK_if (fun c748 => ?_) (fun c748 => ?_)
  · have v749 : HQ ((0 : Int32)).toInt 0 := HQ.mk (by decide)
    have f750 := eq32k rfl v749.out c748
    have v751 : HQ ((1 : Int32)).toInt 1 := HQ.mk (by decide)
    exact OK_some (show (gF ≠ 0 → (v_fault).toInt ≠ 0) ∧ (((1 : Int32)).toInt = 0 → (v_fault).toInt ≠ 0) ∧ (((1 : Int32)).toInt ≠ 0 → ((v_fault).toInt = 0 ∧ (v_tape_type).toInt = (z1).toInt)) from ⟨i0, (by rw [v751.out]; omega), (by rw [v751.out]; omega)⟩)
  · have v752 : HQ ((0 : Int32)).toInt 0 := HQ.mk (by decide)
    have f753 := neq32k rfl v752.out c748
    exact OK_some (show (gF ≠ 0 → (v_fault).toInt ≠ 0) ∧ (((0 : Int32)).toInt = 0 → (v_fault).toInt ≠ 0) ∧ (((0 : Int32)).toInt ≠ 0 → ((v_fault).toInt = 0 ∧ (v_tape_type).toInt = (z1).toInt)) from ⟨i0, (by rw [v752.out]; omega), (by rw [v752.out]; omega)⟩)
set_option maxHeartbeats 2000000 in
theorem sX3_accepts (n : Nat) (hn : n = 3000) (v_fault : Int32) (v_faultPlace : Int32) (v_tape_type : Int32) (v_tape_place : Int32) (z1 : Int32) (gF : Int) (i0 : gF ≠ 0 → (v_fault).toInt ≠ 0) : OK (FX3_accepts n v_fault v_faultPlace v_tape_type v_tape_place z1) (fun u => (gF ≠ 0 → (u.2.1).toInt ≠ 0) ∧ ((u.1).toInt = 0 → (u.2.1).toInt ≠ 0) ∧ ((u.1).toInt ≠ 0 → ((u.2.1).toInt = 0 ∧ (v_tape_type).toInt = (z1).toInt))) := by
  unfold FX3_accepts
  refine OK_if (fun c754 => ?_) (fun c754 => ?_)
  · have v755 : HQ ((0 : Int32)).toInt 0 := HQ.mk (by decide)
    have f756 := eq32k rfl v755.out c754
    refine OK_if (fun c757 => ?_) (fun c757 => ?_)
    · have f758 := eq32k rfl rfl c757
      exact sFX3_accepts_22 n hn v_tape_type v_tape_place z1 gF v_fault v_faultPlace i0 (by omega)
    · have f759 := neq32k rfl rfl c757
      refine OK_bd (sX3_refuseToken n hn v_fault v_faultPlace v_tape_type v_tape_place) (fun u_4 p_u_4 => ?_)
      have p760 := p_u_4
      exact sFX3_accepts_22 n hn v_tape_type v_tape_place z1 gF u_4.2.1 u_4.2.2 (by omega) (by omega)
  · have v761 : HQ ((0 : Int32)).toInt 0 := HQ.mk (by decide)
    have f762 := neq32k rfl v761.out c754
    exact sFX3_accepts_22 n hn v_tape_type v_tape_place z1 gF v_fault v_faultPlace i0 (by omega)
set_option maxHeartbeats 2000000 in
theorem sX3_take (n : Nat) (hn : n = 3000) (v_fault : Int32) (v_faultPlace : Int32) (v_tape_length : Int32) (v_tape_next : Int32) (v_tape_type : Int32) (v_tape_place : Int32) (v_tape_formerPlace : Int32) (v_tape_word : Int64) (v_tape_number : Int32) (a_tape_bytes : Nat → Int32) (z1 : Int32) (gF : Int) (i0 : gF ≠ 0 → (v_fault).toInt ≠ 0) (i1 : 0 ≤ (v_tape_length).toInt) (i2 : (v_tape_length).toInt ≤ 1200) (i3 : 0 ≤ (v_tape_next).toInt) (i4 : (v_tape_next).toInt ≤ (v_tape_length).toInt) (i5 : (v_tape_type).toInt = 8 → (0 ≤ (v_tape_number).toInt ∧ (v_tape_number).toInt ≤ 99999)) : OK (FX3_take n v_fault v_faultPlace v_tape_length v_tape_next v_tape_type v_tape_place v_tape_formerPlace v_tape_word v_tape_number a_tape_bytes z1) (fun u => (gF ≠ 0 → (u.2.1).toInt ≠ 0) ∧ (0 ≤ (u.2.2.2.1).toInt) ∧ ((u.2.2.2.1).toInt ≤ (v_tape_length).toInt) ∧ ((u.2.2.2.2.1).toInt = 8 → (0 ≤ (u.2.2.2.2.2.2.2.2).toInt ∧ (u.2.2.2.2.2.2.2.2).toInt ≤ 99999))) := by
  unfold FX3_take
  refine OK_bd (sX3_accepts n hn v_fault v_faultPlace v_tape_type v_tape_place z1 ((v_fault).toInt) (by omega)) (fun u_2 p_u_2 => ?_)
  obtain ⟨p763, p764, p765⟩ := p_u_2
  refine OK_if (fun c766 => ?_) (fun c766 => ?_)
  · have v767 : HQ ((0 : Int32)).toInt 0 := HQ.mk (by decide)
    have f768 := eq32k rfl v767.out c766
    exact OK_some (show (gF ≠ 0 → (u_2.2.1).toInt ≠ 0) ∧ (0 ≤ (v_tape_next).toInt) ∧ ((v_tape_next).toInt ≤ (v_tape_length).toInt) ∧ ((v_tape_type).toInt = 8 → (0 ≤ (v_tape_number).toInt ∧ (v_tape_number).toInt ≤ 99999)) from ⟨(by omega), i3, i4, i5⟩)
  · have v769 : HQ ((0 : Int32)).toInt 0 := HQ.mk (by decide)
    have f770 := neq32k rfl v769.out c766
    refine OK_bd (sX4_advance n hn v_tape_length v_tape_next v_tape_type v_tape_place v_tape_formerPlace v_tape_word v_tape_number a_tape_bytes i1 i2 i3 i4) (fun u_5 p_u_5 => ?_)
    obtain ⟨p771, p772, p773⟩ := p_u_5
    exact OK_some (show (gF ≠ 0 → (u_2.2.1).toInt ≠ 0) ∧ (0 ≤ (u_5.2.1).toInt) ∧ ((u_5.2.1).toInt ≤ (v_tape_length).toInt) ∧ ((u_5.2.2.1).toInt = 8 → (0 ≤ (u_5.2.2.2.2.2.2).toInt ∧ (u_5.2.2.2.2.2.2).toInt ≤ 99999)) from ⟨(by omega), p771, p772, p773⟩)
set_option maxHeartbeats 2000000 in
theorem sX3_takeNumber (n : Nat) (hn : n = 3000) (v_fault : Int32) (v_faultPlace : Int32) (v_tape_length : Int32) (v_tape_next : Int32) (v_tape_type : Int32) (v_tape_place : Int32) (v_tape_formerPlace : Int32) (v_tape_word : Int64) (v_tape_number : Int32) (a_tape_bytes : Nat → Int32) (z1 : Int32) (gF : Int) (i0 : gF ≠ 0 → (v_fault).toInt ≠ 0) (i1 : 0 ≤ (z1).toInt) (i2 : 0 ≤ (v_tape_length).toInt) (i3 : (v_tape_length).toInt ≤ 1200) (i4 : 0 ≤ (v_tape_next).toInt) (i5 : (v_tape_next).toInt ≤ (v_tape_length).toInt) (i6 : (v_tape_type).toInt = 8 → (0 ≤ (v_tape_number).toInt ∧ (v_tape_number).toInt ≤ 99999)) : OK (FX3_takeNumber n v_fault v_faultPlace v_tape_length v_tape_next v_tape_type v_tape_place v_tape_formerPlace v_tape_word v_tape_number a_tape_bytes z1) (fun u => (gF ≠ 0 → (u.2.1).toInt ≠ 0) ∧ (0 ≤ (u.2.2.2.1).toInt) ∧ ((u.2.2.2.1).toInt ≤ (v_tape_length).toInt) ∧ ((u.2.2.2.2.1).toInt = 8 → (0 ≤ (u.2.2.2.2.2.2.2.2).toInt ∧ (u.2.2.2.2.2.2.2.2).toInt ≤ 99999)) ∧ (0 ≤ (u.1).toInt) ∧ ((u.1).toInt ≤ (z1).toInt)) := by
  unfold FX3_takeNumber
  refine OK_bd (sX3_accepts n hn v_fault v_faultPlace v_tape_type v_tape_place (8 : Int32) ((v_fault).toInt) (by omega)) (fun u_2 p_u_2 => ?_)
  obtain ⟨p774, p775, p776⟩ := p_u_2
  refine OK_if (fun c777 => ?_) (fun c777 => ?_)
  · have v778 : HQ ((0 : Int32)).toInt 0 := HQ.mk (by decide)
    have f779 := eq32k rfl v778.out c777
    exact OK_some (show (gF ≠ 0 → (u_2.2.1).toInt ≠ 0) ∧ (0 ≤ (v_tape_next).toInt) ∧ ((v_tape_next).toInt ≤ (v_tape_length).toInt) ∧ ((v_tape_type).toInt = 8 → (0 ≤ (v_tape_number).toInt ∧ (v_tape_number).toInt ≤ 99999)) ∧ (0 ≤ ((0 : Int32)).toInt) ∧ (((0 : Int32)).toInt ≤ (z1).toInt) from ⟨(by omega), i4, i5, i6, (by rw [v778.out]; omega), (by rw [v778.out]; omega)⟩)
  · have v780 : HQ ((0 : Int32)).toInt 0 := HQ.mk (by decide)
    have f781 := neq32k rfl v780.out c777
    refine OK_if (fun c782 => ?_) (fun c782 => ?_)
    · have f783 := le32k rfl rfl c782
      refine OK_bd (sX4_advance n hn v_tape_length v_tape_next v_tape_type v_tape_place v_tape_formerPlace v_tape_word v_tape_number a_tape_bytes i2 i3 i4 i5) (fun u_6 p_u_6 => ?_)
      obtain ⟨p784, p785, p786⟩ := p_u_6
      exact OK_some (show (gF ≠ 0 → (u_2.2.1).toInt ≠ 0) ∧ (0 ≤ (u_6.2.1).toInt) ∧ ((u_6.2.1).toInt ≤ (v_tape_length).toInt) ∧ ((u_6.2.2.1).toInt = 8 → (0 ≤ (u_6.2.2.2.2.2.2).toInt ∧ (u_6.2.2.2.2.2.2).toInt ≤ 99999)) ∧ (0 ≤ (v_tape_number).toInt) ∧ ((v_tape_number).toInt ≤ (z1).toInt) from ⟨(by omega), p784, p785, p786, (by omega), (by omega)⟩)
    · have f787 := nle32k rfl rfl c782
      have v788 : HQ ((4 : Int32)).toInt 4 := HQ.mk (by decide)
      refine OK_bd (sX3_fail n hn u_2.2.1 u_2.2.2 (4 : Int32) v_tape_place (by rw [v788.out]; omega)) (fun u_8 p_u_8 => ?_)
      have p789 := p_u_8
      exact OK_some (show (gF ≠ 0 → (u_8.2.1).toInt ≠ 0) ∧ (0 ≤ (v_tape_next).toInt) ∧ ((v_tape_next).toInt ≤ (v_tape_length).toInt) ∧ ((v_tape_type).toInt = 8 → (0 ≤ (v_tape_number).toInt ∧ (v_tape_number).toInt ≤ 99999)) ∧ (0 ≤ ((0 : Int32)).toInt) ∧ (((0 : Int32)).toInt ≤ (z1).toInt) from ⟨(by omega), i4, i5, i6, (by rw [v780.out]; omega), (by rw [v780.out]; omega)⟩)
