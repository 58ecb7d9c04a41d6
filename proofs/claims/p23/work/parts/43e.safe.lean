set_option maxHeartbeats 2000000 in
theorem sFX3_accepts_22 (n : Nat) (hn : n = 2200000000) (v_tape_type : Int32) (v_tape_place : Int32) (z1 : Int32) (gF : Int) (v_fault : Int32) (v_faultPlace : Int32) (i0 : gF ≠ 0 → (v_fault).toInt ≠ 0) (i1 : (v_fault).toInt = 0 → (v_tape_type).toInt = (z1).toInt) : OK (FX3_accepts_22 n v_tape_type v_tape_place z1 v_fault v_faultPlace) (fun u => (gF ≠ 0 → (u.2.1).toInt ≠ 0) ∧ ((u.1).toInt = 0 → (u.2.1).toInt ≠ 0) ∧ ((u.1).toInt ≠ 0 → ((u.2.1).toInt = 0 ∧ (v_tape_type).toInt = (z1).toInt))) := by
  unfold FX3_accepts_22
  refine OK_if (fun c797 => ?_) (fun c797 => ?_)
  · have v798 : HQ ((0 : Int32)).toInt 0 := HQ.mk (by decide)
    have f799 := eq32k rfl v798.out c797
    have v800 : HQ ((1 : Int32)).toInt 1 := HQ.mk (by decide)
    exact OK_some (show (gF ≠ 0 → (v_fault).toInt ≠ 0) ∧ (((1 : Int32)).toInt = 0 → (v_fault).toInt ≠ 0) ∧ (((1 : Int32)).toInt ≠ 0 → ((v_fault).toInt = 0 ∧ (v_tape_type).toInt = (z1).toInt)) from ⟨i0, (by (rw [v800.out]) <;> omega), (by (rw [v800.out]) <;> omega)⟩)
  · have v801 : HQ ((0 : Int32)).toInt 0 := HQ.mk (by decide)
    have f802 := neq32k rfl v801.out c797
    exact OK_some (show (gF ≠ 0 → (v_fault).toInt ≠ 0) ∧ (((0 : Int32)).toInt = 0 → (v_fault).toInt ≠ 0) ∧ (((0 : Int32)).toInt ≠ 0 → ((v_fault).toInt = 0 ∧ (v_tape_type).toInt = (z1).toInt)) from ⟨i0, (by (rw [v801.out]) <;> omega), (by (rw [v801.out]) <;> omega)⟩)
set_option maxHeartbeats 2000000 in
theorem sX3_accepts (n : Nat) (hn : n = 2200000000) (v_fault : Int32) (v_faultPlace : Int32) (v_tape_type : Int32) (v_tape_place : Int32) (z1 : Int32) (gF : Int) (i0 : gF ≠ 0 → (v_fault).toInt ≠ 0) : OK (FX3_accepts n v_fault v_faultPlace v_tape_type v_tape_place z1) (fun u => (gF ≠ 0 → (u.2.1).toInt ≠ 0) ∧ ((u.1).toInt = 0 → (u.2.1).toInt ≠ 0) ∧ ((u.1).toInt ≠ 0 → ((u.2.1).toInt = 0 ∧ (v_tape_type).toInt = (z1).toInt))) := by
  unfold FX3_accepts
  refine OK_if (fun c803 => ?_) (fun c803 => ?_)
  · have v804 : HQ ((0 : Int32)).toInt 0 := HQ.mk (by decide)
    have f805 := eq32k rfl v804.out c803
    refine OK_if (fun c806 => ?_) (fun c806 => ?_)
    · have f807 := eq32k rfl rfl c806
      exact sFX3_accepts_22 n hn v_tape_type v_tape_place z1 gF v_fault v_faultPlace i0 (by omega)
    · have f808 := neq32k rfl rfl c806
      refine OK_bd (sX3_refuseToken n hn v_fault v_faultPlace v_tape_type v_tape_place) (fun u_4 p_u_4 => ?_)
      have p809 := p_u_4
      clear p_u_4
      exact sFX3_accepts_22 n hn v_tape_type v_tape_place z1 gF u_4.2.1 u_4.2.2 (by omega) (by omega)
  · have v810 : HQ ((0 : Int32)).toInt 0 := HQ.mk (by decide)
    have f811 := neq32k rfl v810.out c803
    exact sFX3_accepts_22 n hn v_tape_type v_tape_place z1 gF v_fault v_faultPlace i0 (by omega)
set_option maxHeartbeats 2000000 in
theorem sX3_take (n : Nat) (hn : n = 2200000000) (v_fault : Int32) (v_faultPlace : Int32) (v_tape_length : Int32) (v_tape_next : Int32) (v_tape_type : Int32) (v_tape_place : Int32) (v_tape_formerPlace : Int32) (v_tape_word : Int64) (v_tape_number : Int32) (a_tape_bytes : Nat → Int32) (z1 : Int32) (gF : Int) (i0 : gF ≠ 0 → (v_fault).toInt ≠ 0) (i1 : 0 ≤ (v_tape_length).toInt) (i2 : (v_tape_length).toInt ≤ 1200) (i3 : 0 ≤ (v_tape_next).toInt) (i4 : (v_tape_next).toInt ≤ (v_tape_length).toInt) (i5 : (v_tape_type).toInt = 8 → (0 ≤ (v_tape_number).toInt ∧ (v_tape_number).toInt ≤ 99999)) : OK (FX3_take n v_fault v_faultPlace v_tape_length v_tape_next v_tape_type v_tape_place v_tape_formerPlace v_tape_word v_tape_number a_tape_bytes z1) (fun u => (gF ≠ 0 → (u.2.1).toInt ≠ 0) ∧ (0 ≤ (u.2.2.2.1).toInt) ∧ ((u.2.2.2.1).toInt ≤ (v_tape_length).toInt) ∧ ((u.2.2.2.2.1).toInt = 8 → (0 ≤ (u.2.2.2.2.2.2.2.2).toInt ∧ (u.2.2.2.2.2.2.2.2).toInt ≤ 99999))) := by
  unfold FX3_take
  refine OK_bd (sX3_accepts n hn v_fault v_faultPlace v_tape_type v_tape_place z1 ((v_fault).toInt) (by omega)) (fun u_2 p_u_2 => ?_)
  obtain ⟨p812, p813, p814⟩ := p_u_2
  refine OK_if (fun c815 => ?_) (fun c815 => ?_)
  · have v816 : HQ ((0 : Int32)).toInt 0 := HQ.mk (by decide)
    have f817 := eq32k rfl v816.out c815
    exact OK_some (show (gF ≠ 0 → (u_2.2.1).toInt ≠ 0) ∧ (0 ≤ (v_tape_next).toInt) ∧ ((v_tape_next).toInt ≤ (v_tape_length).toInt) ∧ ((v_tape_type).toInt = 8 → (0 ≤ (v_tape_number).toInt ∧ (v_tape_number).toInt ≤ 99999)) from ⟨(by omega), i3, i4, i5⟩)
  · have v818 : HQ ((0 : Int32)).toInt 0 := HQ.mk (by decide)
    have f819 := neq32k rfl v818.out c815
    refine OK_bd (sX4_advance n hn v_tape_length v_tape_next v_tape_type v_tape_place v_tape_formerPlace v_tape_word v_tape_number a_tape_bytes i1 i2 i3 i4) (fun u_5 p_u_5 => ?_)
    obtain ⟨p820, p821, p822⟩ := p_u_5
    exact OK_some (show (gF ≠ 0 → (u_2.2.1).toInt ≠ 0) ∧ (0 ≤ (u_5.2.1).toInt) ∧ ((u_5.2.1).toInt ≤ (v_tape_length).toInt) ∧ ((u_5.2.2.1).toInt = 8 → (0 ≤ (u_5.2.2.2.2.2.2).toInt ∧ (u_5.2.2.2.2.2.2).toInt ≤ 99999)) from ⟨(by omega), p820, p821, p822⟩)
set_option maxHeartbeats 2000000 in
theorem sX3_takeNumber (n : Nat) (hn : n = 2200000000) (v_fault : Int32) (v_faultPlace : Int32) (v_tape_length : Int32) (v_tape_next : Int32) (v_tape_type : Int32) (v_tape_place : Int32) (v_tape_formerPlace : Int32) (v_tape_word : Int64) (v_tape_number : Int32) (a_tape_bytes : Nat → Int32) (z1 : Int32) (gF : Int) (i0 : gF ≠ 0 → (v_fault).toInt ≠ 0) (i1 : 0 ≤ (z1).toInt) (i2 : 0 ≤ (v_tape_length).toInt) (i3 : (v_tape_length).toInt ≤ 1200) (i4 : 0 ≤ (v_tape_next).toInt) (i5 : (v_tape_next).toInt ≤ (v_tape_length).toInt) (i6 : (v_tape_type).toInt = 8 → (0 ≤ (v_tape_number).toInt ∧ (v_tape_number).toInt ≤ 99999)) : OK (FX3_takeNumber n v_fault v_faultPlace v_tape_length v_tape_next v_tape_type v_tape_place v_tape_formerPlace v_tape_word v_tape_number a_tape_bytes z1) (fun u => (gF ≠ 0 → (u.2.1).toInt ≠ 0) ∧ (0 ≤ (u.2.2.2.1).toInt) ∧ ((u.2.2.2.1).toInt ≤ (v_tape_length).toInt) ∧ ((u.2.2.2.2.1).toInt = 8 → (0 ≤ (u.2.2.2.2.2.2.2.2).toInt ∧ (u.2.2.2.2.2.2.2.2).toInt ≤ 99999)) ∧ (0 ≤ (u.1).toInt) ∧ ((u.1).toInt ≤ (z1).toInt)) := by
  unfold FX3_takeNumber
  refine OK_bd (sX3_accepts n hn v_fault v_faultPlace v_tape_type v_tape_place (8 : Int32) ((v_fault).toInt) (by omega)) (fun u_2 p_u_2 => ?_)
  obtain ⟨p823, p824, p825⟩ := p_u_2
  have v826 : HQ ((8 : Int32)).toInt 8 := HQ.mk (by decide)
  try simp only [v826.out] at p825
  refine OK_if (fun c827 => ?_) (fun c827 => ?_)
  · have v828 : HQ ((0 : Int32)).toInt 0 := HQ.mk (by decide)
    have f829 := eq32k rfl v828.out c827
    exact OK_some (show (gF ≠ 0 → (u_2.2.1).toInt ≠ 0) ∧ (0 ≤ (v_tape_next).toInt) ∧ ((v_tape_next).toInt ≤ (v_tape_length).toInt) ∧ ((v_tape_type).toInt = 8 → (0 ≤ (v_tape_number).toInt ∧ (v_tape_number).toInt ≤ 99999)) ∧ (0 ≤ ((0 : Int32)).toInt) ∧ (((0 : Int32)).toInt ≤ (z1).toInt) from ⟨(by omega), i4, i5, i6, (by (rw [v828.out]) <;> omega), (by (rw [v828.out]) <;> omega)⟩)
  · have v830 : HQ ((0 : Int32)).toInt 0 := HQ.mk (by decide)
    have f831 := neq32k rfl v830.out c827
    refine OK_if (fun c832 => ?_) (fun c832 => ?_)
    · have f833 := le32k rfl rfl c832
      refine OK_bd (sX4_advance n hn v_tape_length v_tape_next v_tape_type v_tape_place v_tape_formerPlace v_tape_word v_tape_number a_tape_bytes i2 i3 i4 i5) (fun u_6 p_u_6 => ?_)
      obtain ⟨p834, p835, p836⟩ := p_u_6
      exact OK_some (show (gF ≠ 0 → (u_2.2.1).toInt ≠ 0) ∧ (0 ≤ (u_6.2.1).toInt) ∧ ((u_6.2.1).toInt ≤ (v_tape_length).toInt) ∧ ((u_6.2.2.1).toInt = 8 → (0 ≤ (u_6.2.2.2.2.2.2).toInt ∧ (u_6.2.2.2.2.2.2).toInt ≤ 99999)) ∧ (0 ≤ (v_tape_number).toInt) ∧ ((v_tape_number).toInt ≤ (z1).toInt) from ⟨(by omega), p834, p835, p836, (by omega), (by omega)⟩)
    · have f837 := nle32k rfl rfl c832
      have v838 : HQ ((4 : Int32)).toInt 4 := HQ.mk (by decide)
      refine OK_bd (sX3_fail n hn u_2.2.1 u_2.2.2 (4 : Int32) v_tape_place (by (rw [v838.out]) <;> omega)) (fun u_8 p_u_8 => ?_)
      have p839 := p_u_8
      clear p_u_8
      exact OK_some (show (gF ≠ 0 → (u_8.2.1).toInt ≠ 0) ∧ (0 ≤ (v_tape_next).toInt) ∧ ((v_tape_next).toInt ≤ (v_tape_length).toInt) ∧ ((v_tape_type).toInt = 8 → (0 ≤ (v_tape_number).toInt ∧ (v_tape_number).toInt ≤ 99999)) ∧ (0 ≤ ((0 : Int32)).toInt) ∧ (((0 : Int32)).toInt ≤ (z1).toInt) from ⟨(by omega), i4, i5, i6, (by (rw [v830.out]) <;> omega), (by (rw [v830.out]) <;> omega)⟩)
