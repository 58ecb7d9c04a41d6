set_option maxHeartbeats 2000000 in
theorem sFX4_advance_47 (n : Nat) (hn : n = 2200000000) (v_length : Int32) (a_bytes : Nat → Int32) (k8 : Int32 → Int32 → Int32 → Int32 → Int64 → Int32 → Option (Unit × Int32 × Int32 × Int32 × Int32 × Int64 × Int32)) (mB8 : Nat) (hk8 : ∀ (v_next : Int32) (v_type : Int32) (v_place : Int32) (v_formerPlace : Int32) (v_word : Int64) (v_number : Int32), (0 ≤ (v_length).toInt) → ((v_length).toInt ≤ 1200) → (0 ≤ (v_next).toInt) → ((v_next).toInt ≤ (v_length).toInt) → ((v_length).toInt - (v_next).toInt).toNat < mB8 → OK (k8 v_next v_type v_place v_formerPlace v_word v_number) (fun u => (0 ≤ (u.2.1).toInt) ∧ ((u.2.1).toInt ≤ (v_length).toInt) ∧ ((u.2.2.1).toInt = 8 → (0 ≤ (u.2.2.2.2.2.2).toInt ∧ (u.2.2.2.2.2.2).toInt ≤ 99999)))) (v_next : Int32) (v_type : Int32) (v_place : Int32) (v_formerPlace : Int32) (v_word : Int64) (v_number : Int32) (i0 : 0 ≤ (v_length).toInt) (i1 : (v_length).toInt ≤ 1200) (i2 : 0 ≤ (v_next).toInt) (i3 : (v_next).toInt ≤ (v_length).toInt) (i4 : (v_next).toInt < (v_length).toInt) (i5 : ((v_length).toInt - (v_next).toInt).toNat ≤ mB8) : OK (FX4_advance_47 n v_length a_bytes k8 v_next v_type v_place v_formerPlace v_word v_number) (fun u => (0 ≤ (u.2.1).toInt) ∧ ((u.2.1).toInt ≤ (v_length).toInt) ∧ ((u.2.2.1).toInt = 8 → (0 ≤ (u.2.2.2.2.2.2).toInt ∧ (u.2.2.2.2.2.2).toInt ≤ 99999))) := by
  unfold FX4_advance_47
  have v723 : HQ ((1 : Int32)).toInt 1 := HQ.mk (by decide)
  have v724 : HQ ((v_next + (1 : Int32))).toInt ((v_next).toInt + 1) := HQ.mk (addV rfl v723.out (by omega) (by omega))
  refine OK_lt (fun x_21 e_x_21 => ?_)
  have f725 : (x_21).toInt = ((v_next).toInt + 1) := by rw [e_x_21]; exact v724.out
  exact hk8 x_21 v_type v_place v_formerPlace v_word v_number i0 i1 (by omega) (by omega) (by omega)
set_option maxHeartbeats 2000000 in
theorem sFX4_advance_154 (n : Nat) (hn : n = 2200000000) (v_length : Int32) (a_bytes : Nat → Int32) (v_next : Int32) (v_type : Int32) (v_place : Int32) (v_formerPlace : Int32) (v_word : Int64) (v_number : Int32) (y0 : Int32) (i0 : 0 ≤ (v_length).toInt) (i1 : (v_length).toInt ≤ 1200) (i2 : 0 ≤ (v_next).toInt) (i3 : (v_next).toInt ≤ (v_length).toInt) (i4 : (v_next).toInt < (v_length).toInt) (i5 : (y0).toInt ≠ 8) : OK (FX4_advance_154 n v_length a_bytes v_next v_type v_place v_formerPlace v_word v_number y0) (fun u => (0 ≤ (u.2.1).toInt) ∧ ((u.2.1).toInt ≤ (v_length).toInt) ∧ ((u.2.2.1).toInt = 8 → (0 ≤ (u.2.2.2.2.2.2).toInt ∧ (u.2.2.2.2.2.2).toInt ≤ 99999))) := by
  unfold FX4_advance_154
  have v726 : HQ ((1 : Int32)).toInt 1 := HQ.mk (by decide)
  have v727 : HQ ((v_next + (1 : Int32))).toInt ((v_next).toInt + 1) := HQ.mk (addV rfl v726.out (by omega) (by omega))
  refine OK_lt (fun x_22 e_x_22 => ?_)
  have f728 : (x_22).toInt = ((v_next).toInt + 1) := by rw [e_x_22]; exact v727.out
  exact OK_some (show (0 ≤ (x_22).toInt) ∧ ((x_22).toInt ≤ (v_length).toInt) ∧ ((y0).toInt = 8 → (0 ≤ (v_number).toInt ∧ (v_number).toInt ≤ 99999)) from ⟨(by omega), (by omega), (by omega)⟩)
set_option maxHeartbeats 2000000 in
theorem sFX4_advance_60 (n : Nat) (hn : n = 2200000000) (v_length : Int32) (a_bytes : Nat → Int32) (v_next : Int32) (v_type : Int32) (v_place : Int32) (v_formerPlace : Int32) (v_word : Int64) (v_number : Int32) (i0 : 0 ≤ (v_length).toInt) (i1 : (v_length).toInt ≤ 1200) (i2 : 0 ≤ (v_next).toInt) (i3 : (v_next).toInt ≤ (v_length).toInt) : OK (FX4_advance_60 n v_length a_bytes v_next v_type v_place v_formerPlace v_word v_number) (fun u => (0 ≤ (u.2.1).toInt) ∧ ((u.2.1).toInt ≤ (v_length).toInt) ∧ ((u.2.2.1).toInt = 8 → (0 ≤ (u.2.2.2.2.2.2).toInt ∧ (u.2.2.2.2.2.2).toInt ≤ 99999))) := by
  unfold FX4_advance_60
  refine OK_if (fun c729 => ?_) (fun c729 => ?_)
  · have f730 := lt32k rfl rfl c729
    refine OK_ck (ckV rfl (by omega) (by omega)) ?_
    refine OK_bd (sX4_isLetter n hn (a_bytes ((v_next).toNatClampNeg))) (fun u_9 p_u_9 => ?_)
    refine OK_if (fun c731 => ?_) (fun c731 => ?_)
    · have v732 : HQ ((0 : Int32)).toInt 0 := HQ.mk (by decide)
      have f733 := eq32k rfl v732.out c731
      refine OK_ck (ckV rfl (by omega) (by omega)) ?_
      refine OK_bd (sX4_isDigit n hn (a_bytes ((v_next).toNatClampNeg))) (fun u_13 p_u_13 => ?_)
      have p734 := p_u_13
      clear p_u_13
      obtain ⟨m735, v736, f737⟩ := tnV (e := v_next) rfl (by omega)
      have v738 : HQ ((a_bytes ((v_next).toNatClampNeg))).toInt (a_bytes m735).toInt := HQ.mk (by rw [v736.out])
      try simp only [v738.out] at p734
      refine OK_if (fun c739 => ?_) (fun c739 => ?_)
      · have f740 := eq32k rfl v732.out c739
        refine OK_ck (ckV rfl (by omega) (by omega)) ?_
        refine OK_if (fun c741 => ?_) (fun c741 => ?_)
        · have v742 : HQ ((59 : Int32)).toInt 59 := HQ.mk (by decide)
          have f743 := eq32k v738.out v742.out c741
          have v744 : HQ ((9 : Int32)).toInt 9 := HQ.mk (by decide)
          exact sFX4_advance_154 n hn v_length a_bytes v_next v_type v_next v_formerPlace v_word v_number (9 : Int32) i0 i1 i2 i3 (by omega) (by (rw [v744.out]) <;> omega)
        · have v745 : HQ ((59 : Int32)).toInt 59 := HQ.mk (by decide)
          have f746 := neq32k v738.out v745.out c741
          have v747 : HQ ((11 : Int32)).toInt 11 := HQ.mk (by decide)
          exact sFX4_advance_154 n hn v_length a_bytes v_next v_type v_next v_formerPlace v_word v_number (11 : Int32) i0 i1 i2 i3 (by omega) (by (rw [v747.out]) <;> omega)
      · have f748 := neq32k rfl v732.out c739
        refine OK_bd (sX4_scanNumber n hn v_length v_next v_type v_next v_number a_bytes i0 i1 i2 i3 i2 (by omega) (by omega)) (fun u_18 p_u_18 => ?_)
        obtain ⟨p749, p750, p751⟩ := p_u_18
        exact OK_some (show (0 ≤ (u_18.2.1).toInt) ∧ ((u_18.2.1).toInt ≤ (v_length).toInt) ∧ ((u_18.2.2.1).toInt = 8 → (0 ≤ (u_18.2.2.2).toInt ∧ (u_18.2.2.2).toInt ≤ 99999)) from ⟨p749, p750, p751⟩)
    · have v752 : HQ ((0 : Int32)).toInt 0 := HQ.mk (by decide)
      have f753 := neq32k rfl v752.out c731
      refine OK_bd (sX4_scanWord n hn v_length v_next v_type v_next v_word a_bytes i0 i1 i2 i3) (fun u_20 p_u_20 => ?_)
      obtain ⟨p754, p755, p756⟩ := p_u_20
      exact OK_some (show (0 ≤ (u_20.2.1).toInt) ∧ ((u_20.2.1).toInt ≤ (v_length).toInt) ∧ ((u_20.2.2.1).toInt = 8 → (0 ≤ (v_number).toInt ∧ (v_number).toInt ≤ 99999)) from ⟨p754, p755, (by omega)⟩)
  · have f757 := nlt32k rfl rfl c729
    have v758 : HQ ((10 : Int32)).toInt 10 := HQ.mk (by decide)
    exact OK_some (show (0 ≤ (v_next).toInt) ∧ ((v_next).toInt ≤ (v_length).toInt) ∧ (((10 : Int32)).toInt = 8 → (0 ≤ (v_number).toInt ∧ (v_number).toInt ≤ 99999)) from ⟨i2, i3, (by (rw [v758.out]) <;> omega)⟩)
set_option maxHeartbeats 2000000 in
theorem sFX4_advance_8 (n : Nat) (hn : n = 2200000000) (v_length : Int32) (a_bytes : Nat → Int32) (k8 : Int32 → Int32 → Int32 → Int32 → Int64 → Int32 → Option (Unit × Int32 × Int32 × Int32 × Int32 × Int64 × Int32)) (mB8 : Nat) (hk8 : ∀ (v_next : Int32) (v_type : Int32) (v_place : Int32) (v_formerPlace : Int32) (v_word : Int64) (v_number : Int32), (0 ≤ (v_length).toInt) → ((v_length).toInt ≤ 1200) → (0 ≤ (v_next).toInt) → ((v_next).toInt ≤ (v_length).toInt) → ((v_length).toInt - (v_next).toInt).toNat < mB8 → OK (k8 v_next v_type v_place v_formerPlace v_word v_number) (fun u => (0 ≤ (u.2.1).toInt) ∧ ((u.2.1).toInt ≤ (v_length).toInt) ∧ ((u.2.2.1).toInt = 8 → (0 ≤ (u.2.2.2.2.2.2).toInt ∧ (u.2.2.2.2.2.2).toInt ≤ 99999)))) (v_next : Int32) (v_type : Int32) (v_place : Int32) (v_formerPlace : Int32) (v_word : Int64) (v_number : Int32) (i0 : 0 ≤ (v_length).toInt) (i1 : (v_length).toInt ≤ 1200) (i2 : 0 ≤ (v_next).toInt) (i3 : (v_next).toInt ≤ (v_length).toInt) (hmu : ((v_length).toInt - (v_next).toInt).toNat ≤ mB8) : OK (FX4_advance_8 n v_length a_bytes k8 v_next v_type v_place v_formerPlace v_word v_number) (fun u => (0 ≤ (u.2.1).toInt) ∧ ((u.2.1).toInt ≤ (v_length).toInt) ∧ ((u.2.2.1).toInt = 8 → (0 ≤ (u.2.2.2.2.2.2).toInt ∧ (u.2.2.2.2.2.2).toInt ≤ 99999))) := by
  unfold FX4_advance_8
  refine OK_if (fun c759 => ?_) (fun c759 => ?_)
  · have f760 := le32k rfl rfl c759
    exact sFX4_advance_60 n hn v_length a_bytes v_next v_type v_place v_formerPlace v_word v_number i0 i1 i2 i3
  · have f761 := nle32k rfl rfl c759
    refine OK_ck (ckV rfl (by omega) (by omega)) ?_
    refine OK_if (fun c762 => ?_) (fun c762 => ?_)
    · obtain ⟨m763, v764, f765⟩ := tnV (e := v_next) rfl (by omega)
      have v766 : HQ ((a_bytes ((v_next).toNatClampNeg))).toInt (a_bytes m763).toInt := HQ.mk (by rw [v764.out])
      have v767 : HQ ((32 : Int32)).toInt 32 := HQ.mk (by decide)
      have f768 := eq32k v766.out v767.out c762
      exact sFX4_advance_47 n hn v_length a_bytes k8 mB8 hk8 v_next v_type v_place v_formerPlace v_word v_number i0 i1 i2 i3 (by omega) (by omega)
    · obtain ⟨m769, v770, f771⟩ := tnV (e := v_next) rfl (by omega)
      have v772 : HQ ((a_bytes ((v_next).toNatClampNeg))).toInt (a_bytes m769).toInt := HQ.mk (by rw [v770.out])
      have v773 : HQ ((32 : Int32)).toInt 32 := HQ.mk (by decide)
      have f774 := neq32k v772.out v773.out c762
      refine OK_ck (ckV rfl (by omega) (by omega)) ?_
      refine OK_if (fun c775 => ?_) (fun c775 => ?_)
      · have v776 : HQ ((10 : Int32)).toInt 10 := HQ.mk (by decide)
        have f777 := eq32k v772.out v776.out c775
        exact sFX4_advance_47 n hn v_length a_bytes k8 mB8 hk8 v_next v_type v_place v_formerPlace v_word v_number i0 i1 i2 i3 (by omega) (by omega)
      · have v778 : HQ ((10 : Int32)).toInt 10 := HQ.mk (by decide)
        have f779 := neq32k v772.out v778.out c775
        exact sFX4_advance_60 n hn v_length a_bytes v_next v_type v_place v_formerPlace v_word v_number i0 i1 i2 i3
theorem sFX4_advance_8L (n : Nat) (hn : n = 2200000000) (v_length : Int32) (a_bytes : Nat → Int32) : ∀ (j : Nat) (v_next : Int32) (v_type : Int32) (v_place : Int32) (v_formerPlace : Int32) (v_word : Int64) (v_number : Int32), (0 ≤ (v_length).toInt) → ((v_length).toInt ≤ 1200) → (0 ≤ (v_next).toInt) → ((v_next).toInt ≤ (v_length).toInt) → ((v_length).toInt - (v_next).toInt).toNat < j → OK (FX4_advance_8L n v_length a_bytes j v_next v_type v_place v_formerPlace v_word v_number) (fun u => (0 ≤ (u.2.1).toInt) ∧ ((u.2.1).toInt ≤ (v_length).toInt) ∧ ((u.2.2.1).toInt = 8 → (0 ≤ (u.2.2.2.2.2.2).toInt ∧ (u.2.2.2.2.2.2).toInt ≤ 99999))) := by
  intro j
  induction j with
  | zero => intro _ _ _ _ _ _ _ _ _ _ hj; exact absurd hj (Nat.not_lt_zero _)
  | succ j ih =>
    intro v_next v_type v_place v_formerPlace v_word v_number i0 i1 i2 i3 hj
    exact sFX4_advance_8 n hn v_length a_bytes (FX4_advance_8L n v_length a_bytes j) (((v_length).toInt - (v_next).toInt).toNat) (fun y0 y1 y2 y3 y4 y5 w0 w1 w2 w3 hlt => ih y0 y1 y2 y3 y4 y5 w0 w1 w2 w3 (by omega)) v_next v_type v_place v_formerPlace v_word v_number i0 i1 i2 i3 (Nat.le_refl _)
set_option maxHeartbeats 2000000 in
theorem sX4_advance (n : Nat) (hn : n = 2200000000) (v_length : Int32) (v_next : Int32) (v_type : Int32) (v_place : Int32) (v_formerPlace : Int32) (v_word : Int64) (v_number : Int32) (a_bytes : Nat → Int32) (i0 : 0 ≤ (v_length).toInt) (i1 : (v_length).toInt ≤ 1200) (i2 : 0 ≤ (v_next).toInt) (i3 : (v_next).toInt ≤ (v_length).toInt) : OK (FX4_advance n v_length v_next v_type v_place v_formerPlace v_word v_number a_bytes) (fun u => (0 ≤ (u.2.1).toInt) ∧ ((u.2.1).toInt ≤ (v_length).toInt) ∧ ((u.2.2.1).toInt = 8 → (0 ≤ (u.2.2.2.2.2.2).toInt ∧ (u.2.2.2.2.2.2).toInt ≤ 99999))) := by
  unfold FX4_advance
  exact sFX4_advance_8L n hn v_length a_bytes n v_next v_type v_place v_place v_word v_number i0 i1 i2 i3 (by omega)
set_option maxHeartbeats 2000000 in
theorem sX4_start (n : Nat) (hn : n = 2200000000) (v_length : Int32) (v_next : Int32) (v_type : Int32) (v_place : Int32) (v_formerPlace : Int32) (v_word : Int64) (v_number : Int32) (a_bytes : Nat → Int32) (i0 : 0 ≤ (v_length).toInt) (i1 : (v_length).toInt ≤ 1200) : OK (FX4_start n v_length v_next v_type v_place v_formerPlace v_word v_number a_bytes) (fun u => (0 ≤ (u.2.1).toInt) ∧ ((u.2.1).toInt ≤ (v_length).toInt) ∧ ((u.2.2.1).toInt = 8 → (0 ≤ (u.2.2.2.2.2.2).toInt ∧ (u.2.2.2.2.2.2).toInt ≤ 99999))) := by
  unfold FX4_start
  have v780 : HQ ((0 : Int32)).toInt 0 := HQ.mk (by decide)
  refine OK_bd (sX4_advance n hn v_length (0 : Int32) v_type (0 : Int32) v_formerPlace v_word v_number a_bytes i0 i1 (by (rw [v780.out]) <;> omega) (by (rw [v780.out]) <;> omega)) (fun u_2 p_u_2 => ?_)
  obtain ⟨p781, p782, p783⟩ := p_u_2
  exact OK_some (show (0 ≤ (u_2.2.1).toInt) ∧ ((u_2.2.1).toInt ≤ (v_length).toInt) ∧ ((u_2.2.2.1).toInt = 8 → (0 ≤ (u_2.2.2.2.2.2.2).toInt ∧ (u_2.2.2.2.2.2.2).toInt ≤ 99999)) from ⟨p781, p782, p783⟩)
set_option maxHeartbeats 2000000 in
theorem sX3_fail (n : Nat) (hn : n = 2200000000) (v_fault : Int32) (v_faultPlace : Int32) (z1 : Int32) (z2 : Int32) (i0 : (z1).toInt ≠ 0) : OK (FX3_fail n v_fault v_faultPlace z1 z2) (fun u => ((u.2.1).toInt ≠ 0)) := by
  unfold FX3_fail
  refine OK_if (fun c784 => ?_) (fun c784 => ?_)
  · have v785 : HQ ((0 : Int32)).toInt 0 := HQ.mk (by decide)
    have f786 := eq32k rfl v785.out c784
    exact OK_some (show ((z1).toInt ≠ 0) from i0)
  · have v787 : HQ ((0 : Int32)).toInt 0 := HQ.mk (by decide)
    have f788 := neq32k rfl v787.out c784
    exact OK_some (show ((v_fault).toInt ≠ 0) from (by omega))
set_option maxHeartbeats 2000000 in
theorem sFX3_refuseToken_18 (n : Nat) (hn : n = 2200000000) (v_tape_type : Int32) (v_tape_place : Int32) (v_fault : Int32) (v_faultPlace : Int32) (y0 : Int32) (i0 : (y0).toInt ≠ 0) : OK (FX3_refuseToken_18 n v_tape_type v_tape_place v_fault v_faultPlace y0) (fun u => ((u.2.1).toInt ≠ 0)) := by
  unfold FX3_refuseToken_18
  refine OK_bd (sX3_fail n hn v_fault v_faultPlace y0 v_tape_place i0) (fun u_3 p_u_3 => ?_)
  have p789 := p_u_3
  clear p_u_3
  exact OK_some (show ((u_3.2.1).toInt ≠ 0) from p789)
set_option maxHeartbeats 2000000 in
theorem sX3_refuseToken (n : Nat) (hn : n = 2200000000) (v_fault : Int32) (v_faultPlace : Int32) (v_tape_type : Int32) (v_tape_place : Int32) : OK (FX3_refuseToken n v_fault v_faultPlace v_tape_type v_tape_place) (fun u => ((u.2.1).toInt ≠ 0)) := by
  unfold FX3_refuseToken
  refine OK_if (fun c790 => ?_) (fun c790 => ?_)
  · have v791 : HQ ((11 : Int32)).toInt 11 := HQ.mk (by decide)
    have f792 := eq32k rfl v791.out c790
    have v793 : HQ ((1 : Int32)).toInt 1 := HQ.mk (by decide)
    exact sFX3_refuseToken_18 n hn v_tape_type v_tape_place v_fault v_faultPlace (1 : Int32) (by (rw [v793.out]) <;> omega)
  · have v794 : HQ ((11 : Int32)).toInt 11 := HQ.mk (by decide)
    have f795 := neq32k rfl v794.out c790
    have v796 : HQ ((2 : Int32)).toInt 2 := HQ.mk (by decide)
    exact sFX3_refuseToken_18 n hn v_tape_type v_tape_place v_fault v_faultPlace (2 : Int32) (by (rw [v796.out]) <;> omega)
