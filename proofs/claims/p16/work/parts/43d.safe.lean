set_option maxHeartbeats 2000000 in
theorem sFX4_advance_47 (n : Nat) (hn : n = 3000) (v_length : Int32) (a_bytes : Nat → Int32) (k8 : Int32 → Int32 → Int32 → Int32 → Int64 → Int32 → Option (Unit × Int32 × Int32 × Int32 × Int32 × Int64 × Int32)) (mB8 : Nat) (hk8 : ∀ (v_next : Int32) (v_type : Int32) (v_place : Int32) (v_formerPlace : Int32) (v_word : Int64) (v_number : Int32), (0 ≤ (v_length).toInt) → ((v_length).toInt ≤ 1200) → (0 ≤ (v_next).toInt) → ((v_next).toInt ≤ (v_length).toInt) → ((v_length).toInt - (v_next).toInt).toNat < mB8 → OK (k8 v_next v_type v_place v_formerPlace v_word v_number) (fun u => (0 ≤ (u.2.1).toInt) ∧ ((u.2.1).toInt ≤ (v_length).toInt) ∧ ((u.2.2.1).toInt = 8 → (0 ≤ (u.2.2.2.2.2.2).toInt ∧ (u.2.2.2.2.2.2).toInt ≤ 99999)))) (v_next : Int32) (v_type : Int32) (v_place : Int32) (v_formerPlace : Int32) (v_word : Int64) (v_number : Int32) (i0 : 0 ≤ (v_length).toInt) (i1 : (v_length).toInt ≤ 1200) (i2 : 0 ≤ (v_next).toInt) (i3 : (v_next).toInt ≤ (v_length).toInt) (i4 : (v_next).toInt < (v_length).toInt) (i5 : ((v_length).toInt - (v_next).toInt).toNat ≤ mB8) : OK (FX4_advance_47 n v_length a_bytes k8 v_next v_type v_place v_formerPlace v_word v_number) (fun u => (0 ≤ (u.2.1).toInt) ∧ ((u.2.1).toInt ≤ (v_length).toInt) ∧ ((u.2.2.1).toInt = 8 → (0 ≤ (u.2.2.2.2.2.2).toInt ∧ (u.2.2.2.2.2.2).toInt ≤ 99999))) := by
  unfold FX4_advance_47
  have v670 : HQ ((1 : Int32)).toInt 1 := HQ.mk (by decide)
  have v671 : HQ ((v_next + (1 : Int32))).toInt ((v_next).toInt + 1) := HQ.mk (addV rfl v670.out (by omega) (by omega))
  refine OK_lt (fun x_21 e_x_21 => ?_)
  have f672 : (x_21).toInt = ((v_next).toInt + 1) := by rw [e_x_21]; exact v671.out
  exact hk8 x_21 v_type v_place v_formerPlace v_word v_number i0 i1 (by omega) (by omega) (by omega)
set_option maxHeartbeats 2000000 in
theorem sFX4_advance_154 (n : Nat) (hn : n = 3000) (v_length : Int32) (a_bytes : Nat → Int32) (v_next : Int32) (v_type : Int32) (v_place : Int32) (v_formerPlace : Int32) (v_word : Int64) (v_number : Int32) (y0 : Int32) (i0 : 0 ≤ (v_length).toInt) (i1 : (v_length).toInt ≤ 1200) (i2 : 0 ≤ (v_next).toInt) (i3 : (v_next).toInt ≤ (v_length).toInt) (i4 : (v_next).toInt < (v_length).toInt) (i5 : (y0).toInt ≠ 8) : OK (FX4_advance_154 n v_length a_bytes v_next v_type v_place v_formerPlace v_word v_number y0) (fun u => (0 ≤ (u.2.1).toInt) ∧ ((u.2.1).toInt ≤ (v_length).toInt) ∧ ((u.2.2.1).toInt = 8 → (0 ≤ (u.2.2.2.2.2.2).toInt ∧ (u.2.2.2.2.2.2).toInt ≤ 99999))) := by
  unfold FX4_advance_154
  have v673 : HQ ((1 : Int32)).toInt 1 := HQ.mk (by decide)
  have v674 : HQ ((v_next + (1 : Int32))).toInt ((v_next).toInt + 1) := HQ.mk (addV rfl v673.out (by omega) (by omega))
  refine OK_lt (fun x_22 e_x_22 => ?_)
  have f675 : (x_22).toInt = ((v_next).toInt + 1) := by rw [e_x_22]; exact v674.out
  exact OK_some (show (0 ≤ (x_22).toInt) ∧ ((x_22).toInt ≤ (v_length).toInt) ∧ ((y0).toInt = 8 → (0 ≤ (v_number).toInt ∧ (v_number).toInt ≤ 99999)) from ⟨(by omega), (by omega), (by omega)⟩)
set_option maxHeartbeats 2000000 in
theorem sFX4_advance_60 (n : Nat) (hn : n = 3000) (v_length : Int32) (a_bytes : Nat → Int32) (v_next : Int32) (v_type : Int32) (v_place : Int32) (v_formerPlace : Int32) (v_word : Int64) (v_number : Int32) (i0 : 0 ≤ (v_length).toInt) (i1 : (v_length).toInt ≤ 1200) (i2 : 0 ≤ (v_next).toInt) (i3 : (v_next).toInt ≤ (v_length).toInt) : OK (FX4_advance_60 n v_length a_bytes v_next v_type v_place v_formerPlace v_word v_number) (fun u => (0 ≤ (u.2.1).toInt) ∧ ((u.2.1).toInt ≤ (v_length).toInt) ∧ ((u.2.2.1).toInt = 8 → (0 ≤ (u.2.2.2.2.2.2).toInt ∧ (u.2.2.2.2.2.2).toInt ≤ 99999))) := by
  unfold FX4_advance_60
  refine OK_if (fun c676 => ?_) (fun c676 => ?_)
  · have f677 := lt32k rfl rfl c676
    refine OK_ck (ckV rfl (by omega) (by omega)) ?_
    refine OK_bd (sX4_isLetter n hn (a_bytes ((v_next).toNatClampNeg))) (fun u_9 p_u_9 => ?_)
    refine OK_if (fun c678 => ?_) (fun c678 => ?_)
    · have v679 : HQ ((0 : Int32)).toInt 0 := HQ.mk (by decide)
      have f680 := eq32k rfl v679.out c678
      refine OK_ck (ckV rfl (by omega) (by omega)) ?_
      refine OK_bd (sX4_isDigit n hn (a_bytes ((v_next).toNatClampNeg))) (fun u_13 p_u_13 => ?_)
      have p681 := p_u_13
      refine OK_if (fun c682 => ?_) (fun c682 => ?_)
      · have f683 := eq32k rfl v679.out c682
        refine OK_ck (ckV rfl (by omega) (by omega)) ?_
        refine OK_if (fun c684 => ?_) (fun c684 => ?_)
        · obtain ⟨m685, v686, f687⟩ := tnV rfl (by omega)
          have v688 : HQ ((a_bytes ((v_next).toNatClampNeg))).toInt (a_bytes m685).toInt := HQ.mk (by rw [v686.out])
          have v689 : HQ ((59 : Int32)).toInt 59 := HQ.mk (by decide)
          have f690 := eq32k v688.out v689.out c684
          have v691 : HQ ((9 : Int32)).toInt 9 := HQ.mk (by decide)
          exact sFX4_advance_154 n hn v_length a_bytes v_next v_type v_next v_formerPlace v_word v_number (9 : Int32) i0 i1 i2 i3 (by omega) (by rw [v691.out]; omega)
        · obtain ⟨m692, v693, f694⟩ := tnV rfl (by omega)
          have v695 : HQ ((a_bytes ((v_next).toNatClampNeg))).toInt (a_bytes m692).toInt := HQ.mk (by rw [v693.out])
          have v696 : HQ ((59 : Int32)).toInt 59 := HQ.mk (by decide)
          have f697 := neq32k v695.out v696.out c684
          have v698 : HQ ((11 : Int32)).toInt 11 := HQ.mk (by decide)
          exact sFX4_advance_154 n hn v_length a_bytes v_next v_type v_next v_formerPlace v_word v_number (11 : Int32) i0 i1 i2 i3 (by omega) (by rw [v698.out]; omega)
      · have f699 := neq32k rfl v679.out c682
        refine OK_bd (sX4_scanNumber n hn v_length v_next v_type v_next v_number a_bytes i0 i1 i2 i3 i2 (by omega) (by omega)) (fun u_18 p_u_18 => ?_)
        obtain ⟨p700, p701, p702⟩ := p_u_18
        exact OK_some (show (0 ≤ (u_18.2.1).toInt) ∧ ((u_18.2.1).toInt ≤ (v_length).toInt) ∧ ((u_18.2.2.1).toInt = 8 → (0 ≤ (u_18.2.2.2).toInt ∧ (u_18.2.2.2).toInt ≤ 99999)) from ⟨p700, p701, p702⟩)
    · have v703 : HQ ((0 : Int32)).toInt 0 := HQ.mk (by decide)
      have f704 := neq32k rfl v703.out c678
      refine OK_bd (sX4_scanWord n hn v_length v_next v_type v_next v_word a_bytes i0 i1 i2 i3) (fun u_20 p_u_20 => ?_)
      obtain ⟨p705, p706, p707⟩ := p_u_20
      exact OK_some (show (0 ≤ (u_20.2.1).toInt) ∧ ((u_20.2.1).toInt ≤ (v_length).toInt) ∧ ((u_20.2.2.1).toInt = 8 → (0 ≤ (v_number).toInt ∧ (v_number).toInt ≤ 99999)) from ⟨p705, p706, (by omega)⟩)
  · have f708 := nlt32k rfl rfl c676
    have v709 : HQ ((10 : Int32)).toInt 10 := HQ.mk (by decide)
    exact OK_some (show (0 ≤ (v_next).toInt) ∧ ((v_next).toInt ≤ (v_length).toInt) ∧ (((10 : Int32)).toInt = 8 → (0 ≤ (v_number).toInt ∧ (v_number).toInt ≤ 99999)) from ⟨i2, i3, (by rw [v709.out]; omega)⟩)
set_option maxHeartbeats 2000000 in
theorem sFX4_advance_8 (n : Nat) (hn : n = 3000) (v_length : Int32) (a_bytes : Nat → Int32) (k8 : Int32 → Int32 → Int32 → Int32 → Int64 → Int32 → Option (Unit × Int32 × Int32 × Int32 × Int32 × Int64 × Int32)) (mB8 : Nat) (hk8 : ∀ (v_next : Int32) (v_type : Int32) (v_place : Int32) (v_formerPlace : Int32) (v_word : Int64) (v_number : Int32), (0 ≤ (v_length).toInt) → ((v_length).toInt ≤ 1200) → (0 ≤ (v_next).toInt) → ((v_next).toInt ≤ (v_length).toInt) → ((v_length).toInt - (v_next).toInt).toNat < mB8 → OK (k8 v_next v_type v_place v_formerPlace v_word v_number) (fun u => (0 ≤ (u.2.1).toInt) ∧ ((u.2.1).toInt ≤ (v_length).toInt) ∧ ((u.2.2.1).toInt = 8 → (0 ≤ (u.2.2.2.2.2.2).toInt ∧ (u.2.2.2.2.2.2).toInt ≤ 99999)))) (v_next : Int32) (v_type : Int32) (v_place : Int32) (v_formerPlace : Int32) (v_word : Int64) (v_number : Int32) (i0 : 0 ≤ (v_length).toInt) (i1 : (v_length).toInt ≤ 1200) (i2 : 0 ≤ (v_next).toInt) (i3 : (v_next).toInt ≤ (v_length).toInt) (hmu : ((v_length).toInt - (v_next).toInt).toNat ≤ mB8) : OK (FX4_advance_8 n v_length a_bytes k8 v_next v_type v_place v_formerPlace v_word v_number) (fun u => (0 ≤ (u.2.1).toInt) ∧ ((u.2.1).toInt ≤ (v_length).toInt) ∧ ((u.2.2.1).toInt = 8 → (0 ≤ (u.2.2.2.2.2.2).toInt ∧ (u.2.2.2.2.2.2).toInt ≤ 99999))) := by
  unfold FX4_advance_8
  refine OK_if (fun c710 => ?_) (fun c710 => ?_)
  · have f711 := le32k rfl rfl c710
    exact sFX4_advance_60 n hn v_length a_bytes v_next v_type v_place v_formerPlace v_word v_number i0 i1 i2 i3
  · have f712 := nle32k rfl rfl c710
    refine OK_ck (ckV rfl (by omega) (by omega)) ?_
    refine OK_if (fun c713 => ?_) (fun c713 => ?_)
    · obtain ⟨m714, v715, f716⟩ := tnV rfl (by omega)
      have v717 : HQ ((a_bytes ((v_next).toNatClampNeg))).toInt (a_bytes m714).toInt := HQ.mk (by rw [v715.out])
      have v718 : HQ ((32 : Int32)).toInt 32 := HQ.mk (by decide)
      have f719 := eq32k v717.out v718.out c713
      exact sFX4_advance_47 n hn v_length a_bytes k8 mB8 hk8 v_next v_type v_place v_formerPlace v_word v_number i0 i1 i2 i3 (by omega) (by omega)
    · obtain ⟨m720, v721, f722⟩ := tnV rfl (by omega)
      have v723 : HQ ((a_bytes ((v_next).toNatClampNeg))).toInt (a_bytes m720).toInt := HQ.mk (by rw [v721.out])
      have v724 : HQ ((32 : Int32)).toInt 32 := HQ.mk (by decide)
      have f725 := neq32k v723.out v724.out c713
      refine OK_ck (ckV rfl (by omega) (by omega)) ?_
      refine OK_if (fun c726 => ?_) (fun c726 => ?_)
      · have v727 : HQ ((10 : Int32)).toInt 10 := HQ.mk (by decide)
        have f728 := eq32k v723.out v727.out c726
        exact sFX4_advance_47 n hn v_length a_bytes k8 mB8 hk8 v_next v_type v_place v_formerPlace v_word v_number i0 i1 i2 i3 (by omega) (by omega)
      · have v729 : HQ ((10 : Int32)).toInt 10 := HQ.mk (by decide)
        have f730 := neq32k v723.out v729.out c726
        exact sFX4_advance_60 n hn v_length a_bytes v_next v_type v_place v_formerPlace v_word v_number i0 i1 i2 i3
theorem sFX4_advance_8L (n : Nat) (hn : n = 3000) (v_length : Int32) (a_bytes : Nat → Int32) : ∀ (j : Nat) (v_next : Int32) (v_type : Int32) (v_place : Int32) (v_formerPlace : Int32) (v_word : Int64) (v_number : Int32), (0 ≤ (v_length).toInt) → ((v_length).toInt ≤ 1200) → (0 ≤ (v_next).toInt) → ((v_next).toInt ≤ (v_length).toInt) → ((v_length).toInt - (v_next).toInt).toNat < j → OK (FX4_advance_8L n v_length a_bytes j v_next v_type v_place v_formerPlace v_word v_number) (fun u => (0 ≤ (u.2.1).toInt) ∧ ((u.2.1).toInt ≤ (v_length).toInt) ∧ ((u.2.2.1).toInt = 8 → (0 ≤ (u.2.2.2.2.2.2).toInt ∧ (u.2.2.2.2.2.2).toInt ≤ 99999))) := by
  intro j
  induction j with
  | zero => intro _ _ _ _ _ _ _ _ _ _ hj; exact absurd hj (Nat.not_lt_zero _)
  | succ j ih =>
    intro v_next v_type v_place v_formerPlace v_word v_number i0 i1 i2 i3 hj
    exact sFX4_advance_8 n hn v_length a_bytes (FX4_advance_8L n v_length a_bytes j) (((v_length).toInt - (v_next).toInt).toNat) (fun y0 y1 y2 y3 y4 y5 w0 w1 w2 w3 hlt => ih y0 y1 y2 y3 y4 y5 w0 w1 w2 w3 (by omega)) v_next v_type v_place v_formerPlace v_word v_number i0 i1 i2 i3 (Nat.le_refl _)
set_option maxHeartbeats 2000000 in
theorem sX4_advance (n : Nat) (hn : n = 3000) (v_length : Int32) (v_next : Int32) (v_type : Int32) (v_place : Int32) (v_formerPlace : Int32) (v_word : Int64) (v_number : Int32) (a_bytes : Nat → Int32) (i0 : 0 ≤ (v_length).toInt) (i1 : (v_length).toInt ≤ 1200) (i2 : 0 ≤ (v_next).toInt) (i3 : (v_next).toInt ≤ (v_length).toInt) : OK (FX4_advance n v_length v_next v_type v_place v_formerPlace v_word v_number a_bytes) (fun u => (0 ≤ (u.2.1).toInt) ∧ ((u.2.1).toInt ≤ (v_length).toInt) ∧ ((u.2.2.1).toInt = 8 → (0 ≤ (u.2.2.2.2.2.2).toInt ∧ (u.2.2.2.2.2.2).toInt ≤ 99999))) := by
  unfold FX4_advance
  exact sFX4_advance_8L n hn v_length a_bytes n v_next v_type v_place v_place v_word v_number i0 i1 i2 i3 (by omega)
set_option maxHeartbeats 2000000 in
theorem sX4_start (n : Nat) (hn : n = 3000) (v_length : Int32) (v_next : Int32) (v_type : Int32) (v_place : Int32) (v_formerPlace : Int32) (v_word : Int64) (v_number : Int32) (a_bytes : Nat → Int32) (i0 : 0 ≤ (v_length).toInt) (i1 : (v_length).toInt ≤ 1200) : OK (FX4_start n v_length v_next v_type v_place v_formerPlace v_word v_number a_bytes) (fun u => (0 ≤ (u.2.1).toInt) ∧ ((u.2.1).toInt ≤ (v_length).toInt) ∧ ((u.2.2.1).toInt = 8 → (0 ≤ (u.2.2.2.2.2.2).toInt ∧ (u.2.2.2.2.2.2).toInt ≤ 99999))) := by
  unfold FX4_start
  have v731 : HQ ((0 : Int32)).toInt 0 := HQ.mk (by decide)
  refine OK_bd (sX4_advance n hn v_length (0 : Int32) v_type (0 : Int32) v_formerPlace v_word v_number a_bytes i0 i1 (by rw [v731.out]; omega) (by rw [v731.out]; omega)) (fun u_2 p_u_2 => ?_)
  obtain ⟨p732, p733, p734⟩ := p_u_2
  exact OK_some (show (0 ≤ (u_2.2.1).toInt) ∧ ((u_2.2.1).toInt ≤ (v_length).toInt) ∧ ((u_2.2.2.1).toInt = 8 → (0 ≤ (u_2.2.2.2.2.2.2).toInt ∧ (u_2.2.2.2.2.2.2).toInt ≤ 99999)) from ⟨p732, p733, p734⟩)
set_option maxHeartbeats 2000000 in
theorem sX3_fail (n : Nat) (hn : n = 3000) (v_fault : Int32) (v_faultPlace : Int32) (z1 : Int32) (z2 : Int32) (i0 : (z1).toInt ≠ 0) : OK (FX3_fail n v_fault v_faultPlace z1 z2) (fun u => ((u.2.1).toInt ≠ 0)) := by
  unfold FX3_fail
  refine OK_if (fun c735 => ?_) (fun c735 => ?_)
  · have v736 : HQ ((0 : Int32)).toInt 0 := HQ.mk (by decide)
    have f737 := eq32k rfl v736.out c735
    exact OK_some (show ((z1).toInt ≠ 0) from i0)
  · have v738 : HQ ((0 : Int32)).toInt 0 := HQ.mk (by decide)
    have f739 := neq32k rfl v738.out c735
    exact OK_some (show ((v_fault).toInt ≠ 0) from (by omega))
set_option maxHeartbeats 2000000 in
theorem sFX3_refuseToken_18 (n : Nat) (hn : n = 3000) (v_tape_type : Int32) (v_tape_place : Int32) (v_fault : Int32) (v_faultPlace : Int32) (y0 : Int32) (i0 : (y0).toInt ≠ 0) : OK (FX3_refuseToken_18 n v_tape_type v_tape_place v_fault v_faultPlace y0) (fun u => ((u.2.1).toInt ≠ 0)) := by
  unfold FX3_refuseToken_18
  refine OK_bd (sX3_fail n hn v_fault v_faultPlace y0 v_tape_place i0) (fun u_3 p_u_3 => ?_)
  have p740 := p_u_3
  exact OK_some (show ((u_3.2.1).toInt ≠ 0) from p740)
set_option maxHeartbeats 2000000 in
theorem sX3_refuseToken (n : Nat) (hn : n = 3000) (v_fault : Int32) (v_faultPlace : Int32) (v_tape_type : Int32) (v_tape_place : Int32) : OK (FX3_refuseToken n v_fault v_faultPlace v_tape_type v_tape_place) (fun u => ((u.2.1).toInt ≠ 0)) := by
  unfold FX3_refuseToken
  refine OK_if (fun c741 => ?_) (fun c741 => ?_)
  · have v742 : HQ ((11 : Int32)).toInt 11 := HQ.mk (by decide)
    have f743 := eq32k rfl v742.out c741
    have v744 : HQ ((1 : Int32)).toInt 1 := HQ.mk (by decide)
    exact sFX3_refuseToken_18 n hn v_tape_type v_tape_place v_fault v_faultPlace (1 : Int32) (by rw [v744.out]; omega)
  · have v745 : HQ ((11 : Int32)).toInt 11 := HQ.mk (by decide)
    have f746 := neq32k rfl v745.out c741
    have v747 : HQ ((2 : Int32)).toInt 2 := HQ.mk (by decide)
    exact sFX3_refuseToken_18 n hn v_tape_type v_tape_place v_fault v_faultPlace (2 : Int32) (by rw [v747.out]; omega)
