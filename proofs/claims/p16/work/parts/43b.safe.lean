set_option maxHeartbeats 2000000 in
theorem sFX4_scanNumber_118 (n : Nat) (hn : n = 3000) (v_length : Int32) (v_place : Int32) (a_bytes : Nat → Int32) (v_next : Int32) (v_type : Int32) (v_number : Int32) (i0 : 0 ≤ (v_length).toInt) (i1 : (v_length).toInt ≤ 1200) (i2 : 0 ≤ (v_next).toInt) (i3 : (v_next).toInt ≤ (v_length).toInt) (i4 : 0 ≤ (v_place).toInt) (i5 : (v_place).toInt ≤ (v_next).toInt) : OK (FX4_scanNumber_118 n v_length v_place a_bytes v_next v_type v_number) (fun u => (0 ≤ (u.2.1).toInt) ∧ ((u.2.1).toInt ≤ (v_length).toInt) ∧ ((u.2.2.1).toInt = 8 → (0 ≤ (u.2.2.2).toInt ∧ (u.2.2.2).toInt ≤ 99999))) := by
  unfold FX4_scanNumber_118
  have v586 : HQ ((11 : Int32)).toInt 11 := HQ.mk (by decide)
  exact OK_some (show (0 ≤ (v_next).toInt) ∧ ((v_next).toInt ≤ (v_length).toInt) ∧ (((11 : Int32)).toInt = 8 → (0 ≤ (v_number).toInt ∧ (v_number).toInt ≤ 99999)) from ⟨i2, i3, (by rw [v586.out]; omega)⟩)
set_option maxHeartbeats 2000000 in
theorem sFX4_scanNumber_99 (n : Nat) (hn : n = 3000) (v_length : Int32) (v_place : Int32) (a_bytes : Nat → Int32) (v_next : Int32) (v_type : Int32) (v_number : Int32) (y0 : Int32) (i0 : 0 ≤ (v_length).toInt) (i1 : (v_length).toInt ≤ 1200) (i2 : 0 ≤ (v_next).toInt) (i3 : (v_next).toInt ≤ (v_length).toInt) (i4 : 0 ≤ (v_place).toInt) (i5 : (v_place).toInt ≤ (v_next).toInt) (i6 : ((v_next).toInt - (v_place).toInt = 0 ∧ (v_number).toInt = 0) ∨ ((v_next).toInt - (v_place).toInt = 1 ∧ 0 ≤ (v_number).toInt ∧ (v_number).toInt ≤ 9) ∨ ((v_next).toInt - (v_place).toInt = 2 ∧ 0 ≤ (v_number).toInt ∧ (v_number).toInt ≤ 99) ∨ ((v_next).toInt - (v_place).toInt = 3 ∧ 0 ≤ (v_number).toInt ∧ (v_number).toInt ≤ 999) ∨ ((v_next).toInt - (v_place).toInt = 4 ∧ 0 ≤ (v_number).toInt ∧ (v_number).toInt ≤ 9999) ∨ ((v_next).toInt - (v_place).toInt = 5 ∧ 0 ≤ (v_number).toInt ∧ (v_number).toInt ≤ 99999) ∨ 6 ≤ (v_next).toInt - (v_place).toInt) : OK (FX4_scanNumber_99 n v_length v_place a_bytes v_next v_type v_number y0) (fun u => (0 ≤ (u.2.1).toInt) ∧ ((u.2.1).toInt ≤ (v_length).toInt) ∧ ((u.2.2.1).toInt = 8 → (0 ≤ (u.2.2.2).toInt ∧ (u.2.2.2).toInt ≤ 99999))) := by
  unfold FX4_scanNumber_99
  refine OK_if (fun c587 => ?_) (fun c587 => ?_)
  · have v588 : HQ ((0 : Int32)).toInt 0 := HQ.mk (by decide)
    have f589 := eq32k rfl v588.out c587
    refine OK_if (fun c590 => ?_) (fun c590 => ?_)
    · have v591 : HQ ((v_next - v_place)).toInt ((v_next).toInt - (v_place).toInt) := HQ.mk (subV rfl rfl (by omega) (by omega))
      have v592 : HQ ((5 : Int32)).toInt 5 := HQ.mk (by decide)
      have f593 := le32k v591.out v592.out c590
      have v594 : HQ ((8 : Int32)).toInt 8 := HQ.mk (by decide)
      exact OK_some (show (0 ≤ (v_next).toInt) ∧ ((v_next).toInt ≤ (v_length).toInt) ∧ (((8 : Int32)).toInt = 8 → (0 ≤ (v_number).toInt ∧ (v_number).toInt ≤ 99999)) from ⟨i2, i3, (by rw [v594.out]; omega)⟩)
    · have v595 : HQ ((v_next - v_place)).toInt ((v_next).toInt - (v_place).toInt) := HQ.mk (subV rfl rfl (by omega) (by omega))
      have v596 : HQ ((5 : Int32)).toInt 5 := HQ.mk (by decide)
      have f597 := nle32k v595.out v596.out c590
      exact sFX4_scanNumber_118 n hn v_length v_place a_bytes v_next v_type v_number i0 i1 i2 i3 i4 i5
  · have v598 : HQ ((0 : Int32)).toInt 0 := HQ.mk (by decide)
    have f599 := neq32k rfl v598.out c587
    exact sFX4_scanNumber_118 n hn v_length v_place a_bytes v_next v_type v_number i0 i1 i2 i3 i4 i5
set_option maxHeartbeats 2000000 in
theorem sFX4_scanNumber_98 (n : Nat) (hn : n = 3000) (v_length : Int32) (v_place : Int32) (a_bytes : Nat → Int32) (v_next : Int32) (v_type : Int32) (v_number : Int32) (i0 : 0 ≤ (v_length).toInt) (i1 : (v_length).toInt ≤ 1200) (i2 : 0 ≤ (v_next).toInt) (i3 : (v_next).toInt ≤ (v_length).toInt) (i4 : 0 ≤ (v_place).toInt) (i5 : (v_place).toInt ≤ (v_next).toInt) (i6 : ((v_next).toInt - (v_place).toInt = 0 ∧ (v_number).toInt = 0) ∨ ((v_next).toInt - (v_place).toInt = 1 ∧ 0 ≤ (v_number).toInt ∧ (v_number).toInt ≤ 9) ∨ ((v_next).toInt - (v_place).toInt = 2 ∧ 0 ≤ (v_number).toInt ∧ (v_number).toInt ≤ 99) ∨ ((v_next).toInt - (v_place).toInt = 3 ∧ 0 ≤ (v_number).toInt ∧ (v_number).toInt ≤ 999) ∨ ((v_next).toInt - (v_place).toInt = 4 ∧ 0 ≤ (v_number).toInt ∧ (v_number).toInt ≤ 9999) ∨ ((v_next).toInt - (v_place).toInt = 5 ∧ 0 ≤ (v_number).toInt ∧ (v_number).toInt ≤ 99999) ∨ 6 ≤ (v_next).toInt - (v_place).toInt) : OK (FX4_scanNumber_98 n v_length v_place a_bytes v_next v_type v_number) (fun u => (0 ≤ (u.2.1).toInt) ∧ ((u.2.1).toInt ≤ (v_length).toInt) ∧ ((u.2.2.1).toInt = 8 → (0 ≤ (u.2.2.2).toInt ∧ (u.2.2.2).toInt ≤ 99999))) := by
  unfold FX4_scanNumber_98
  exact sFX4_scanNumber_99 n hn v_length v_place a_bytes v_next v_type v_number (0 : Int32) i0 i1 i2 i3 i4 i5 i6
set_option maxHeartbeats 2000000 in
theorem sFX4_scanNumber_68 (n : Nat) (hn : n = 3000) (v_length : Int32) (v_place : Int32) (a_bytes : Nat → Int32) (v_next : Int32) (v_type : Int32) (v_number : Int32) (i0 : 0 ≤ (v_length).toInt) (i1 : (v_length).toInt ≤ 1200) (i2 : 0 ≤ (v_next).toInt) (i3 : (v_next).toInt ≤ (v_length).toInt) (i4 : 0 ≤ (v_place).toInt) (i5 : (v_place).toInt ≤ (v_next).toInt) (i6 : ((v_next).toInt - (v_place).toInt = 0 ∧ (v_number).toInt = 0) ∨ ((v_next).toInt - (v_place).toInt = 1 ∧ 0 ≤ (v_number).toInt ∧ (v_number).toInt ≤ 9) ∨ ((v_next).toInt - (v_place).toInt = 2 ∧ 0 ≤ (v_number).toInt ∧ (v_number).toInt ≤ 99) ∨ ((v_next).toInt - (v_place).toInt = 3 ∧ 0 ≤ (v_number).toInt ∧ (v_number).toInt ≤ 999) ∨ ((v_next).toInt - (v_place).toInt = 4 ∧ 0 ≤ (v_number).toInt ∧ (v_number).toInt ≤ 9999) ∨ ((v_next).toInt - (v_place).toInt = 5 ∧ 0 ≤ (v_number).toInt ∧ (v_number).toInt ≤ 99999) ∨ 6 ≤ (v_next).toInt - (v_place).toInt) : OK (FX4_scanNumber_68 n v_length v_place a_bytes v_next v_type v_number) (fun u => (0 ≤ (u.2.1).toInt) ∧ ((u.2.1).toInt ≤ (v_length).toInt) ∧ ((u.2.2.1).toInt = 8 → (0 ≤ (u.2.2.2).toInt ∧ (u.2.2.2).toInt ≤ 99999))) := by
  unfold FX4_scanNumber_68
  refine OK_if (fun c600 => ?_) (fun c600 => ?_)
  · have f601 := le32k rfl rfl c600
    exact sFX4_scanNumber_98 n hn v_length v_place a_bytes v_next v_type v_number i0 i1 i2 i3 i4 i5 i6
  · have f602 := nle32k rfl rfl c600
    refine OK_ck (ckV rfl (by omega) (by omega)) ?_
    refine OK_bd (sX4_isLetter n hn (a_bytes ((v_next).toNatClampNeg))) (fun u_12 p_u_12 => ?_)
    refine OK_if (fun c603 => ?_) (fun c603 => ?_)
    · have v604 : HQ ((0 : Int32)).toInt 0 := HQ.mk (by decide)
      have f605 := eq32k rfl v604.out c603
      exact sFX4_scanNumber_98 n hn v_length v_place a_bytes v_next v_type v_number i0 i1 i2 i3 i4 i5 i6
    · have v606 : HQ ((0 : Int32)).toInt 0 := HQ.mk (by decide)
      have f607 := neq32k rfl v606.out c603
      exact sFX4_scanNumber_99 n hn v_length v_place a_bytes v_next v_type v_number (1 : Int32) i0 i1 i2 i3 i4 i5 i6
set_option maxHeartbeats 2000000 in
theorem sFX4_scanNumber_5 (n : Nat) (hn : n = 3000) (v_length : Int32) (v_place : Int32) (a_bytes : Nat → Int32) (k5 : Int32 → Int32 → Int32 → Option (Unit × Int32 × Int32 × Int32)) (mB5 : Nat) (hk5 : ∀ (v_next : Int32) (v_type : Int32) (v_number : Int32), (0 ≤ (v_length).toInt) → ((v_length).toInt ≤ 1200) → (0 ≤ (v_next).toInt) → ((v_next).toInt ≤ (v_length).toInt) → (0 ≤ (v_place).toInt) → ((v_place).toInt ≤ (v_next).toInt) → (((v_next).toInt - (v_place).toInt = 0 ∧ (v_number).toInt = 0) ∨ ((v_next).toInt - (v_place).toInt = 1 ∧ 0 ≤ (v_number).toInt ∧ (v_number).toInt ≤ 9) ∨ ((v_next).toInt - (v_place).toInt = 2 ∧ 0 ≤ (v_number).toInt ∧ (v_number).toInt ≤ 99) ∨ ((v_next).toInt - (v_place).toInt = 3 ∧ 0 ≤ (v_number).toInt ∧ (v_number).toInt ≤ 999) ∨ ((v_next).toInt - (v_place).toInt = 4 ∧ 0 ≤ (v_number).toInt ∧ (v_number).toInt ≤ 9999) ∨ ((v_next).toInt - (v_place).toInt = 5 ∧ 0 ≤ (v_number).toInt ∧ (v_number).toInt ≤ 99999) ∨ 6 ≤ (v_next).toInt - (v_place).toInt) → ((v_length).toInt - (v_next).toInt).toNat < mB5 → OK (k5 v_next v_type v_number) (fun u => (0 ≤ (u.2.1).toInt) ∧ ((u.2.1).toInt ≤ (v_length).toInt) ∧ ((u.2.2.1).toInt = 8 → (0 ≤ (u.2.2.2).toInt ∧ (u.2.2.2).toInt ≤ 99999)))) (v_next : Int32) (v_type : Int32) (v_number : Int32) (i0 : 0 ≤ (v_length).toInt) (i1 : (v_length).toInt ≤ 1200) (i2 : 0 ≤ (v_next).toInt) (i3 : (v_next).toInt ≤ (v_length).toInt) (i4 : 0 ≤ (v_place).toInt) (i5 : (v_place).toInt ≤ (v_next).toInt) (i6 : ((v_next).toInt - (v_place).toInt = 0 ∧ (v_number).toInt = 0) ∨ ((v_next).toInt - (v_place).toInt = 1 ∧ 0 ≤ (v_number).toInt ∧ (v_number).toInt ≤ 9) ∨ ((v_next).toInt - (v_place).toInt = 2 ∧ 0 ≤ (v_number).toInt ∧ (v_number).toInt ≤ 99) ∨ ((v_next).toInt - (v_place).toInt = 3 ∧ 0 ≤ (v_number).toInt ∧ (v_number).toInt ≤ 999) ∨ ((v_next).toInt - (v_place).toInt = 4 ∧ 0 ≤ (v_number).toInt ∧ (v_number).toInt ≤ 9999) ∨ ((v_next).toInt - (v_place).toInt = 5 ∧ 0 ≤ (v_number).toInt ∧ (v_number).toInt ≤ 99999) ∨ 6 ≤ (v_next).toInt - (v_place).toInt) (hmu : ((v_length).toInt - (v_next).toInt).toNat ≤ mB5) : OK (FX4_scanNumber_5 n v_length v_place a_bytes k5 v_next v_type v_number) (fun u => (0 ≤ (u.2.1).toInt) ∧ ((u.2.1).toInt ≤ (v_length).toInt) ∧ ((u.2.2.1).toInt = 8 → (0 ≤ (u.2.2.2).toInt ∧ (u.2.2.2).toInt ≤ 99999))) := by
  unfold FX4_scanNumber_5
  refine OK_if (fun c608 => ?_) (fun c608 => ?_)
  · have f609 := le32k rfl rfl c608
    exact sFX4_scanNumber_68 n hn v_length v_place a_bytes v_next v_type v_number i0 i1 i2 i3 i4 i5 i6
  · have f610 := nle32k rfl rfl c608
    refine OK_ck (ckV rfl (by omega) (by omega)) ?_
    refine OK_bd (sX4_isDigit n hn (a_bytes ((v_next).toNatClampNeg))) (fun u_4 p_u_4 => ?_)
    have p611 := p_u_4
    refine OK_if (fun c612 => ?_) (fun c612 => ?_)
    · have v613 : HQ ((0 : Int32)).toInt 0 := HQ.mk (by decide)
      have f614 := eq32k rfl v613.out c612
      exact sFX4_scanNumber_68 n hn v_length v_place a_bytes v_next v_type v_number i0 i1 i2 i3 i4 i5 i6
    · have v615 : HQ ((0 : Int32)).toInt 0 := HQ.mk (by decide)
      have f616 := neq32k rfl v615.out c612
      refine OK_ck (ckV rfl (by omega) (by omega)) ?_
      refine OK_lt (fun x_7 e_x_7 => ?_)
      have v617 : HQ ((1 : Int32)).toInt 1 := HQ.mk (by decide)
      have v618 : HQ ((v_next + (1 : Int32))).toInt ((v_next).toInt + 1) := HQ.mk (addV rfl v617.out (by omega) (by omega))
      refine OK_lt (fun x_8 e_x_8 => ?_)
      have f619 : (x_8).toInt = ((v_next).toInt + 1) := by rw [e_x_8]; exact v618.out
      exact hk5 x_8 v_type x_7 i0 i1 (by omega) (by omega) i4 (by omega) (by omega) (by omega)
theorem sFX4_scanNumber_5L (n : Nat) (hn : n = 3000) (v_length : Int32) (v_place : Int32) (a_bytes : Nat → Int32) : ∀ (j : Nat) (v_next : Int32) (v_type : Int32) (v_number : Int32), (0 ≤ (v_length).toInt) → ((v_length).toInt ≤ 1200) → (0 ≤ (v_next).toInt) → ((v_next).toInt ≤ (v_length).toInt) → (0 ≤ (v_place).toInt) → ((v_place).toInt ≤ (v_next).toInt) → (((v_next).toInt - (v_place).toInt = 0 ∧ (v_number).toInt = 0) ∨ ((v_next).toInt - (v_place).toInt = 1 ∧ 0 ≤ (v_number).toInt ∧ (v_number).toInt ≤ 9) ∨ ((v_next).toInt - (v_place).toInt = 2 ∧ 0 ≤ (v_number).toInt ∧ (v_number).toInt ≤ 99) ∨ ((v_next).toInt - (v_place).toInt = 3 ∧ 0 ≤ (v_number).toInt ∧ (v_number).toInt ≤ 999) ∨ ((v_next).toInt - (v_place).toInt = 4 ∧ 0 ≤ (v_number).toInt ∧ (v_number).toInt ≤ 9999) ∨ ((v_next).toInt - (v_place).toInt = 5 ∧ 0 ≤ (v_number).toInt ∧ (v_number).toInt ≤ 99999) ∨ 6 ≤ (v_next).toInt - (v_place).toInt) → ((v_length).toInt - (v_next).toInt).toNat < j → OK (FX4_scanNumber_5L n v_length v_place a_bytes j v_next v_type v_number) (fun u => (0 ≤ (u.2.1).toInt) ∧ ((u.2.1).toInt ≤ (v_length).toInt) ∧ ((u.2.2.1).toInt = 8 → (0 ≤ (u.2.2.2).toInt ∧ (u.2.2.2).toInt ≤ 99999))) := by
  intro j
  induction j with
  | zero => intro _ _ _ _ _ _ _ _ _ _ hj; exact absurd hj (Nat.not_lt_zero _)
  | succ j ih =>
    intro v_next v_type v_number i0 i1 i2 i3 i4 i5 i6 hj
    exact sFX4_scanNumber_5 n hn v_length v_place a_bytes (FX4_scanNumber_5L n v_length v_place a_bytes j) (((v_length).toInt - (v_next).toInt).toNat) (fun y0 y1 y2 w0 w1 w2 w3 w4 w5 w6 hlt => ih y0 y1 y2 w0 w1 w2 w3 w4 w5 w6 (by omega)) v_next v_type v_number i0 i1 i2 i3 i4 i5 i6 (Nat.le_refl _)
set_option maxHeartbeats 2000000 in
theorem sX4_scanNumber (n : Nat) (hn : n = 3000) (v_length : Int32) (v_next : Int32) (v_type : Int32) (v_place : Int32) (v_number : Int32) (a_bytes : Nat → Int32) (i0 : 0 ≤ (v_length).toInt) (i1 : (v_length).toInt ≤ 1200) (i2 : 0 ≤ (v_next).toInt) (i3 : (v_next).toInt ≤ (v_length).toInt) (i4 : 0 ≤ (v_place).toInt) (i5 : (v_place).toInt ≤ (v_next).toInt) (i6 : (v_place).toInt = (v_next).toInt) : OK (FX4_scanNumber n v_length v_next v_type v_place v_number a_bytes) (fun u => (0 ≤ (u.2.1).toInt) ∧ ((u.2.1).toInt ≤ (v_length).toInt) ∧ ((u.2.2.1).toInt = 8 → (0 ≤ (u.2.2.2).toInt ∧ (u.2.2.2).toInt ≤ 99999))) := by
  unfold FX4_scanNumber
  have v620 : HQ ((0 : Int32)).toInt 0 := HQ.mk (by decide)
  exact sFX4_scanNumber_5L n hn v_length v_place a_bytes n v_next v_type (0 : Int32) i0 i1 i2 i3 i4 i5 (by rw [v620.out]; omega) (by omega)
