set_option maxHeartbeats 2000000 in
theorem sFX4_scanNumber_118 (n : Nat) (hn : n = 2200000000) (v_length : Int32) (v_place : Int32) (a_bytes : Nat → Int32) (v_next : Int32) (v_type : Int32) (v_number : Int32) (i0 : 0 ≤ (v_length).toInt) (i1 : (v_length).toInt ≤ 1200) (i2 : 0 ≤ (v_next).toInt) (i3 : (v_next).toInt ≤ (v_length).toInt) (i4 : 0 ≤ (v_place).toInt) (i5 : (v_place).toInt ≤ (v_next).toInt) : OK (FX4_scanNumber_118 n v_length v_place a_bytes v_next v_type v_number) (fun u => (0 ≤ (u.2.1).toInt) ∧ ((u.2.1).toInt ≤ (v_length).toInt) ∧ ((u.2.2.1).toInt = 8 → (0 ≤ (u.2.2.2).toInt ∧ (u.2.2.2).toInt ≤ 99999))) := by
  unfold FX4_scanNumber_118
  have v631 : HQ ((11 : Int32)).toInt 11 := HQ.mk (by decide)
  exact OK_some (show (0 ≤ (v_next).toInt) ∧ ((v_next).toInt ≤ (v_length).toInt) ∧ (((11 : Int32)).toInt = 8 → (0 ≤ (v_number).toInt ∧ (v_number).toInt ≤ 99999)) from ⟨i2, i3, (by (rw [v631.out]) <;> omega)⟩)
set_option maxHeartbeats 2000000 in
theorem sFX4_scanNumber_99 (n : Nat) (hn : n = 2200000000) (v_length : Int32) (v_place : Int32) (a_bytes : Nat → Int32) (v_next : Int32) (v_type : Int32) (v_number : Int32) (y0 : Int32) (i0 : 0 ≤ (v_length).toInt) (i1 : (v_length).toInt ≤ 1200) (i2 : 0 ≤ (v_next).toInt) (i3 : (v_next).toInt ≤ (v_length).toInt) (i4 : 0 ≤ (v_place).toInt) (i5 : (v_place).toInt ≤ (v_next).toInt) (c_dig : ((v_next).toInt - (v_place).toInt = 0 ∧ (v_number).toInt = 0) ∨ ((v_next).toInt - (v_place).toInt = 1 ∧ 0 ≤ (v_number).toInt ∧ (v_number).toInt ≤ 9) ∨ ((v_next).toInt - (v_place).toInt = 2 ∧ 0 ≤ (v_number).toInt ∧ (v_number).toInt ≤ 99) ∨ ((v_next).toInt - (v_place).toInt = 3 ∧ 0 ≤ (v_number).toInt ∧ (v_number).toInt ≤ 999) ∨ ((v_next).toInt - (v_place).toInt = 4 ∧ 0 ≤ (v_number).toInt ∧ (v_number).toInt ≤ 9999) ∨ ((v_next).toInt - (v_place).toInt = 5 ∧ 0 ≤ (v_number).toInt ∧ (v_number).toInt ≤ 99999) ∨ 6 ≤ (v_next).toInt - (v_place).toInt) : OK (FX4_scanNumber_99 n v_length v_place a_bytes v_next v_type v_number y0) (fun u => (0 ≤ (u.2.1).toInt) ∧ ((u.2.1).toInt ≤ (v_length).toInt) ∧ ((u.2.2.1).toInt = 8 → (0 ≤ (u.2.2.2).toInt ∧ (u.2.2.2).toInt ≤ 99999))) := by
  unfold FX4_scanNumber_99
  refine OK_if (fun c632 => ?_) (fun c632 => ?_)
  · have v633 : HQ ((0 : Int32)).toInt 0 := HQ.mk (by decide)
    have f634 := eq32k rfl v633.out c632
    refine OK_if (fun c635 => ?_) (fun c635 => ?_)
    · have v636 : HQ ((v_next - v_place)).toInt ((v_next).toInt - (v_place).toInt) := HQ.mk (subV rfl rfl (by omega) (by omega))
      have v637 : HQ ((5 : Int32)).toInt 5 := HQ.mk (by decide)
      have f638 := le32k v636.out v637.out c635
      have v639 : HQ ((8 : Int32)).toInt 8 := HQ.mk (by decide)
      exact OK_some (show (0 ≤ (v_next).toInt) ∧ ((v_next).toInt ≤ (v_length).toInt) ∧ (((8 : Int32)).toInt = 8 → (0 ≤ (v_number).toInt ∧ (v_number).toInt ≤ 99999)) from ⟨i2, i3, (by (rw [v639.out]) <;> omega)⟩)
    · have v640 : HQ ((v_next - v_place)).toInt ((v_next).toInt - (v_place).toInt) := HQ.mk (subV rfl rfl (by omega) (by omega))
      have v641 : HQ ((5 : Int32)).toInt 5 := HQ.mk (by decide)
      have f642 := nle32k v640.out v641.out c635
      exact sFX4_scanNumber_118 n hn v_length v_place a_bytes v_next v_type v_number i0 i1 i2 i3 i4 i5
  · have v643 : HQ ((0 : Int32)).toInt 0 := HQ.mk (by decide)
    have f644 := neq32k rfl v643.out c632
    exact sFX4_scanNumber_118 n hn v_length v_place a_bytes v_next v_type v_number i0 i1 i2 i3 i4 i5
set_option maxHeartbeats 2000000 in
theorem sFX4_scanNumber_98 (n : Nat) (hn : n = 2200000000) (v_length : Int32) (v_place : Int32) (a_bytes : Nat → Int32) (v_next : Int32) (v_type : Int32) (v_number : Int32) (i0 : 0 ≤ (v_length).toInt) (i1 : (v_length).toInt ≤ 1200) (i2 : 0 ≤ (v_next).toInt) (i3 : (v_next).toInt ≤ (v_length).toInt) (i4 : 0 ≤ (v_place).toInt) (i5 : (v_place).toInt ≤ (v_next).toInt) (c_dig : ((v_next).toInt - (v_place).toInt = 0 ∧ (v_number).toInt = 0) ∨ ((v_next).toInt - (v_place).toInt = 1 ∧ 0 ≤ (v_number).toInt ∧ (v_number).toInt ≤ 9) ∨ ((v_next).toInt - (v_place).toInt = 2 ∧ 0 ≤ (v_number).toInt ∧ (v_number).toInt ≤ 99) ∨ ((v_next).toInt - (v_place).toInt = 3 ∧ 0 ≤ (v_number).toInt ∧ (v_number).toInt ≤ 999) ∨ ((v_next).toInt - (v_place).toInt = 4 ∧ 0 ≤ (v_number).toInt ∧ (v_number).toInt ≤ 9999) ∨ ((v_next).toInt - (v_place).toInt = 5 ∧ 0 ≤ (v_number).toInt ∧ (v_number).toInt ≤ 99999) ∨ 6 ≤ (v_next).toInt - (v_place).toInt) : OK (FX4_scanNumber_98 n v_length v_place a_bytes v_next v_type v_number) (fun u => (0 ≤ (u.2.1).toInt) ∧ ((u.2.1).toInt ≤ (v_length).toInt) ∧ ((u.2.2.1).toInt = 8 → (0 ≤ (u.2.2.2).toInt ∧ (u.2.2.2).toInt ≤ 99999))) := by
  unfold FX4_scanNumber_98
  exact sFX4_scanNumber_99 n hn v_length v_place a_bytes v_next v_type v_number (0 : Int32) i0 i1 i2 i3 i4 i5 c_dig
set_option maxHeartbeats 2000000 in
theorem sFX4_scanNumber_68 (n : Nat) (hn : n = 2200000000) (v_length : Int32) (v_place : Int32) (a_bytes : Nat → Int32) (v_next : Int32) (v_type : Int32) (v_number : Int32) (i0 : 0 ≤ (v_length).toInt) (i1 : (v_length).toInt ≤ 1200) (i2 : 0 ≤ (v_next).toInt) (i3 : (v_next).toInt ≤ (v_length).toInt) (i4 : 0 ≤ (v_place).toInt) (i5 : (v_place).toInt ≤ (v_next).toInt) (c_dig : ((v_next).toInt - (v_place).toInt = 0 ∧ (v_number).toInt = 0) ∨ ((v_next).toInt - (v_place).toInt = 1 ∧ 0 ≤ (v_number).toInt ∧ (v_number).toInt ≤ 9) ∨ ((v_next).toInt - (v_place).toInt = 2 ∧ 0 ≤ (v_number).toInt ∧ (v_number).toInt ≤ 99) ∨ ((v_next).toInt - (v_place).toInt = 3 ∧ 0 ≤ (v_number).toInt ∧ (v_number).toInt ≤ 999) ∨ ((v_next).toInt - (v_place).toInt = 4 ∧ 0 ≤ (v_number).toInt ∧ (v_number).toInt ≤ 9999) ∨ ((v_next).toInt - (v_place).toInt = 5 ∧ 0 ≤ (v_number).toInt ∧ (v_number).toInt ≤ 99999) ∨ 6 ≤ (v_next).toInt - (v_place).toInt) : OK (FX4_scanNumber_68 n v_length v_place a_bytes v_next v_type v_number) (fun u => (0 ≤ (u.2.1).toInt) ∧ ((u.2.1).toInt ≤ (v_length).toInt) ∧ ((u.2.2.1).toInt = 8 → (0 ≤ (u.2.2.2).toInt ∧ (u.2.2.2).toInt ≤ 99999))) := by
  unfold FX4_scanNumber_68
  refine OK_if (fun c645 => ?_) (fun c645 => ?_)
  · have f646 := le32k rfl rfl c645
    exact sFX4_scanNumber_98 n hn v_length v_place a_bytes v_next v_type v_number i0 i1 i2 i3 i4 i5 c_dig
  · have f647 := nle32k rfl rfl c645
    refine OK_ck (ckV rfl (by omega) (by omega)) ?_
    refine OK_bd (sX4_isLetter n hn (a_bytes ((v_next).toNatClampNeg))) (fun u_12 p_u_12 => ?_)
    refine OK_if (fun c648 => ?_) (fun c648 => ?_)
    · have v649 : HQ ((0 : Int32)).toInt 0 := HQ.mk (by decide)
      have f650 := eq32k rfl v649.out c648
      exact sFX4_scanNumber_98 n hn v_length v_place a_bytes v_next v_type v_number i0 i1 i2 i3 i4 i5 c_dig
    · have v651 : HQ ((0 : Int32)).toInt 0 := HQ.mk (by decide)
      have f652 := neq32k rfl v651.out c648
      exact sFX4_scanNumber_99 n hn v_length v_place a_bytes v_next v_type v_number (1 : Int32) i0 i1 i2 i3 i4 i5 c_dig
set_option maxHeartbeats 2000000 in
theorem sFX4_scanNumber_5 (n : Nat) (hn : n = 2200000000) (v_length : Int32) (v_place : Int32) (a_bytes : Nat → Int32) (k5 : Int32 → Int32 → Int32 → Option (Unit × Int32 × Int32 × Int32)) (mB5 : Nat) (hk5 : ∀ (v_next : Int32) (v_type : Int32) (v_number : Int32), (0 ≤ (v_length).toInt) → ((v_length).toInt ≤ 1200) → (0 ≤ (v_next).toInt) → ((v_next).toInt ≤ (v_length).toInt) → (0 ≤ (v_place).toInt) → ((v_place).toInt ≤ (v_next).toInt) → (((v_next).toInt - (v_place).toInt = 0 ∧ (v_number).toInt = 0) ∨ ((v_next).toInt - (v_place).toInt = 1 ∧ 0 ≤ (v_number).toInt ∧ (v_number).toInt ≤ 9) ∨ ((v_next).toInt - (v_place).toInt = 2 ∧ 0 ≤ (v_number).toInt ∧ (v_number).toInt ≤ 99) ∨ ((v_next).toInt - (v_place).toInt = 3 ∧ 0 ≤ (v_number).toInt ∧ (v_number).toInt ≤ 999) ∨ ((v_next).toInt - (v_place).toInt = 4 ∧ 0 ≤ (v_number).toInt ∧ (v_number).toInt ≤ 9999) ∨ ((v_next).toInt - (v_place).toInt = 5 ∧ 0 ≤ (v_number).toInt ∧ (v_number).toInt ≤ 99999) ∨ 6 ≤ (v_next).toInt - (v_place).toInt) → ((v_length).toInt - (v_next).toInt).toNat < mB5 → OK (k5 v_next v_type v_number) (fun u => (0 ≤ (u.2.1).toInt) ∧ ((u.2.1).toInt ≤ (v_length).toInt) ∧ ((u.2.2.1).toInt = 8 → (0 ≤ (u.2.2.2).toInt ∧ (u.2.2.2).toInt ≤ 99999)))) (v_next : Int32) (v_type : Int32) (v_number : Int32) (i0 : 0 ≤ (v_length).toInt) (i1 : (v_length).toInt ≤ 1200) (i2 : 0 ≤ (v_next).toInt) (i3 : (v_next).toInt ≤ (v_length).toInt) (i4 : 0 ≤ (v_place).toInt) (i5 : (v_place).toInt ≤ (v_next).toInt) (c_dig : ((v_next).toInt - (v_place).toInt = 0 ∧ (v_number).toInt = 0) ∨ ((v_next).toInt - (v_place).toInt = 1 ∧ 0 ≤ (v_number).toInt ∧ (v_number).toInt ≤ 9) ∨ ((v_next).toInt - (v_place).toInt = 2 ∧ 0 ≤ (v_number).toInt ∧ (v_number).toInt ≤ 99) ∨ ((v_next).toInt - (v_place).toInt = 3 ∧ 0 ≤ (v_number).toInt ∧ (v_number).toInt ≤ 999) ∨ ((v_next).toInt - (v_place).toInt = 4 ∧ 0 ≤ (v_number).toInt ∧ (v_number).toInt ≤ 9999) ∨ ((v_next).toInt - (v_place).toInt = 5 ∧ 0 ≤ (v_number).toInt ∧ (v_number).toInt ≤ 99999) ∨ 6 ≤ (v_next).toInt - (v_place).toInt) (hmu : ((v_length).toInt - (v_next).toInt).toNat ≤ mB5) : OK (FX4_scanNumber_5 n v_length v_place a_bytes k5 v_next v_type v_number) (fun u => (0 ≤ (u.2.1).toInt) ∧ ((u.2.1).toInt ≤ (v_length).toInt) ∧ ((u.2.2.1).toInt = 8 → (0 ≤ (u.2.2.2).toInt ∧ (u.2.2.2).toInt ≤ 99999))) := by
  unfold FX4_scanNumber_5
  refine OK_if (fun c653 => ?_) (fun c653 => ?_)
  · have f654 := le32k rfl rfl c653
    exact sFX4_scanNumber_68 n hn v_length v_place a_bytes v_next v_type v_number i0 i1 i2 i3 i4 i5 c_dig
  · have f655 := nle32k rfl rfl c653
    refine OK_ck (ckV rfl (by omega) (by omega)) ?_
    refine OK_bd (sX4_isDigit n hn (a_bytes ((v_next).toNatClampNeg))) (fun u_4 p_u_4 => ?_)
    have p656 := p_u_4
    clear p_u_4
    obtain ⟨m657, v658, f659⟩ := tnV (e := v_next) rfl (by omega)
    have v660 : HQ ((a_bytes ((v_next).toNatClampNeg))).toInt (a_bytes m657).toInt := HQ.mk (by rw [v658.out])
    try simp only [v660.out] at p656
    refine OK_if (fun c661 => ?_) (fun c661 => ?_)
    · have v662 : HQ ((0 : Int32)).toInt 0 := HQ.mk (by decide)
      have f663 := eq32k rfl v662.out c661
      exact sFX4_scanNumber_68 n hn v_length v_place a_bytes v_next v_type v_number i0 i1 i2 i3 i4 i5 c_dig
    · have v664 : HQ ((0 : Int32)).toInt 0 := HQ.mk (by decide)
      have f665 := neq32k rfl v664.out c661
      refine OK_ck (ckV rfl (by omega) (by omega)) ?_
      obtain ⟨y666, v667, f668⟩ := digV (a := v_number) (b := (a_bytes ((v_next).toNatClampNeg))) rfl v660.out
      refine OK_lt (fun x_7 e_x_7 => ?_)
      have f669 : (x_7).toInt = y666 := by rw [e_x_7]; exact v667.out
      have v670 : HQ ((1 : Int32)).toInt 1 := HQ.mk (by decide)
      have v671 : HQ ((v_next + (1 : Int32))).toInt ((v_next).toInt + 1) := HQ.mk (addV rfl v670.out (by omega) (by omega))
      refine OK_lt (fun x_8 e_x_8 => ?_)
      have f672 : (x_8).toInt = ((v_next).toInt + 1) := by rw [e_x_8]; exact v671.out
      exact hk5 x_8 v_type x_7 i0 i1 (by omega) (by omega) i4 (by omega) (by rcases c_dig with h | h | h | h | h | h | h <;> first | exact Or.inr (Or.inl (by omega)) | exact Or.inr (Or.inr (Or.inl (by omega))) | exact Or.inr (Or.inr (Or.inr (Or.inl (by omega)))) | exact Or.inr (Or.inr (Or.inr (Or.inr (Or.inl (by omega))))) | exact Or.inr (Or.inr (Or.inr (Or.inr (Or.inr (Or.inl (by omega)))))) | exact Or.inr (Or.inr (Or.inr (Or.inr (Or.inr (Or.inr (by omega))))))) (by omega)
theorem sFX4_scanNumber_5L (n : Nat) (hn : n = 2200000000) (v_length : Int32) (v_place : Int32) (a_bytes : Nat → Int32) : ∀ (j : Nat) (v_next : Int32) (v_type : Int32) (v_number : Int32), (0 ≤ (v_length).toInt) → ((v_length).toInt ≤ 1200) → (0 ≤ (v_next).toInt) → ((v_next).toInt ≤ (v_length).toInt) → (0 ≤ (v_place).toInt) → ((v_place).toInt ≤ (v_next).toInt) → (((v_next).toInt - (v_place).toInt = 0 ∧ (v_number).toInt = 0) ∨ ((v_next).toInt - (v_place).toInt = 1 ∧ 0 ≤ (v_number).toInt ∧ (v_number).toInt ≤ 9) ∨ ((v_next).toInt - (v_place).toInt = 2 ∧ 0 ≤ (v_number).toInt ∧ (v_number).toInt ≤ 99) ∨ ((v_next).toInt - (v_place).toInt = 3 ∧ 0 ≤ (v_number).toInt ∧ (v_number).toInt ≤ 999) ∨ ((v_next).toInt - (v_place).toInt = 4 ∧ 0 ≤ (v_number).toInt ∧ (v_number).toInt ≤ 9999) ∨ ((v_next).toInt - (v_place).toInt = 5 ∧ 0 ≤ (v_number).toInt ∧ (v_number).toInt ≤ 99999) ∨ 6 ≤ (v_next).toInt - (v_place).toInt) → ((v_length).toInt - (v_next).toInt).toNat < j → OK (FX4_scanNumber_5L n v_length v_place a_bytes j v_next v_type v_number) (fun u => (0 ≤ (u.2.1).toInt) ∧ ((u.2.1).toInt ≤ (v_length).toInt) ∧ ((u.2.2.1).toInt = 8 → (0 ≤ (u.2.2.2).toInt ∧ (u.2.2.2).toInt ≤ 99999))) := by
  intro j
  induction j with
  | zero => intro _ _ _ _ _ _ _ _ _ _ hj; exact absurd hj (Nat.not_lt_zero _)
  | succ j ih =>
    intro v_next v_type v_number i0 i1 i2 i3 i4 i5 c_dig hj
    exact sFX4_scanNumber_5 n hn v_length v_place a_bytes (FX4_scanNumber_5L n v_length v_place a_bytes j) (((v_length).toInt - (v_next).toInt).toNat) (fun y0 y1 y2 w0 w1 w2 w3 w4 w5 w6 hlt => ih y0 y1 y2 w0 w1 w2 w3 w4 w5 w6 (by omega)) v_next v_type v_number i0 i1 i2 i3 i4 i5 c_dig (Nat.le_refl _)
set_option maxHeartbeats 2000000 in
theorem sX4_scanNumber (n : Nat) (hn : n = 2200000000) (v_length : Int32) (v_next : Int32) (v_type : Int32) (v_place : Int32) (v_number : Int32) (a_bytes : Nat → Int32) (i0 : 0 ≤ (v_length).toInt) (i1 : (v_length).toInt ≤ 1200) (i2 : 0 ≤ (v_next).toInt) (i3 : (v_next).toInt ≤ (v_length).toInt) (i4 : 0 ≤ (v_place).toInt) (i5 : (v_place).toInt ≤ (v_next).toInt) (i6 : (v_place).toInt = (v_next).toInt) : OK (FX4_scanNumber n v_length v_next v_type v_place v_number a_bytes) (fun u => (0 ≤ (u.2.1).toInt) ∧ ((u.2.1).toInt ≤ (v_length).toInt) ∧ ((u.2.2.1).toInt = 8 → (0 ≤ (u.2.2.2).toInt ∧ (u.2.2.2).toInt ≤ 99999))) := by
  unfold FX4_scanNumber
  have v673 : HQ ((0 : Int32)).toInt 0 := HQ.mk (by decide)
  exact sFX4_scanNumber_5L n hn v_length v_place a_bytes n v_next v_type (0 : Int32) i0 i1 i2 i3 i4 i5 (by (rw [v673.out]) <;> omega) (by omega)
