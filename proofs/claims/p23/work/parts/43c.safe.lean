set_option maxHeartbeats 2000000 in
theorem sFX4_scanWord_128 (n : Nat) (hn : n = 2200000000) (v_length : Int32) (v_place : Int32) (a_bytes : Nat → Int32) (k93 : Int32 → Int32 → Int64 → Int32 → Option (Unit × Int32 × Int32 × Int64)) (mB93 : Nat) (hk93 : ∀ (v_next : Int32) (v_type : Int32) (v_word : Int64) (x1 : Int32), (0 ≤ (v_length).toInt) → ((v_length).toInt ≤ 1200) → (0 ≤ (v_next).toInt) → ((v_next).toInt ≤ (v_length).toInt) → ((v_type).toInt ≠ 8) → (0 ≤ (x1).toInt) → ((x1).toInt ≤ 7) → (7 - (x1).toInt).toNat < mB93 → OK (k93 v_next v_type v_word x1) (fun u => (0 ≤ (u.2.1).toInt) ∧ ((u.2.1).toInt ≤ (v_length).toInt) ∧ ((u.2.2.1).toInt ≠ 8))) (v_next : Int32) (v_type : Int32) (v_word : Int64) (x1 : Int32) (i0 : 0 ≤ (v_length).toInt) (i1 : (v_length).toInt ≤ 1200) (i2 : 0 ≤ (v_next).toInt) (i3 : (v_next).toInt ≤ (v_length).toInt) (i4 : (v_type).toInt ≠ 8) (i5 : 0 ≤ (x1).toInt) (i6 : (x1).toInt ≤ 6) (i7 : (7 - (x1).toInt).toNat ≤ mB93) : OK (FX4_scanWord_128 n v_length v_place a_bytes k93 v_next v_type v_word x1) (fun u => (0 ≤ (u.2.1).toInt) ∧ ((u.2.1).toInt ≤ (v_length).toInt) ∧ ((u.2.2.1).toInt ≠ 8)) := by
  unfold FX4_scanWord_128
  have v674 : HQ ((1 : Int32)).toInt 1 := HQ.mk (by decide)
  have v675 : HQ ((x1 + (1 : Int32))).toInt ((x1).toInt + 1) := HQ.mk (addV rfl v674.out (by omega) (by omega))
  refine OK_lt (fun x_14 e_x_14 => ?_)
  have f676 : (x_14).toInt = ((x1).toInt + 1) := by rw [e_x_14]; exact v675.out
  exact hk93 v_next v_type v_word x_14 i0 i1 i2 i3 i4 (by omega) (by omega) (by omega)
set_option maxHeartbeats 2000000 in
theorem sFX4_scanWord_93 (n : Nat) (hn : n = 2200000000) (v_length : Int32) (v_place : Int32) (a_bytes : Nat → Int32) (k93 : Int32 → Int32 → Int64 → Int32 → Option (Unit × Int32 × Int32 × Int64)) (mB93 : Nat) (hk93 : ∀ (v_next : Int32) (v_type : Int32) (v_word : Int64) (x1 : Int32), (0 ≤ (v_length).toInt) → ((v_length).toInt ≤ 1200) → (0 ≤ (v_next).toInt) → ((v_next).toInt ≤ (v_length).toInt) → ((v_type).toInt ≠ 8) → (0 ≤ (x1).toInt) → ((x1).toInt ≤ 7) → (7 - (x1).toInt).toNat < mB93 → OK (k93 v_next v_type v_word x1) (fun u => (0 ≤ (u.2.1).toInt) ∧ ((u.2.1).toInt ≤ (v_length).toInt) ∧ ((u.2.2.1).toInt ≠ 8))) (v_next : Int32) (v_type : Int32) (v_word : Int64) (x1 : Int32) (i0 : 0 ≤ (v_length).toInt) (i1 : (v_length).toInt ≤ 1200) (i2 : 0 ≤ (v_next).toInt) (i3 : (v_next).toInt ≤ (v_length).toInt) (i4 : (v_type).toInt ≠ 8) (i5 : 0 ≤ (x1).toInt) (i6 : (x1).toInt ≤ 7) (hmu : (7 - (x1).toInt).toNat ≤ mB93) : OK (FX4_scanWord_93 n v_length v_place a_bytes k93 v_next v_type v_word x1) (fun u => (0 ≤ (u.2.1).toInt) ∧ ((u.2.1).toInt ≤ (v_length).toInt) ∧ ((u.2.2.1).toInt ≠ 8)) := by
  unfold FX4_scanWord_93
  refine OK_if (fun c677 => ?_) (fun c677 => ?_)
  · have v678 : HQ ((7 : Int32)).toInt 7 := HQ.mk (by decide)
    have f679 := le32k v678.out rfl c677
    exact OK_some (show (0 ≤ (v_next).toInt) ∧ ((v_next).toInt ≤ (v_length).toInt) ∧ ((v_type).toInt ≠ 8) from ⟨i2, i3, i4⟩)
  · have v680 : HQ ((7 : Int32)).toInt 7 := HQ.mk (by decide)
    have f681 := nle32k v680.out rfl c677
    refine OK_if (fun c682 => ?_) (fun c682 => ?_)
    · have f683 := eq32k rfl v680.out c682
      refine OK_ck (ckV rfl (by omega) (by omega)) ?_
      refine OK_if (fun c684 => ?_) (fun c684 => ?_)
      · obtain ⟨y685, v686⟩ := HQ.any ((resL ((x1).toNatClampNeg))).toInt
        obtain ⟨y687, v688, f689⟩ := lgV (a := (resL ((x1).toNatClampNeg))) (b := v_word) v686.out rfl
        have v690 : HQ ((0 : Int32)).toInt 0 := HQ.mk (by decide)
        have f691 := eq32k v688.out v690.out c684
        exact sFX4_scanWord_128 n hn v_length v_place a_bytes k93 mB93 hk93 v_next x1 v_word x1 i0 i1 i2 i3 (by omega) i5 (by omega) (by omega)
      · obtain ⟨y692, v693⟩ := HQ.any ((resL ((x1).toNatClampNeg))).toInt
        obtain ⟨y694, v695, f696⟩ := lgV (a := (resL ((x1).toNatClampNeg))) (b := v_word) v693.out rfl
        have v697 : HQ ((0 : Int32)).toInt 0 := HQ.mk (by decide)
        have f698 := neq32k v695.out v697.out c684
        exact sFX4_scanWord_128 n hn v_length v_place a_bytes k93 mB93 hk93 v_next v_type v_word x1 i0 i1 i2 i3 i4 i5 (by omega) (by omega)
    · have f699 := neq32k rfl v680.out c682
      exact OK_some (show (0 ≤ (v_next).toInt) ∧ ((v_next).toInt ≤ (v_length).toInt) ∧ ((v_type).toInt ≠ 8) from ⟨i2, i3, i4⟩)
theorem sFX4_scanWord_93L (n : Nat) (hn : n = 2200000000) (v_length : Int32) (v_place : Int32) (a_bytes : Nat → Int32) : ∀ (j : Nat) (v_next : Int32) (v_type : Int32) (v_word : Int64) (x1 : Int32), (0 ≤ (v_length).toInt) → ((v_length).toInt ≤ 1200) → (0 ≤ (v_next).toInt) → ((v_next).toInt ≤ (v_length).toInt) → ((v_type).toInt ≠ 8) → (0 ≤ (x1).toInt) → ((x1).toInt ≤ 7) → (7 - (x1).toInt).toNat < j → OK (FX4_scanWord_93L n v_length v_place a_bytes j v_next v_type v_word x1) (fun u => (0 ≤ (u.2.1).toInt) ∧ ((u.2.1).toInt ≤ (v_length).toInt) ∧ ((u.2.2.1).toInt ≠ 8)) := by
  intro j
  induction j with
  | zero => intro _ _ _ _ _ _ _ _ _ _ _ hj; exact absurd hj (Nat.not_lt_zero _)
  | succ j ih =>
    intro v_next v_type v_word x1 i0 i1 i2 i3 i4 i5 i6 hj
    exact sFX4_scanWord_93 n hn v_length v_place a_bytes (FX4_scanWord_93L n v_length v_place a_bytes j) ((7 - (x1).toInt).toNat) (fun y0 y1 y2 y3 w0 w1 w2 w3 w4 w5 w6 hlt => ih y0 y1 y2 y3 w0 w1 w2 w3 w4 w5 w6 (by omega)) v_next v_type v_word x1 i0 i1 i2 i3 i4 i5 i6 (Nat.le_refl _)
set_option maxHeartbeats 2000000 in
theorem sFX4_scanWord_88 (n : Nat) (hn : n = 2200000000) (v_length : Int32) (v_place : Int32) (a_bytes : Nat → Int32) (v_next : Int32) (v_type : Int32) (v_word : Int64) (y0 : Int32) (i0 : 0 ≤ (v_length).toInt) (i1 : (v_length).toInt ≤ 1200) (i2 : 0 ≤ (v_next).toInt) (i3 : (v_next).toInt ≤ (v_length).toInt) (i4 : (y0).toInt ≠ 8) : OK (FX4_scanWord_88 n v_length v_place a_bytes v_next v_type v_word y0) (fun u => (0 ≤ (u.2.1).toInt) ∧ ((u.2.1).toInt ≤ (v_length).toInt) ∧ ((u.2.2.1).toInt ≠ 8)) := by
  unfold FX4_scanWord_88
  have v700 : HQ ((0 : Int32)).toInt 0 := HQ.mk (by decide)
  exact sFX4_scanWord_93L n hn v_length v_place a_bytes n v_next y0 v_word (0 : Int32) i0 i1 i2 i3 i4 (by (rw [v700.out]) <;> omega) (by (rw [v700.out]) <;> omega) (by (rw [v700.out]) <;> omega)
set_option maxHeartbeats 2000000 in
theorem sFX4_scanWord_66 (n : Nat) (hn : n = 2200000000) (v_length : Int32) (v_place : Int32) (a_bytes : Nat → Int32) (v_next : Int32) (v_type : Int32) (v_word : Int64) (i0 : 0 ≤ (v_length).toInt) (i1 : (v_length).toInt ≤ 1200) (i2 : 0 ≤ (v_next).toInt) (i3 : (v_next).toInt ≤ (v_length).toInt) : OK (FX4_scanWord_66 n v_length v_place a_bytes v_next v_type v_word) (fun u => (0 ≤ (u.2.1).toInt) ∧ ((u.2.1).toInt ≤ (v_length).toInt) ∧ ((u.2.2.1).toInt ≠ 8)) := by
  unfold FX4_scanWord_66
  refine OK_if (fun c701 => ?_) (fun c701 => ?_)
  · obtain ⟨y702, v703⟩ := HQ.any ((v_next - v_place)).toInt
    have v704 : HQ ((8 : Int32)).toInt 8 := HQ.mk (by decide)
    have f705 := le32k v703.out v704.out c701
    have v706 : HQ ((7 : Int32)).toInt 7 := HQ.mk (by decide)
    exact sFX4_scanWord_88 n hn v_length v_place a_bytes v_next v_type v_word (7 : Int32) i0 i1 i2 i3 (by (rw [v706.out]) <;> omega)
  · obtain ⟨y707, v708⟩ := HQ.any ((v_next - v_place)).toInt
    have v709 : HQ ((8 : Int32)).toInt 8 := HQ.mk (by decide)
    have f710 := nle32k v708.out v709.out c701
    have v711 : HQ ((11 : Int32)).toInt 11 := HQ.mk (by decide)
    exact sFX4_scanWord_88 n hn v_length v_place a_bytes v_next v_type v_word (11 : Int32) i0 i1 i2 i3 (by (rw [v711.out]) <;> omega)
set_option maxHeartbeats 2000000 in
theorem sFX4_scanWord_5 (n : Nat) (hn : n = 2200000000) (v_length : Int32) (v_place : Int32) (a_bytes : Nat → Int32) (k5 : Int32 → Int32 → Int64 → Option (Unit × Int32 × Int32 × Int64)) (mB5 : Nat) (hk5 : ∀ (v_next : Int32) (v_type : Int32) (v_word : Int64), (0 ≤ (v_length).toInt) → ((v_length).toInt ≤ 1200) → (0 ≤ (v_next).toInt) → ((v_next).toInt ≤ (v_length).toInt) → ((v_length).toInt - (v_next).toInt).toNat < mB5 → OK (k5 v_next v_type v_word) (fun u => (0 ≤ (u.2.1).toInt) ∧ ((u.2.1).toInt ≤ (v_length).toInt) ∧ ((u.2.2.1).toInt ≠ 8))) (v_next : Int32) (v_type : Int32) (v_word : Int64) (i0 : 0 ≤ (v_length).toInt) (i1 : (v_length).toInt ≤ 1200) (i2 : 0 ≤ (v_next).toInt) (i3 : (v_next).toInt ≤ (v_length).toInt) (hmu : ((v_length).toInt - (v_next).toInt).toNat ≤ mB5) : OK (FX4_scanWord_5 n v_length v_place a_bytes k5 v_next v_type v_word) (fun u => (0 ≤ (u.2.1).toInt) ∧ ((u.2.1).toInt ≤ (v_length).toInt) ∧ ((u.2.2.1).toInt ≠ 8)) := by
  unfold FX4_scanWord_5
  refine OK_if (fun c712 => ?_) (fun c712 => ?_)
  · have f713 := le32k rfl rfl c712
    exact sFX4_scanWord_66 n hn v_length v_place a_bytes v_next v_type v_word i0 i1 i2 i3
  · have f714 := nle32k rfl rfl c712
    refine OK_ck (ckV rfl (by omega) (by omega)) ?_
    refine OK_bd (sX4_isLetter n hn (a_bytes ((v_next).toNatClampNeg))) (fun u_4 p_u_4 => ?_)
    refine OK_if (fun c715 => ?_) (fun c715 => ?_)
    · have v716 : HQ ((0 : Int32)).toInt 0 := HQ.mk (by decide)
      have f717 := eq32k rfl v716.out c715
      exact sFX4_scanWord_66 n hn v_length v_place a_bytes v_next v_type v_word i0 i1 i2 i3
    · have v718 : HQ ((0 : Int32)).toInt 0 := HQ.mk (by decide)
      have f719 := neq32k rfl v718.out c715
      refine OK_ck (ckV rfl (by omega) (by omega)) ?_
      refine OK_lt (fun x_7 e_x_7 => ?_)
      have v720 : HQ ((1 : Int32)).toInt 1 := HQ.mk (by decide)
      have v721 : HQ ((v_next + (1 : Int32))).toInt ((v_next).toInt + 1) := HQ.mk (addV rfl v720.out (by omega) (by omega))
      refine OK_lt (fun x_8 e_x_8 => ?_)
      have f722 : (x_8).toInt = ((v_next).toInt + 1) := by rw [e_x_8]; exact v721.out
      exact hk5 x_8 v_type x_7 i0 i1 (by omega) (by omega) (by omega)
theorem sFX4_scanWord_5L (n : Nat) (hn : n = 2200000000) (v_length : Int32) (v_place : Int32) (a_bytes : Nat → Int32) : ∀ (j : Nat) (v_next : Int32) (v_type : Int32) (v_word : Int64), (0 ≤ (v_length).toInt) → ((v_length).toInt ≤ 1200) → (0 ≤ (v_next).toInt) → ((v_next).toInt ≤ (v_length).toInt) → ((v_length).toInt - (v_next).toInt).toNat < j → OK (FX4_scanWord_5L n v_length v_place a_bytes j v_next v_type v_word) (fun u => (0 ≤ (u.2.1).toInt) ∧ ((u.2.1).toInt ≤ (v_length).toInt) ∧ ((u.2.2.1).toInt ≠ 8)) := by
  intro j
  induction j with
  | zero => intro _ _ _ _ _ _ _ hj; exact absurd hj (Nat.not_lt_zero _)
  | succ j ih =>
    intro v_next v_type v_word i0 i1 i2 i3 hj
    exact sFX4_scanWord_5 n hn v_length v_place a_bytes (FX4_scanWord_5L n v_length v_place a_bytes j) (((v_length).toInt - (v_next).toInt).toNat) (fun y0 y1 y2 w0 w1 w2 w3 hlt => ih y0 y1 y2 w0 w1 w2 w3 (by omega)) v_next v_type v_word i0 i1 i2 i3 (Nat.le_refl _)
set_option maxHeartbeats 2000000 in
theorem sX4_scanWord (n : Nat) (hn : n = 2200000000) (v_length : Int32) (v_next : Int32) (v_type : Int32) (v_place : Int32) (v_word : Int64) (a_bytes : Nat → Int32) (i0 : 0 ≤ (v_length).toInt) (i1 : (v_length).toInt ≤ 1200) (i2 : 0 ≤ (v_next).toInt) (i3 : (v_next).toInt ≤ (v_length).toInt) : OK (FX4_scanWord n v_length v_next v_type v_place v_word a_bytes) (fun u => (0 ≤ (u.2.1).toInt) ∧ ((u.2.1).toInt ≤ (v_length).toInt) ∧ ((u.2.2.1).toInt ≠ 8)) := by
  unfold FX4_scanWord
  exact sFX4_scanWord_5L n hn v_length v_place a_bytes n v_next v_type (0 : Int64) i0 i1 i2 i3 (by omega)
