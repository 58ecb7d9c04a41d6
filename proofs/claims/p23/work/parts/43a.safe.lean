set_option maxHeartbeats 2000000 in
theorem sFX4_put_3 (n : Nat) (hn : n = 2200000000) (z1 : Int32) (k3 : Int32 → (Nat → Int32) → Int32 → Int32 → Option (Unit × Int32 × (Nat → Int32))) (mB3 : Nat) (hk3 : ∀ (v_length : Int32) (a_bytes : Nat → Int32) (x1 : Int32) (x2 : Int32), (0 ≤ (v_length).toInt) → ((v_length).toInt ≤ 1200) → (-8 ≤ (x2).toInt) → ((x2).toInt ≤ 24) → ((x2).toInt + 8).toNat < mB3 → OK (k3 v_length a_bytes x1 x2) (fun u => (0 ≤ (u.2.1).toInt) ∧ ((u.2.1).toInt ≤ 1200))) (v_length : Int32) (a_bytes : Nat → Int32) (x1 : Int32) (x2 : Int32) (i0 : 0 ≤ (v_length).toInt) (i1 : (v_length).toInt ≤ 1200) (i2 : -8 ≤ (x2).toInt) (i3 : (x2).toInt ≤ 24) (hmu : ((x2).toInt + 8).toNat ≤ mB3) : OK (FX4_put_3 n z1 k3 v_length a_bytes x1 x2) (fun u => (0 ≤ (u.2.1).toInt) ∧ ((u.2.1).toInt ≤ 1200)) := by
  unfold FX4_put_3
  refine OK_if (fun c583 => ?_) (fun c583 => ?_)
  · have v584 : HQ ((0 : Int32)).toInt 0 := HQ.mk (by decide)
    have f585 := lt32k rfl v584.out c583
    exact OK_some (show (0 ≤ (v_length).toInt) ∧ ((v_length).toInt ≤ 1200) from ⟨i0, i1⟩)
  · have v586 : HQ ((0 : Int32)).toInt 0 := HQ.mk (by decide)
    have f587 := nlt32k rfl v586.out c583
    refine OK_if (fun c588 => ?_) (fun c588 => ?_)
    · have v589 : HQ ((1200 : Int32)).toInt 1200 := HQ.mk (by decide)
      have f590 := le32k v589.out rfl c588
      exact OK_some (show (0 ≤ (v_length).toInt) ∧ ((v_length).toInt ≤ 1200) from ⟨i0, i1⟩)
    · have v591 : HQ ((1200 : Int32)).toInt 1200 := HQ.mk (by decide)
      have f592 := nle32k v591.out rfl c588
      obtain ⟨y593, v594⟩ := HQ.any (((x1 >>> (x2 &&& 31))).toInt8.toInt32).toInt
      refine OK_lt (fun x_3 e_x_3 => ?_)
      have f595 : (x_3).toInt = y593 := by rw [e_x_3]; exact v594.out
      refine OK_ck (ckV rfl (by omega) (by omega)) ?_
      obtain ⟨m596, v597, f598⟩ := tnV (e := v_length) rfl (by omega)
      obtain ⟨y599, v600⟩ := HQ.any ((vp_nar .byte x_3)).toInt
      refine OK_lt (fun f_5 e_f_5 => ?_)
      rw [v597.out] at e_f_5
      have v601 : HQ ((1 : Int32)).toInt 1 := HQ.mk (by decide)
      have v602 : HQ ((v_length + (1 : Int32))).toInt ((v_length).toInt + 1) := HQ.mk (addV rfl v601.out (by omega) (by omega))
      refine OK_lt (fun x_6 e_x_6 => ?_)
      have f603 : (x_6).toInt = ((v_length).toInt + 1) := by rw [e_x_6]; exact v602.out
      have v604 : HQ ((-8 : Int32)).toInt (-8) := HQ.mk (by decide)
      have v605 : HQ ((x2 + (-8 : Int32))).toInt ((x2).toInt + (-8)) := HQ.mk (addV rfl v604.out (by omega) (by omega))
      refine OK_lt (fun x_7 e_x_7 => ?_)
      have f606 : (x_7).toInt = ((x2).toInt + (-8)) := by rw [e_x_7]; exact v605.out
      exact hk3 x_6 f_5 x1 x_7 (by omega) (by omega) (by omega) (by omega) (by omega)
theorem sFX4_put_3L (n : Nat) (hn : n = 2200000000) (z1 : Int32) : ∀ (j : Nat) (v_length : Int32) (a_bytes : Nat → Int32) (x1 : Int32) (x2 : Int32), (0 ≤ (v_length).toInt) → ((v_length).toInt ≤ 1200) → (-8 ≤ (x2).toInt) → ((x2).toInt ≤ 24) → ((x2).toInt + 8).toNat < j → OK (FX4_put_3L n z1 j v_length a_bytes x1 x2) (fun u => (0 ≤ (u.2.1).toInt) ∧ ((u.2.1).toInt ≤ 1200)) := by
  intro j
  induction j with
  | zero => intro _ _ _ _ _ _ _ _ hj; exact absurd hj (Nat.not_lt_zero _)
  | succ j ih =>
    intro v_length a_bytes x1 x2 i0 i1 i2 i3 hj
    exact sFX4_put_3 n hn z1 (FX4_put_3L n z1 j) (((x2).toInt + 8).toNat) (fun y0 y1 y2 y3 w0 w1 w2 w3 hlt => ih y0 y1 y2 y3 w0 w1 w2 w3 (by omega)) v_length a_bytes x1 x2 i0 i1 i2 i3 (Nat.le_refl _)
set_option maxHeartbeats 2000000 in
theorem sX4_put (n : Nat) (hn : n = 2200000000) (v_length : Int32) (a_bytes : Nat → Int32) (z1 : Int32) (i0 : 0 ≤ (v_length).toInt) (i1 : (v_length).toInt ≤ 1200) : OK (FX4_put n v_length a_bytes z1) (fun u => (0 ≤ (u.2.1).toInt) ∧ ((u.2.1).toInt ≤ 1200)) := by
  unfold FX4_put
  have v607 : HQ ((24 : Int32)).toInt 24 := HQ.mk (by decide)
  exact sFX4_put_3L n hn z1 n v_length a_bytes z1 (24 : Int32) i0 i1 (by (rw [v607.out]) <;> omega) (by (rw [v607.out]) <;> omega) (by (rw [v607.out]) <;> omega)
set_option maxHeartbeats 2000000 in
theorem sX4_isLetter (n : Nat) (hn : n = 2200000000) (z0 : Int32) : OK (FX4_isLetter n z0) (fun u => True) := by
  unfold FX4_isLetter
  refine OK_if (fun c608 => ?_) (fun c608 => ?_)
  · have v609 : HQ ((97 : Int32)).toInt 97 := HQ.mk (by decide)
    have f610 := lt32k rfl v609.out c608
    exact OK_some trivial
  · have v611 : HQ ((97 : Int32)).toInt 97 := HQ.mk (by decide)
    have f612 := nlt32k rfl v611.out c608
    refine OK_if (fun c613 => ?_) (fun c613 => ?_)
    · have v614 : HQ ((122 : Int32)).toInt 122 := HQ.mk (by decide)
      have f615 := lt32k v614.out rfl c613
      exact OK_some trivial
    · have v616 : HQ ((122 : Int32)).toInt 122 := HQ.mk (by decide)
      have f617 := nlt32k v616.out rfl c613
      exact OK_some trivial
set_option maxHeartbeats 2000000 in
theorem sX4_isDigit (n : Nat) (hn : n = 2200000000) (z0 : Int32) : OK (FX4_isDigit n z0) (fun u => ((u.1).toInt = 0 ∨ (48 ≤ (z0).toInt ∧ (z0).toInt ≤ 57))) := by
  unfold FX4_isDigit
  refine OK_if (fun c618 => ?_) (fun c618 => ?_)
  · have v619 : HQ ((48 : Int32)).toInt 48 := HQ.mk (by decide)
    have f620 := lt32k rfl v619.out c618
    have v621 : HQ ((0 : Int32)).toInt 0 := HQ.mk (by decide)
    exact OK_some (show (((0 : Int32)).toInt = 0 ∨ (48 ≤ (z0).toInt ∧ (z0).toInt ≤ 57)) from (by (rw [v621.out]) <;> omega))
  · have v622 : HQ ((48 : Int32)).toInt 48 := HQ.mk (by decide)
    have f623 := nlt32k rfl v622.out c618
    refine OK_if (fun c624 => ?_) (fun c624 => ?_)
    · have v625 : HQ ((57 : Int32)).toInt 57 := HQ.mk (by decide)
      have f626 := lt32k v625.out rfl c624
      have v627 : HQ ((0 : Int32)).toInt 0 := HQ.mk (by decide)
      exact OK_some (show (((0 : Int32)).toInt = 0 ∨ (48 ≤ (z0).toInt ∧ (z0).toInt ≤ 57)) from (by (rw [v627.out]) <;> omega))
    · have v628 : HQ ((57 : Int32)).toInt 57 := HQ.mk (by decide)
      have f629 := nlt32k v628.out rfl c624
      have v630 : HQ ((1 : Int32)).toInt 1 := HQ.mk (by decide)
      exact OK_some (show (((1 : Int32)).toInt = 0 ∨ (48 ≤ (z0).toInt ∧ (z0).toInt ≤ 57)) from (by (rw [v630.out]) <;> omega))
