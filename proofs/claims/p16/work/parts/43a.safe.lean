set_option maxHeartbeats 2000000 in
theorem sFX4_put_3 (n : Nat) (hn : n = 3000) (z1 : Int32) (k3 : Int32 → (Nat → Int32) → Int32 → Int32 → Option (Unit × Int32 × (Nat → Int32))) (mB3 : Nat) (hk3 : ∀ (v_length : Int32) (a_bytes : Nat → Int32) (x1 : Int32) (x2 : Int32), (0 ≤ (v_length).toInt) → ((v_length).toInt ≤ 1200) → (-8 ≤ (x2).toInt) → ((x2).toInt ≤ 24) → ((x2).toInt + 8).toNat < mB3 → OK (k3 v_length a_bytes x1 x2) (fun u => (0 ≤ (u.2.1).toInt) ∧ ((u.2.1).toInt ≤ 1200))) (v_length : Int32) (a_bytes : Nat → Int32) (x1 : Int32) (x2 : Int32) (i0 : 0 ≤ (v_length).toInt) (i1 : (v_length).toInt ≤ 1200) (i2 : -8 ≤ (x2).toInt) (i3 : (x2).toInt ≤ 24) (hmu : ((x2).toInt + 8).toNat ≤ mB3) : OK (FX4_put_3 n z1 k3 v_length a_bytes x1 x2) (fun u => (0 ≤ (u.2.1).toInt) ∧ ((u.2.1).toInt ≤ 1200)) := by
  unfold FX4_put_3
  refine OK_if (fun c541 => ?_) (fun c541 => ?_)
  · have v542 : HQ ((0 : Int32)).toInt 0 := HQ.mk (by decide)
    have f543 := lt32k rfl v542.out c541
    exact OK_some (show (0 ≤ (v_length).toInt) ∧ ((v_length).toInt ≤ 1200) from ⟨i0, i1⟩)
  · have v544 : HQ ((0 : Int32)).toInt 0 := HQ.mk (by decide)
    have f545 := nlt32k rfl v544.out c541
    refine OK_if (fun c546 => ?_) (fun c546 => ?_)
    · have v547 : HQ ((1200 : Int32)).toInt 1200 := HQ.mk (by decide)
      have f548 := le32k v547.out rfl c546
      exact OK_some (show (0 ≤ (v_length).toInt) ∧ ((v_length).toInt ≤ 1200) from ⟨i0, i1⟩)
    · have v549 : HQ ((1200 : Int32)).toInt 1200 := HQ.mk (by decide)
      have f550 := nle32k v549.out rfl c546
      refine OK_lt (fun x_3 e_x_3 => ?_)
      refine OK_ck (ckV rfl (by omega) (by omega)) ?_
      obtain ⟨m551, v552, f553⟩ := tnV rfl (by omega)
      obtain ⟨y554, v555⟩ := HQ.any ((vp_nar .byte x_3)).toInt
      refine OK_lt (fun f_5 e_f_5 => ?_)
      rw [v552.out] at e_f_5
      have v556 : HQ ((1 : Int32)).toInt 1 := HQ.mk (by decide)
      have v557 : HQ ((v_length + (1 : Int32))).toInt ((v_length).toInt + 1) := HQ.mk (addV rfl v556.out (by omega) (by omega))
      refine OK_lt (fun x_6 e_x_6 => ?_)
      have f558 : (x_6).toInt = ((v_length).toInt + 1) := by rw [e_x_6]; exact v557.out
      have v559 : HQ ((-8 : Int32)).toInt (-8) := HQ.mk (by decide)
      have v560 : HQ ((x2 + (-8 : Int32))).toInt ((x2).toInt + (-8)) := HQ.mk (addV rfl v559.out (by omega) (by omega))
      refine OK_lt (fun x_7 e_x_7 => ?_)
      have f561 : (x_7).toInt = ((x2).toInt + (-8)) := by rw [e_x_7]; exact v560.out
      exact hk3 x_6 f_5 x1 x_7 (by omega) (by omega) (by omega) (by omega) (by omega)
theorem sFX4_put_3L (n : Nat) (hn : n = 3000) (z1 : Int32) : ∀ (j : Nat) (v_length : Int32) (a_bytes : Nat → Int32) (x1 : Int32) (x2 : Int32), (0 ≤ (v_length).toInt) → ((v_length).toInt ≤ 1200) → (-8 ≤ (x2).toInt) → ((x2).toInt ≤ 24) → ((x2).toInt + 8).toNat < j → OK (FX4_put_3L n z1 j v_length a_bytes x1 x2) (fun u => (0 ≤ (u.2.1).toInt) ∧ ((u.2.1).toInt ≤ 1200)) := by
  intro j
  induction j with
  | zero => intro _ _ _ _ _ _ _ _ hj; exact absurd hj (Nat.not_lt_zero _)
  | succ j ih =>
    intro v_length a_bytes x1 x2 i0 i1 i2 i3 hj
    exact sFX4_put_3 n hn z1 (FX4_put_3L n z1 j) (((x2).toInt + 8).toNat) (fun y0 y1 y2 y3 w0 w1 w2 w3 hlt => ih y0 y1 y2 y3 w0 w1 w2 w3 (by omega)) v_length a_bytes x1 x2 i0 i1 i2 i3 (Nat.le_refl _)
set_option maxHeartbeats 2000000 in
theorem sX4_put (n : Nat) (hn : n = 3000) (v_length : Int32) (a_bytes : Nat → Int32) (z1 : Int32) (i0 : 0 ≤ (v_length).toInt) (i1 : (v_length).toInt ≤ 1200) : OK (FX4_put n v_length a_bytes z1) (fun u => (0 ≤ (u.2.1).toInt) ∧ ((u.2.1).toInt ≤ 1200)) := by
  unfold FX4_put
  have v562 : HQ ((24 : Int32)).toInt 24 := HQ.mk (by decide)
  exact sFX4_put_3L n hn z1 n v_length a_bytes z1 (24 : Int32) i0 i1 (by rw [v562.out]; omega) (by rw [v562.out]; omega) (by omega)
set_option maxHeartbeats 2000000 in
theorem sX4_isLetter (n : Nat) (hn : n = 3000) (z0 : Int32) : OK (FX4_isLetter n z0) (fun u => True) := by
  unfold FX4_isLetter
  refine OK_if (fun c563 => ?_) (fun c563 => ?_)
  · have v564 : HQ ((97 : Int32)).toInt 97 := HQ.mk (by decide)
    have f565 := lt32k rfl v564.out c563
    exact OK_some trivial
  · have v566 : HQ ((97 : Int32)).toInt 97 := HQ.mk (by decide)
    have f567 := nlt32k rfl v566.out c563
    refine OK_if (fun c568 => ?_) (fun c568 => ?_)
    · have v569 : HQ ((122 : Int32)).toInt 122 := HQ.mk (by decide)
      have f570 := lt32k v569.out rfl c568
      exact OK_some trivial
    · have v571 : HQ ((122 : Int32)).toInt 122 := HQ.mk (by decide)
      have f572 := nlt32k v571.out rfl c568
      exact OK_some trivial
set_option maxHeartbeats 2000000 in
theorem sX4_isDigit (n : Nat) (hn : n = 3000) (z0 : Int32) : OK (FX4_isDigit n z0) (fun u => ((u.1).toInt = 0 ∨ (48 ≤ (z0).toInt ∧ (z0).toInt ≤ 57))) := by
  unfold FX4_isDigit
  refine OK_if (fun c573 => ?_) (fun c573 => ?_)
  · have v574 : HQ ((48 : Int32)).toInt 48 := HQ.mk (by decide)
    have f575 := lt32k rfl v574.out c573
    have v576 : HQ ((0 : Int32)).toInt 0 := HQ.mk (by decide)
    exact OK_some (show (((0 : Int32)).toInt = 0 ∨ (48 ≤ (z0).toInt ∧ (z0).toInt ≤ 57)) from (by rw [v576.out]; omega))
  · have v577 : HQ ((48 : Int32)).toInt 48 := HQ.mk (by decide)
    have f578 := nlt32k rfl v577.out c573
    refine OK_if (fun c579 => ?_) (fun c579 => ?_)
    · have v580 : HQ ((57 : Int32)).toInt 57 := HQ.mk (by decide)
      have f581 := lt32k v580.out rfl c579
      have v582 : HQ ((0 : Int32)).toInt 0 := HQ.mk (by decide)
      exact OK_some (show (((0 : Int32)).toInt = 0 ∨ (48 ≤ (z0).toInt ∧ (z0).toInt ≤ 57)) from (by rw [v582.out]; omega))
    · have v583 : HQ ((57 : Int32)).toInt 57 := HQ.mk (by decide)
      have f584 := nlt32k v583.out rfl c579
      have v585 : HQ ((1 : Int32)).toInt 1 := HQ.mk (by decide)
      exact OK_some (show (((1 : Int32)).toInt = 0 ∨ (48 ≤ (z0).toInt ∧ (z0).toInt ≤ 57)) from (by rw [v585.out]; omega))
