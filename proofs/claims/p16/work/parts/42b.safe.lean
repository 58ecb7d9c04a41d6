set_option maxHeartbeats 2000000 in
theorem sFX5_bring_79 (n : Nat) (hn : n = 3000) (a_sampled : Nat → Int32) (z1 : Int32) (z2 : Int32) (k49 : Int32 → (Nat → Int32) → (Nat → Int32) → (Nat → Int32) → Int32 → Int32 → Int64 → Int32 → Option (Int32 × Int32 × (Nat → Int32) × (Nat → Int32) × (Nat → Int32))) (mB49 : Nat) (hk49 : ∀ (v_count : Int32) (a_loads : Nat → Int32) (a_ofTowns : Nat → Int32) (a_towns : Nat → Int32) (x1 : Int32) (x3 : Int32) (x4 : Int64) (x6 : Int32), (0 ≤ (v_count).toInt) → ((v_count).toInt ≤ 60) → (0 ≤ (z1).toInt) → ((z1).toInt ≤ 4) → (∀ i : Nat, ((i : Int) < (v_count).toInt) → (0 ≤ (a_towns i).toInt ∧ (a_towns i).toInt ≤ 4)) → ((v_count).toInt < 60) → (0 ≤ (x6).toInt) → ((x6).toInt ≤ 5) → (0 ≤ (x1).toInt) → ((x1).toInt ≤ 4) → (5 - (x6).toInt).toNat < mB49 → OK (k49 v_count a_loads a_ofTowns a_towns x1 x3 x4 x6) (fun u => (0 ≤ (u.2.1).toInt) ∧ ((u.2.1).toInt ≤ 60) ∧ (∀ i : Nat, ((i : Int) < (u.2.1).toInt) → (0 ≤ (u.2.2.2.2 i).toInt ∧ (u.2.2.2.2 i).toInt ≤ 4)))) (v_count : Int32) (a_loads : Nat → Int32) (a_ofTowns : Nat → Int32) (a_towns : Nat → Int32) (x1 : Int32) (x3 : Int32) (x4 : Int64) (x6 : Int32) (y0 : Int32) (i0 : 0 ≤ (v_count).toInt) (i1 : (v_count).toInt ≤ 60) (i2 : 0 ≤ (z1).toInt) (i3 : (z1).toInt ≤ 4) (i4 : ∀ i : Nat, ((i : Int) < (v_count).toInt) → (0 ≤ (a_towns i).toInt ∧ (a_towns i).toInt ≤ 4)) (i5 : (v_count).toInt < 60) (i6 : 0 ≤ (x6).toInt) (i7 : (x6).toInt ≤ 4) (i8 : 0 ≤ (x1).toInt) (i9 : (x1).toInt ≤ 4) (i10 : (5 - (x6).toInt).toNat ≤ mB49) : OK (FX5_bring_79 n a_sampled z1 z2 k49 v_count a_loads a_ofTowns a_towns x1 x3 x4 x6 y0) (fun u => (0 ≤ (u.2.1).toInt) ∧ ((u.2.1).toInt ≤ 60) ∧ (∀ i : Nat, ((i : Int) < (u.2.1).toInt) → (0 ≤ (u.2.2.2.2 i).toInt ∧ (u.2.2.2.2 i).toInt ≤ 4))) := by
  unfold FX5_bring_79
  have v106 : HQ ((5 : Int32)).toInt 5 := HQ.mk (by decide)
  have v107 : HQ ((v_count * (5 : Int32))).toInt ((v_count).toInt * 5) := HQ.mk (mulV rfl v106.out (by omega) (by omega))
  have v108 : HQ (((v_count * (5 : Int32)) + x6)).toInt (((v_count).toInt * 5) + (x6).toInt) := HQ.mk (addV v107.out rfl (by omega) (by omega))
  refine OK_ck (ckV v108.out (by omega) (by omega)) ?_
  obtain ⟨m109, v110, f111⟩ := tnV v108.out (by omega)
  refine OK_lt (fun f_16 e_f_16 => ?_)
  rw [v110.out] at e_f_16
  have v112 : HQ ((x1 * (5 : Int32))).toInt ((x1).toInt * 5) := HQ.mk (mulV rfl v106.out (by omega) (by omega))
  have v113 : HQ (((x1 * (5 : Int32)) + x6)).toInt (((x1).toInt * 5) + (x6).toInt) := HQ.mk (addV v112.out rfl (by omega) (by omega))
  refine OK_lt (fun x_17 e_x_17 => ?_)
  have f114 : (x_17).toInt = (((x1).toInt * 5) + (x6).toInt) := by rw [e_x_17]; exact v113.out
  refine OK_ck (ckV rfl (by omega) (by omega)) ?_
  refine OK_lt (fun x_19 e_x_19 => ?_)
  refine OK_ck (ckV rfl (by omega) (by omega)) ?_
  obtain ⟨m115, v116, f117⟩ := tnV rfl (by omega)
  refine OK_lt (fun f_21 e_f_21 => ?_)
  rw [v116.out] at e_f_21
  have v118 : HQ ((1 : Int32)).toInt 1 := HQ.mk (by decide)
  have v119 : HQ ((x6 + (1 : Int32))).toInt ((x6).toInt + 1) := HQ.mk (addV rfl v118.out (by omega) (by omega))
  refine OK_lt (fun x_22 e_x_22 => ?_)
  have f120 : (x_22).toInt = ((x6).toInt + 1) := by rw [e_x_22]; exact v119.out
  exact hk49 v_count f_16 f_21 a_towns x1 x3 x4 x_22 i0 i1 i2 i3 i4 i5 (by omega) (by omega) i8 i9 (by omega)
set_option maxHeartbeats 2000000 in
theorem sFX5_bring_49 (n : Nat) (hn : n = 3000) (a_sampled : Nat → Int32) (z1 : Int32) (z2 : Int32) (k49 : Int32 → (Nat → Int32) → (Nat → Int32) → (Nat → Int32) → Int32 → Int32 → Int64 → Int32 → Option (Int32 × Int32 × (Nat → Int32) × (Nat → Int32) × (Nat → Int32))) (mB49 : Nat) (hk49 : ∀ (v_count : Int32) (a_loads : Nat → Int32) (a_ofTowns : Nat → Int32) (a_towns : Nat → Int32) (x1 : Int32) (x3 : Int32) (x4 : Int64) (x6 : Int32), (0 ≤ (v_count).toInt) → ((v_count).toInt ≤ 60) → (0 ≤ (z1).toInt) → ((z1).toInt ≤ 4) → (∀ i : Nat, ((i : Int) < (v_count).toInt) → (0 ≤ (a_towns i).toInt ∧ (a_towns i).toInt ≤ 4)) → ((v_count).toInt < 60) → (0 ≤ (x6).toInt) → ((x6).toInt ≤ 5) → (0 ≤ (x1).toInt) → ((x1).toInt ≤ 4) → (5 - (x6).toInt).toNat < mB49 → OK (k49 v_count a_loads a_ofTowns a_towns x1 x3 x4 x6) (fun u => (0 ≤ (u.2.1).toInt) ∧ ((u.2.1).toInt ≤ 60) ∧ (∀ i : Nat, ((i : Int) < (u.2.1).toInt) → (0 ≤ (u.2.2.2.2 i).toInt ∧ (u.2.2.2.2 i).toInt ≤ 4)))) (v_count : Int32) (a_loads : Nat → Int32) (a_ofTowns : Nat → Int32) (a_towns : Nat → Int32) (x1 : Int32) (x3 : Int32) (x4 : Int64) (x6 : Int32) (i0 : 0 ≤ (v_count).toInt) (i1 : (v_count).toInt ≤ 60) (i2 : 0 ≤ (z1).toInt) (i3 : (z1).toInt ≤ 4) (i4 : ∀ i : Nat, ((i : Int) < (v_count).toInt) → (0 ≤ (a_towns i).toInt ∧ (a_towns i).toInt ≤ 4)) (i5 : (v_count).toInt < 60) (i6 : 0 ≤ (x6).toInt) (i7 : (x6).toInt ≤ 5) (i8 : 0 ≤ (x1).toInt) (i9 : (x1).toInt ≤ 4) (hmu : (5 - (x6).toInt).toNat ≤ mB49) : OK (FX5_bring_49 n a_sampled z1 z2 k49 v_count a_loads a_ofTowns a_towns x1 x3 x4 x6) (fun u => (0 ≤ (u.2.1).toInt) ∧ ((u.2.1).toInt ≤ 60) ∧ (∀ i : Nat, ((i : Int) < (u.2.1).toInt) → (0 ≤ (u.2.2.2.2 i).toInt ∧ (u.2.2.2.2 i).toInt ≤ 4))) := by
  unfold FX5_bring_49
  refine OK_if (fun c121 => ?_) (fun c121 => ?_)
  · have v122 : HQ ((5 : Int32)).toInt 5 := HQ.mk (by decide)
    have f123 := le32k v122.out rfl c121
    refine OK_ck (ckV rfl (by omega) (by omega)) ?_
    obtain ⟨m124, v125, f126⟩ := tnV rfl (by omega)
    refine OK_lt (fun f_9 e_f_9 => ?_)
    rw [v125.out] at e_f_9
    have v127 : HQ ((1 : Int32)).toInt 1 := HQ.mk (by decide)
    have v128 : HQ ((v_count + (1 : Int32))).toInt ((v_count).toInt + 1) := HQ.mk (addV rfl v127.out (by omega) (by omega))
    refine OK_lt (fun x_10 e_x_10 => ?_)
    have f129 : (x_10).toInt = ((v_count).toInt + 1) := by rw [e_x_10]; exact v128.out
    exact OK_some (show (0 ≤ (x_10).toInt) ∧ ((x_10).toInt ≤ 60) ∧ (∀ i : Nat, ((i : Int) < (x_10).toInt) → (0 ≤ (f_9 i).toInt ∧ (f_9 i).toInt ≤ 4)) from ⟨(by omega), (by omega), (by
        intro i hi
        have f130 := updV e_f_9 rfl i
        have f131 := i4 i
        omega)⟩)
  · have v132 : HQ ((5 : Int32)).toInt 5 := HQ.mk (by decide)
    have f133 := nle32k v132.out rfl c121
    refine OK_if (fun c134 => ?_) (fun c134 => ?_)
    · have v135 : HQ ((1 : Int32)).toInt 1 := HQ.mk (by decide)
      have f136 := le32k v135.out rfl c134
      refine OK_ck (ckV rfl (by omega) (by omega)) ?_
      refine OK_lt (fun x_13 e_x_13 => ?_)
      refine OK_ck (neV64 rfl (by omega)) ?_
      exact sFX5_bring_79 n hn a_sampled z1 z2 k49 mB49 hk49 v_count a_loads a_ofTowns a_towns x1 x3 x4 x6 ((((x4 * ((a_sampled ((x6).toNatClampNeg))).toInt64) / x_13)).toInt32) i0 i1 i2 i3 i4 i5 i6 (by omega) i8 i9 (by omega)
    · have v137 : HQ ((1 : Int32)).toInt 1 := HQ.mk (by decide)
      have f138 := nle32k v137.out rfl c134
      exact sFX5_bring_79 n hn a_sampled z1 z2 k49 mB49 hk49 v_count a_loads a_ofTowns a_towns x1 x3 x4 x6 (0 : Int32) i0 i1 i2 i3 i4 i5 i6 (by omega) i8 i9 (by omega)
theorem sFX5_bring_49L (n : Nat) (hn : n = 3000) (a_sampled : Nat → Int32) (z1 : Int32) (z2 : Int32) : ∀ (j : Nat) (v_count : Int32) (a_loads : Nat → Int32) (a_ofTowns : Nat → Int32) (a_towns : Nat → Int32) (x1 : Int32) (x3 : Int32) (x4 : Int64) (x6 : Int32), (0 ≤ (v_count).toInt) → ((v_count).toInt ≤ 60) → (0 ≤ (z1).toInt) → ((z1).toInt ≤ 4) → (∀ i : Nat, ((i : Int) < (v_count).toInt) → (0 ≤ (a_towns i).toInt ∧ (a_towns i).toInt ≤ 4)) → ((v_count).toInt < 60) → (0 ≤ (x6).toInt) → ((x6).toInt ≤ 5) → (0 ≤ (x1).toInt) → ((x1).toInt ≤ 4) → (5 - (x6).toInt).toNat < j → OK (FX5_bring_49L n a_sampled z1 z2 j v_count a_loads a_ofTowns a_towns x1 x3 x4 x6) (fun u => (0 ≤ (u.2.1).toInt) ∧ ((u.2.1).toInt ≤ 60) ∧ (∀ i : Nat, ((i : Int) < (u.2.1).toInt) → (0 ≤ (u.2.2.2.2 i).toInt ∧ (u.2.2.2.2 i).toInt ≤ 4))) := by
  intro j
  induction j with
  | zero => intro _ _ _ _ _ _ _ _ _ _ _ _ _ _ _ _ _ _ hj; exact absurd hj (Nat.not_lt_zero _)
  | succ j ih =>
    intro v_count a_loads a_ofTowns a_towns x1 x3 x4 x6 i0 i1 i2 i3 i4 i5 i6 i7 i8 i9 hj
    exact sFX5_bring_49 n hn a_sampled z1 z2 (FX5_bring_49L n a_sampled z1 z2 j) ((5 - (x6).toInt).toNat) (fun y0 y1 y2 y3 y4 y5 y6 y7 w0 w1 w2 w3 w4 w5 w6 w7 w8 w9 hlt => ih y0 y1 y2 y3 y4 y5 y6 y7 w0 w1 w2 w3 w4 w5 w6 w7 w8 w9 (by omega)) v_count a_loads a_ofTowns a_towns x1 x3 x4 x6 i0 i1 i2 i3 i4 i5 i6 i7 i8 i9 (Nat.le_refl _)
set_option maxHeartbeats 2000000 in
theorem sFX5_bring_16 (n : Nat) (hn : n = 3000) (a_sampled : Nat → Int32) (z1 : Int32) (z2 : Int32) (k16 : Int32 → (Nat → Int32) → (Nat → Int32) → (Nat → Int32) → Int32 → Int32 → Int32 → Int32 → Option (Int32 × Int32 × (Nat → Int32) × (Nat → Int32) × (Nat → Int32))) (mB16 : Nat) (hk16 : ∀ (v_count : Int32) (a_loads : Nat → Int32) (a_ofTowns : Nat → Int32) (a_towns : Nat → Int32) (x1 : Int32) (x2 : Int32) (x3 : Int32) (x4 : Int32), (0 ≤ (v_count).toInt) → ((v_count).toInt ≤ 60) → (0 ≤ (z1).toInt) → ((z1).toInt ≤ 4) → (∀ i : Nat, ((i : Int) < (v_count).toInt) → (0 ≤ (a_towns i).toInt ∧ (a_towns i).toInt ≤ 4)) → ((v_count).toInt < 60) → (0 ≤ (x4).toInt) → ((x4).toInt ≤ 5) → (0 ≤ (x1).toInt) → ((x1).toInt ≤ 4) → (5 - (x4).toInt).toNat < mB16 → OK (k16 v_count a_loads a_ofTowns a_towns x1 x2 x3 x4) (fun u => (0 ≤ (u.2.1).toInt) ∧ ((u.2.1).toInt ≤ 60) ∧ (∀ i : Nat, ((i : Int) < (u.2.1).toInt) → (0 ≤ (u.2.2.2.2 i).toInt ∧ (u.2.2.2.2 i).toInt ≤ 4)))) (v_count : Int32) (a_loads : Nat → Int32) (a_ofTowns : Nat → Int32) (a_towns : Nat → Int32) (x1 : Int32) (x2 : Int32) (x3 : Int32) (x4 : Int32) (i0 : 0 ≤ (v_count).toInt) (i1 : (v_count).toInt ≤ 60) (i2 : 0 ≤ (z1).toInt) (i3 : (z1).toInt ≤ 4) (i4 : ∀ i : Nat, ((i : Int) < (v_count).toInt) → (0 ≤ (a_towns i).toInt ∧ (a_towns i).toInt ≤ 4)) (i5 : (v_count).toInt < 60) (i6 : 0 ≤ (x4).toInt) (i7 : (x4).toInt ≤ 5) (i8 : 0 ≤ (x1).toInt) (i9 : (x1).toInt ≤ 4) (hmu : (5 - (x4).toInt).toNat ≤ mB16) : OK (FX5_bring_16 n a_sampled z1 z2 k16 v_count a_loads a_ofTowns a_towns x1 x2 x3 x4) (fun u => (0 ≤ (u.2.1).toInt) ∧ ((u.2.1).toInt ≤ 60) ∧ (∀ i : Nat, ((i : Int) < (u.2.1).toInt) → (0 ≤ (u.2.2.2.2 i).toInt ∧ (u.2.2.2.2 i).toInt ≤ 4))) := by
  unfold FX5_bring_16
  refine OK_if (fun c139 => ?_) (fun c139 => ?_)
  · have v140 : HQ ((5 : Int32)).toInt 5 := HQ.mk (by decide)
    have f141 := le32k v140.out rfl c139
    refine OK_lt (fun x_3 e_x_3 => ?_)
    have v142 : HQ ((0 : Int32)).toInt 0 := HQ.mk (by decide)
    exact sFX5_bring_49L n hn a_sampled z1 z2 n v_count a_loads a_ofTowns a_towns x1 x3 x_3 (0 : Int32) i0 i1 i2 i3 i4 i5 (by rw [v142.out]; omega) (by rw [v142.out]; omega) i8 i9 (by omega)
  · have v143 : HQ ((5 : Int32)).toInt 5 := HQ.mk (by decide)
    have f144 := nle32k v143.out rfl c139
    refine OK_ck (ckV rfl (by omega) (by omega)) ?_
    refine OK_lt (fun x_5 e_x_5 => ?_)
    have v145 : HQ ((1 : Int32)).toInt 1 := HQ.mk (by decide)
    have v146 : HQ ((x4 + (1 : Int32))).toInt ((x4).toInt + 1) := HQ.mk (addV rfl v145.out (by omega) (by omega))
    refine OK_lt (fun x_6 e_x_6 => ?_)
    have f147 : (x_6).toInt = ((x4).toInt + 1) := by rw [e_x_6]; exact v146.out
    exact hk16 v_count a_loads a_ofTowns a_towns x1 x2 x_5 x_6 i0 i1 i2 i3 i4 i5 (by omega) (by omega) i8 i9 (by omega)
theorem sFX5_bring_16L (n : Nat) (hn : n = 3000) (a_sampled : Nat → Int32) (z1 : Int32) (z2 : Int32) : ∀ (j : Nat) (v_count : Int32) (a_loads : Nat → Int32) (a_ofTowns : Nat → Int32) (a_towns : Nat → Int32) (x1 : Int32) (x2 : Int32) (x3 : Int32) (x4 : Int32), (0 ≤ (v_count).toInt) → ((v_count).toInt ≤ 60) → (0 ≤ (z1).toInt) → ((z1).toInt ≤ 4) → (∀ i : Nat, ((i : Int) < (v_count).toInt) → (0 ≤ (a_towns i).toInt ∧ (a_towns i).toInt ≤ 4)) → ((v_count).toInt < 60) → (0 ≤ (x4).toInt) → ((x4).toInt ≤ 5) → (0 ≤ (x1).toInt) → ((x1).toInt ≤ 4) → (5 - (x4).toInt).toNat < j → OK (FX5_bring_16L n a_sampled z1 z2 j v_count a_loads a_ofTowns a_towns x1 x2 x3 x4) (fun u => (0 ≤ (u.2.1).toInt) ∧ ((u.2.1).toInt ≤ 60) ∧ (∀ i : Nat, ((i : Int) < (u.2.1).toInt) → (0 ≤ (u.2.2.2.2 i).toInt ∧ (u.2.2.2.2 i).toInt ≤ 4))) := by
  intro j
  induction j with
  | zero => intro _ _ _ _ _ _ _ _ _ _ _ _ _ _ _ _ _ _ hj; exact absurd hj (Nat.not_lt_zero _)
  | succ j ih =>
    intro v_count a_loads a_ofTowns a_towns x1 x2 x3 x4 i0 i1 i2 i3 i4 i5 i6 i7 i8 i9 hj
    exact sFX5_bring_16 n hn a_sampled z1 z2 (FX5_bring_16L n a_sampled z1 z2 j) ((5 - (x4).toInt).toNat) (fun y0 y1 y2 y3 y4 y5 y6 y7 w0 w1 w2 w3 w4 w5 w6 w7 w8 w9 hlt => ih y0 y1 y2 y3 y4 y5 y6 y7 w0 w1 w2 w3 w4 w5 w6 w7 w8 w9 (by omega)) v_count a_loads a_ofTowns a_towns x1 x2 x3 x4 i0 i1 i2 i3 i4 i5 i6 i7 i8 i9 (Nat.le_refl _)
set_option maxHeartbeats 2000000 in
theorem sX5_bring (n : Nat) (hn : n = 3000) (v_count : Int32) (a_sampled : Nat → Int32) (a_loads : Nat → Int32) (a_ofTowns : Nat → Int32) (a_towns : Nat → Int32) (z1 : Int32) (z2 : Int32) (i0 : 0 ≤ (v_count).toInt) (i1 : (v_count).toInt ≤ 60) (i2 : 0 ≤ (z1).toInt) (i3 : (z1).toInt ≤ 4) (i4 : ∀ i : Nat, ((i : Int) < (v_count).toInt) → (0 ≤ (a_towns i).toInt ∧ (a_towns i).toInt ≤ 4)) : OK (FX5_bring n v_count a_sampled a_loads a_ofTowns a_towns z1 z2) (fun u => (0 ≤ (u.2.1).toInt) ∧ ((u.2.1).toInt ≤ 60) ∧ (∀ i : Nat, ((i : Int) < (u.2.1).toInt) → (0 ≤ (u.2.2.2.2 i).toInt ∧ (u.2.2.2.2 i).toInt ≤ 4))) := by
  unfold FX5_bring
  refine OK_if (fun c148 => ?_) (fun c148 => ?_)
  · have v149 : HQ ((60 : Int32)).toInt 60 := HQ.mk (by decide)
    have f150 := lt32k rfl v149.out c148
    have v151 : HQ ((0 : Int32)).toInt 0 := HQ.mk (by decide)
    exact sFX5_bring_16L n hn a_sampled z1 z2 n v_count a_loads a_ofTowns a_towns z1 z2 (0 : Int32) (0 : Int32) i0 i1 i2 i3 i4 (by omega) (by rw [v151.out]; omega) (by rw [v151.out]; omega) i2 i3 (by omega)
  · have v152 : HQ ((60 : Int32)).toInt 60 := HQ.mk (by decide)
    have f153 := nlt32k rfl v152.out c148
    exact OK_some (show (0 ≤ (v_count).toInt) ∧ ((v_count).toInt ≤ 60) ∧ (∀ i : Nat, ((i : Int) < (v_count).toInt) → (0 ≤ (a_towns i).toInt ∧ (a_towns i).toInt ≤ 4)) from ⟨i0, i1, i4⟩)
