set_option maxHeartbeats 2000000 in
theorem sFX5_bring_79 (n : Nat) (hn : n = 2200000000) (a_sampled : Nat → Int32) (z1 : Int32) (z2 : Int32) (k49 : Int32 → (Nat → Int32) → (Nat → Int32) → (Nat → Int32) → Int32 → Int32 → Int64 → Int32 → Option (Int32 × Int32 × (Nat → Int32) × (Nat → Int32) × (Nat → Int32))) (mB49 : Nat) (hk49 : ∀ (v_count : Int32) (a_loads : Nat → Int32) (a_ofTowns : Nat → Int32) (a_towns : Nat → Int32) (x1 : Int32) (x3 : Int32) (x4 : Int64) (x6 : Int32), (0 ≤ (v_count).toInt) → ((v_count).toInt ≤ 60) → (0 ≤ (z1).toInt) → ((z1).toInt ≤ 4) → (∀ i : Nat, ((i : Int) < (v_count).toInt) → (0 ≤ (a_towns i).toInt ∧ (a_towns i).toInt ≤ 4)) → ((v_count).toInt < 60) → (0 ≤ (x6).toInt) → ((x6).toInt ≤ 5) → (0 ≤ (x1).toInt) → ((x1).toInt ≤ 4) → (5 - (x6).toInt).toNat < mB49 → OK (k49 v_count a_loads a_ofTowns a_towns x1 x3 x4 x6) (fun u => (0 ≤ (u.2.1).toInt) ∧ ((u.2.1).toInt ≤ 60) ∧ (∀ i : Nat, ((i : Int) < (u.2.1).toInt) → (0 ≤ (u.2.2.2.2 i).toInt ∧ (u.2.2.2.2 i).toInt ≤ 4)))) (v_count : Int32) (a_loads : Nat → Int32) (a_ofTowns : Nat → Int32) (a_towns : Nat → Int32) (x1 : Int32) (x3 : Int32) (x4 : Int64) (x6 : Int32) (y0 : Int32) (i0 : 0 ≤ (v_count).toInt) (i1 : (v_count).toInt ≤ 60) (i2 : 0 ≤ (z1).toInt) (i3 : (z1).toInt ≤ 4) (i4 : ∀ i : Nat, ((i : Int) < (v_count).toInt) → (0 ≤ (a_towns i).toInt ∧ (a_towns i).toInt ≤ 4)) (i5 : (v_count).toInt < 60) (i6 : 0 ≤ (x6).toInt) (i7 : (x6).toInt ≤ 4) (i8 : 0 ≤ (x1).toInt) (i9 : (x1).toInt ≤ 4) (i10 : (5 - (x6).toInt).toNat ≤ mB49) : OK (FX5_bring_79 n a_sampled z1 z2 k49 v_count a_loads a_ofTowns a_towns x1 x3 x4 x6 y0) (fun u => (0 ≤ (u.2.1).toInt) ∧ ((u.2.1).toInt ≤ 60) ∧ (∀ i : Nat, ((i : Int) < (u.2.1).toInt) → (0 ≤ (u.2.2.2.2 i).toInt ∧ (u.2.2.2.2 i).toInt ≤ 4))) := by
  unfold FX5_bring_79
  have v108 : HQ ((5 : Int32)).toInt 5 := HQ.mk (by decide)
  have v109 : HQ ((v_count * (5 : Int32))).toInt ((v_count).toInt * 5) := HQ.mk (mulV rfl v108.out (by omega) (by omega))
  have v110 : HQ (((v_count * (5 : Int32)) + x6)).toInt (((v_count).toInt * 5) + (x6).toInt) := HQ.mk (addV v109.out rfl (by omega) (by omega))
  refine OK_ck (ckV v110.out (by omega) (by omega)) ?_
  obtain ⟨m111, v112, f113⟩ := tnV (e := ((v_count * (5 : Int32)) + x6)) v110.out (by omega)
  refine OK_lt (fun f_16 e_f_16 => ?_)
  rw [v112.out] at e_f_16
  have v114 : HQ ((x1 * (5 : Int32))).toInt ((x1).toInt * 5) := HQ.mk (mulV rfl v108.out (by omega) (by omega))
  have v115 : HQ (((x1 * (5 : Int32)) + x6)).toInt (((x1).toInt * 5) + (x6).toInt) := HQ.mk (addV v114.out rfl (by omega) (by omega))
  refine OK_lt (fun x_17 e_x_17 => ?_)
  have f116 : (x_17).toInt = (((x1).toInt * 5) + (x6).toInt) := by rw [e_x_17]; exact v115.out
  refine OK_ck (ckV rfl (by omega) (by omega)) ?_
  refine OK_lt (fun x_19 e_x_19 => ?_)
  refine OK_ck (ckV rfl (by omega) (by omega)) ?_
  obtain ⟨m117, v118, f119⟩ := tnV (e := x_17) rfl (by omega)
  refine OK_lt (fun f_21 e_f_21 => ?_)
  rw [v118.out] at e_f_21
  have v120 : HQ ((1 : Int32)).toInt 1 := HQ.mk (by decide)
  have v121 : HQ ((x6 + (1 : Int32))).toInt ((x6).toInt + 1) := HQ.mk (addV rfl v120.out (by omega) (by omega))
  refine OK_lt (fun x_22 e_x_22 => ?_)
  have f122 : (x_22).toInt = ((x6).toInt + 1) := by rw [e_x_22]; exact v121.out
  exact hk49 v_count f_16 f_21 a_towns x1 x3 x4 x_22 i0 i1 i2 i3 i4 i5 (by omega) (by omega) i8 i9 (by omega)
set_option maxHeartbeats 2000000 in
theorem sFX5_bring_49 (n : Nat) (hn : n = 2200000000) (a_sampled : Nat → Int32) (z1 : Int32) (z2 : Int32) (k49 : Int32 → (Nat → Int32) → (Nat → Int32) → (Nat → Int32) → Int32 → Int32 → Int64 → Int32 → Option (Int32 × Int32 × (Nat → Int32) × (Nat → Int32) × (Nat → Int32))) (mB49 : Nat) (hk49 : ∀ (v_count : Int32) (a_loads : Nat → Int32) (a_ofTowns : Nat → Int32) (a_towns : Nat → Int32) (x1 : Int32) (x3 : Int32) (x4 : Int64) (x6 : Int32), (0 ≤ (v_count).toInt) → ((v_count).toInt ≤ 60) → (0 ≤ (z1).toInt) → ((z1).toInt ≤ 4) → (∀ i : Nat, ((i : Int) < (v_count).toInt) → (0 ≤ (a_towns i).toInt ∧ (a_towns i).toInt ≤ 4)) → ((v_count).toInt < 60) → (0 ≤ (x6).toInt) → ((x6).toInt ≤ 5) → (0 ≤ (x1).toInt) → ((x1).toInt ≤ 4) → (5 - (x6).toInt).toNat < mB49 → OK (k49 v_count a_loads a_ofTowns a_towns x1 x3 x4 x6) (fun u => (0 ≤ (u.2.1).toInt) ∧ ((u.2.1).toInt ≤ 60) ∧ (∀ i : Nat, ((i : Int) < (u.2.1).toInt) → (0 ≤ (u.2.2.2.2 i).toInt ∧ (u.2.2.2.2 i).toInt ≤ 4)))) (v_count : Int32) (a_loads : Nat → Int32) (a_ofTowns : Nat → Int32) (a_towns : Nat → Int32) (x1 : Int32) (x3 : Int32) (x4 : Int64) (x6 : Int32) (i0 : 0 ≤ (v_count).toInt) (i1 : (v_count).toInt ≤ 60) (i2 : 0 ≤ (z1).toInt) (i3 : (z1).toInt ≤ 4) (i4 : ∀ i : Nat, ((i : Int) < (v_count).toInt) → (0 ≤ (a_towns i).toInt ∧ (a_towns i).toInt ≤ 4)) (i5 : (v_count).toInt < 60) (i6 : 0 ≤ (x6).toInt) (i7 : (x6).toInt ≤ 5) (i8 : 0 ≤ (x1).toInt) (i9 : (x1).toInt ≤ 4) (hmu : (5 - (x6).toInt).toNat ≤ mB49) : OK (FX5_bring_49 n a_sampled z1 z2 k49 v_count a_loads a_ofTowns a_towns x1 x3 x4 x6) (fun u => (0 ≤ (u.2.1).toInt) ∧ ((u.2.1).toInt ≤ 60) ∧ (∀ i : Nat, ((i : Int) < (u.2.1).toInt) → (0 ≤ (u.2.2.2.2 i).toInt ∧ (u.2.2.2.2 i).toInt ≤ 4))) := by
  unfold FX5_bring_49
  refine OK_if (fun c123 => ?_) (fun c123 => ?_)
  · have v124 : HQ ((5 : Int32)).toInt 5 := HQ.mk (by decide)
    have f125 := le32k v124.out rfl c123
    refine OK_ck (ckV rfl (by omega) (by omega)) ?_
    obtain ⟨m126, v127, f128⟩ := tnV (e := v_count) rfl (by omega)
    refine OK_lt (fun f_9 e_f_9 => ?_)
    rw [v127.out] at e_f_9
    have v129 : HQ ((1 : Int32)).toInt 1 := HQ.mk (by decide)
    have v130 : HQ ((v_count + (1 : Int32))).toInt ((v_count).toInt + 1) := HQ.mk (addV rfl v129.out (by omega) (by omega))
    refine OK_lt (fun x_10 e_x_10 => ?_)
    have f131 : (x_10).toInt = ((v_count).toInt + 1) := by rw [e_x_10]; exact v130.out
    exact OK_some (show (0 ≤ (x_10).toInt) ∧ ((x_10).toInt ≤ 60) ∧ (∀ i : Nat, ((i : Int) < (x_10).toInt) → (0 ≤ (f_9 i).toInt ∧ (f_9 i).toInt ≤ 4)) from ⟨(by omega), (by omega), (by
        intro i hi
        have f132 := updW e_f_9 rfl i
        have f133 := i4 i
        omega)⟩)
  · have v134 : HQ ((5 : Int32)).toInt 5 := HQ.mk (by decide)
    have f135 := nle32k v134.out rfl c123
    refine OK_if (fun c136 => ?_) (fun c136 => ?_)
    · have v137 : HQ ((1 : Int32)).toInt 1 := HQ.mk (by decide)
      have f138 := le32k v137.out rfl c136
      refine OK_ck (ckV rfl (by omega) (by omega)) ?_
      have v139 : HQ ((x3).toInt64).toInt (x3).toInt := HQ.mk ((Int32.toInt_toInt64 _).trans rfl)
      refine OK_lt (fun x_13 e_x_13 => ?_)
      have f140 : (x_13).toInt = (x3).toInt := by rw [e_x_13]; exact v139.out
      refine OK_ck (neV64 rfl (by omega)) ?_
      exact sFX5_bring_79 n hn a_sampled z1 z2 k49 mB49 hk49 v_count a_loads a_ofTowns a_towns x1 x3 x4 x6 ((((x4 * ((a_sampled ((x6).toNatClampNeg))).toInt64) / x_13)).toInt32) i0 i1 i2 i3 i4 i5 i6 (by omega) i8 i9 (by omega)
    · have v141 : HQ ((1 : Int32)).toInt 1 := HQ.mk (by decide)
      have f142 := nle32k v141.out rfl c136
      exact sFX5_bring_79 n hn a_sampled z1 z2 k49 mB49 hk49 v_count a_loads a_ofTowns a_towns x1 x3 x4 x6 (0 : Int32) i0 i1 i2 i3 i4 i5 i6 (by omega) i8 i9 (by omega)
theorem sFX5_bring_49L (n : Nat) (hn : n = 2200000000) (a_sampled : Nat → Int32) (z1 : Int32) (z2 : Int32) : ∀ (j : Nat) (v_count : Int32) (a_loads : Nat → Int32) (a_ofTowns : Nat → Int32) (a_towns : Nat → Int32) (x1 : Int32) (x3 : Int32) (x4 : Int64) (x6 : Int32), (0 ≤ (v_count).toInt) → ((v_count).toInt ≤ 60) → (0 ≤ (z1).toInt) → ((z1).toInt ≤ 4) → (∀ i : Nat, ((i : Int) < (v_count).toInt) → (0 ≤ (a_towns i).toInt ∧ (a_towns i).toInt ≤ 4)) → ((v_count).toInt < 60) → (0 ≤ (x6).toInt) → ((x6).toInt ≤ 5) → (0 ≤ (x1).toInt) → ((x1).toInt ≤ 4) → (5 - (x6).toInt).toNat < j → OK (FX5_bring_49L n a_sampled z1 z2 j v_count a_loads a_ofTowns a_towns x1 x3 x4 x6) (fun u => (0 ≤ (u.2.1).toInt) ∧ ((u.2.1).toInt ≤ 60) ∧ (∀ i : Nat, ((i : Int) < (u.2.1).toInt) → (0 ≤ (u.2.2.2.2 i).toInt ∧ (u.2.2.2.2 i).toInt ≤ 4))) := by
  intro j
  induction j with
  | zero => intro _ _ _ _ _ _ _ _ _ _ _ _ _ _ _ _ _ _ hj; exact absurd hj (Nat.not_lt_zero _)
  | succ j ih =>
    intro v_count a_loads a_ofTowns a_towns x1 x3 x4 x6 i0 i1 i2 i3 i4 i5 i6 i7 i8 i9 hj
    exact sFX5_bring_49 n hn a_sampled z1 z2 (FX5_bring_49L n a_sampled z1 z2 j) ((5 - (x6).toInt).toNat) (fun y0 y1 y2 y3 y4 y5 y6 y7 w0 w1 w2 w3 w4 w5 w6 w7 w8 w9 hlt => ih y0 y1 y2 y3 y4 y5 y6 y7 w0 w1 w2 w3 w4 w5 w6 w7 w8 w9 (by omega)) v_count a_loads a_ofTowns a_towns x1 x3 x4 x6 i0 i1 i2 i3 i4 i5 i6 i7 i8 i9 (Nat.le_refl _)
set_option maxHeartbeats 2000000 in
theorem sFX5_bring_16 (n : Nat) (hn : n = 2200000000) (a_sampled : Nat → Int32) (z1 : Int32) (z2 : Int32) (k16 : Int32 → (Nat → Int32) → (Nat → Int32) → (Nat → Int32) → Int32 → Int32 → Int32 → Int32 → Option (Int32 × Int32 × (Nat → Int32) × (Nat → Int32) × (Nat → Int32))) (mB16 : Nat) (hk16 : ∀ (v_count : Int32) (a_loads : Nat → Int32) (a_ofTowns : Nat → Int32) (a_towns : Nat → Int32) (x1 : Int32) (x2 : Int32) (x3 : Int32) (x4 : Int32), (0 ≤ (v_count).toInt) → ((v_count).toInt ≤ 60) → (0 ≤ (z1).toInt) → ((z1).toInt ≤ 4) → (∀ i : Nat, ((i : Int) < (v_count).toInt) → (0 ≤ (a_towns i).toInt ∧ (a_towns i).toInt ≤ 4)) → ((v_count).toInt < 60) → (0 ≤ (x4).toInt) → ((x4).toInt ≤ 5) → (0 ≤ (x1).toInt) → ((x1).toInt ≤ 4) → (5 - (x4).toInt).toNat < mB16 → OK (k16 v_count a_loads a_ofTowns a_towns x1 x2 x3 x4) (fun u => (0 ≤ (u.2.1).toInt) ∧ ((u.2.1).toInt ≤ 60) ∧ (∀ i : Nat, ((i : Int) < (u.2.1).toInt) → (0 ≤ (u.2.2.2.2 i).toInt ∧ (u.2.2.2.2 i).toInt ≤ 4)))) (v_count : Int32) (a_loads : Nat → Int32) (a_ofTowns : Nat → Int32) (a_towns : Nat → Int32) (x1 : Int32) (x2 : Int32) (x3 : Int32) (x4 : Int32) (i0 : 0 ≤ (v_count).toInt) (i1 : (v_count).toInt ≤ 60) (i2 : 0 ≤ (z1).toInt) (i3 : (z1).toInt ≤ 4) (i4 : ∀ i : Nat, ((i : Int) < (v_count).toInt) → (0 ≤ (a_towns i).toInt ∧ (a_towns i).toInt ≤ 4)) (i5 : (v_count).toInt < 60) (i6 : 0 ≤ (x4).toInt) (i7 : (x4).toInt ≤ 5) (i8 : 0 ≤ (x1).toInt) (i9 : (x1).toInt ≤ 4) (hmu : (5 - (x4).toInt).toNat ≤ mB16) : OK (FX5_bring_16 n a_sampled z1 z2 k16 v_count a_loads a_ofTowns a_towns x1 x2 x3 x4) (fun u => (0 ≤ (u.2.1).toInt) ∧ ((u.2.1).toInt ≤ 60) ∧ (∀ i : Nat, ((i : Int) < (u.2.1).toInt) → (0 ≤ (u.2.2.2.2 i).toInt ∧ (u.2.2.2.2 i).toInt ≤ 4))) := by
  unfold FX5_bring_16
  refine OK_if (fun c143 => ?_) (fun c143 => ?_)
  · have v144 : HQ ((5 : Int32)).toInt 5 := HQ.mk (by decide)
    have f145 := le32k v144.out rfl c143
    refine OK_lt (fun x_3 e_x_3 => ?_)
    have v146 : HQ ((0 : Int32)).toInt 0 := HQ.mk (by decide)
    exact sFX5_bring_49L n hn a_sampled z1 z2 n v_count a_loads a_ofTowns a_towns x1 x3 x_3 (0 : Int32) i0 i1 i2 i3 i4 i5 (by (rw [v146.out]) <;> omega) (by (rw [v146.out]) <;> omega) i8 i9 (by (rw [v146.out]) <;> omega)
  · have v147 : HQ ((5 : Int32)).toInt 5 := HQ.mk (by decide)
    have f148 := nle32k v147.out rfl c143
    refine OK_ck (ckV rfl (by omega) (by omega)) ?_
    refine OK_lt (fun x_5 e_x_5 => ?_)
    have v149 : HQ ((1 : Int32)).toInt 1 := HQ.mk (by decide)
    have v150 : HQ ((x4 + (1 : Int32))).toInt ((x4).toInt + 1) := HQ.mk (addV rfl v149.out (by omega) (by omega))
    refine OK_lt (fun x_6 e_x_6 => ?_)
    have f151 : (x_6).toInt = ((x4).toInt + 1) := by rw [e_x_6]; exact v150.out
    exact hk16 v_count a_loads a_ofTowns a_towns x1 x2 x_5 x_6 i0 i1 i2 i3 i4 i5 (by omega) (by omega) i8 i9 (by omega)
theorem sFX5_bring_16L (n : Nat) (hn : n = 2200000000) (a_sampled : Nat → Int32) (z1 : Int32) (z2 : Int32) : ∀ (j : Nat) (v_count : Int32) (a_loads : Nat → Int32) (a_ofTowns : Nat → Int32) (a_towns : Nat → Int32) (x1 : Int32) (x2 : Int32) (x3 : Int32) (x4 : Int32), (0 ≤ (v_count).toInt) → ((v_count).toInt ≤ 60) → (0 ≤ (z1).toInt) → ((z1).toInt ≤ 4) → (∀ i : Nat, ((i : Int) < (v_count).toInt) → (0 ≤ (a_towns i).toInt ∧ (a_towns i).toInt ≤ 4)) → ((v_count).toInt < 60) → (0 ≤ (x4).toInt) → ((x4).toInt ≤ 5) → (0 ≤ (x1).toInt) → ((x1).toInt ≤ 4) → (5 - (x4).toInt).toNat < j → OK (FX5_bring_16L n a_sampled z1 z2 j v_count a_loads a_ofTowns a_towns x1 x2 x3 x4) (fun u => (0 ≤ (u.2.1).toInt) ∧ ((u.2.1).toInt ≤ 60) ∧ (∀ i : Nat, ((i : Int) < (u.2.1).toInt) → (0 ≤ (u.2.2.2.2 i).toInt ∧ (u.2.2.2.2 i).toInt ≤ 4))) := by
  intro j
  induction j with
  | zero => intro _ _ _ _ _ _ _ _ _ _ _ _ _ _ _ _ _ _ hj; exact absurd hj (Nat.not_lt_zero _)
  | succ j ih =>
    intro v_count a_loads a_ofTowns a_towns x1 x2 x3 x4 i0 i1 i2 i3 i4 i5 i6 i7 i8 i9 hj
    exact sFX5_bring_16 n hn a_sampled z1 z2 (FX5_bring_16L n a_sampled z1 z2 j) ((5 - (x4).toInt).toNat) (fun y0 y1 y2 y3 y4 y5 y6 y7 w0 w1 w2 w3 w4 w5 w6 w7 w8 w9 hlt => ih y0 y1 y2 y3 y4 y5 y6 y7 w0 w1 w2 w3 w4 w5 w6 w7 w8 w9 (by omega)) v_count a_loads a_ofTowns a_towns x1 x2 x3 x4 i0 i1 i2 i3 i4 i5 i6 i7 i8 i9 (Nat.le_refl _)
set_option maxHeartbeats 2000000 in
theorem sX5_bring (n : Nat) (hn : n = 2200000000) (v_count : Int32) (a_sampled : Nat → Int32) (a_loads : Nat → Int32) (a_ofTowns : Nat → Int32) (a_towns : Nat → Int32) (z1 : Int32) (z2 : Int32) (i0 : 0 ≤ (v_count).toInt) (i1 : (v_count).toInt ≤ 60) (i2 : 0 ≤ (z1).toInt) (i3 : (z1).toInt ≤ 4) (i4 : ∀ i : Nat, ((i : Int) < (v_count).toInt) → (0 ≤ (a_towns i).toInt ∧ (a_towns i).toInt ≤ 4)) : OK (FX5_bring n v_count a_sampled a_loads a_ofTowns a_towns z1 z2) (fun u => (0 ≤ (u.2.1).toInt) ∧ ((u.2.1).toInt ≤ 60) ∧ (∀ i : Nat, ((i : Int) < (u.2.1).toInt) → (0 ≤ (u.2.2.2.2 i).toInt ∧ (u.2.2.2.2 i).toInt ≤ 4))) := by
  unfold FX5_bring
  refine OK_if (fun c152 => ?_) (fun c152 => ?_)
  · have v153 : HQ ((60 : Int32)).toInt 60 := HQ.mk (by decide)
    have f154 := lt32k rfl v153.out c152
    have v155 : HQ ((0 : Int32)).toInt 0 := HQ.mk (by decide)
    exact sFX5_bring_16L n hn a_sampled z1 z2 n v_count a_loads a_ofTowns a_towns z1 z2 (0 : Int32) (0 : Int32) i0 i1 i2 i3 i4 (by omega) (by (rw [v155.out]) <;> omega) (by (rw [v155.out]) <;> omega) i2 i3 (by (rw [v155.out]) <;> omega)
  · have v156 : HQ ((60 : Int32)).toInt 60 := HQ.mk (by decide)
    have f157 := nlt32k rfl v156.out c152
    exact OK_some (show (0 ≤ (v_count).toInt) ∧ ((v_count).toInt ≤ 60) ∧ (∀ i : Nat, ((i : Int) < (v_count).toInt) → (0 ≤ (a_towns i).toInt ∧ (a_towns i).toInt ≤ 4)) from ⟨i0, i1, i4⟩)
