set_option maxHeartbeats 2000000 in
theorem sFX5_strikeOff_32 (n : Nat) (hn : n = 2200000000) (v_count : Int32) (a_towns : Nat → Int32) (a_loads : Nat → Int32) (z1 : Int32) (k32 : (Nat → Int32) → (Nat → Int32) → Int32 → Int32 → Option (Int32 × (Nat → Int32) × (Nat → Int32))) (mB32 : Nat) (hk32 : ∀ (a_struck : Nat → Int32) (a_ofTowns : Nat → Int32) (x1 : Int32) (x2 : Int32), (0 ≤ (v_count).toInt) → ((v_count).toInt ≤ 60) → (∀ i : Nat, ((i : Int) < (v_count).toInt) → (0 ≤ (a_towns i).toInt ∧ (a_towns i).toInt ≤ 4)) → (0 ≤ (x1).toInt) → ((x1).toInt < (v_count).toInt) → (0 ≤ (x2).toInt) → ((x2).toInt ≤ 5) → (5 - (x2).toInt).toNat < mB32 → OK (k32 a_struck a_ofTowns x1 x2) (fun u => True)) (a_struck : Nat → Int32) (a_ofTowns : Nat → Int32) (x1 : Int32) (x2 : Int32) (i0 : 0 ≤ (v_count).toInt) (i1 : (v_count).toInt ≤ 60) (i2 : ∀ i : Nat, ((i : Int) < (v_count).toInt) → (0 ≤ (a_towns i).toInt ∧ (a_towns i).toInt ≤ 4)) (i3 : 0 ≤ (x1).toInt) (i4 : (x1).toInt < (v_count).toInt) (i5 : 0 ≤ (x2).toInt) (i6 : (x2).toInt ≤ 5) (hmu : (5 - (x2).toInt).toNat ≤ mB32) : OK (FX5_strikeOff_32 n v_count a_towns a_loads z1 k32 a_struck a_ofTowns x1 x2) (fun u => True) := by
  unfold FX5_strikeOff_32
  refine OK_if (fun c158 => ?_) (fun c158 => ?_)
  · have v159 : HQ ((5 : Int32)).toInt 5 := HQ.mk (by decide)
    have f160 := le32k v159.out rfl c158
    exact OK_some trivial
  · have v161 : HQ ((5 : Int32)).toInt 5 := HQ.mk (by decide)
    have f162 := nle32k v161.out rfl c158
    refine OK_ck (ckV rfl (by omega) (by omega)) ?_
    obtain ⟨m163, v164, f165⟩ := tnV (e := x1) rfl (by omega)
    have v166 : HQ ((a_towns ((x1).toNatClampNeg))).toInt (a_towns m163).toInt := HQ.mk (by rw [v164.out])
    have f167 := i2 m163
    have v168 : HQ (((a_towns ((x1).toNatClampNeg)) * (5 : Int32))).toInt ((a_towns m163).toInt * 5) := HQ.mk (mulV v166.out v161.out (by omega) (by omega))
    have v169 : HQ ((((a_towns ((x1).toNatClampNeg)) * (5 : Int32)) + x2)).toInt (((a_towns m163).toInt * 5) + (x2).toInt) := HQ.mk (addV v168.out rfl (by omega) (by omega))
    refine OK_lt (fun x_9 e_x_9 => ?_)
    have f170 : (x_9).toInt = (((a_towns m163).toInt * 5) + (x2).toInt) := by rw [e_x_9]; exact v169.out
    refine OK_ck (ckV rfl (by omega) (by omega)) ?_
    have v171 : HQ ((x1 * (5 : Int32))).toInt ((x1).toInt * 5) := HQ.mk (mulV rfl v161.out (by omega) (by omega))
    have v172 : HQ (((x1 * (5 : Int32)) + x2)).toInt (((x1).toInt * 5) + (x2).toInt) := HQ.mk (addV v171.out rfl (by omega) (by omega))
    refine OK_ck (ckV v172.out (by omega) (by omega)) ?_
    refine OK_lt (fun x_12 e_x_12 => ?_)
    refine OK_ck (ckV rfl (by omega) (by omega)) ?_
    obtain ⟨m173, v174, f175⟩ := tnV (e := x_9) rfl (by omega)
    refine OK_lt (fun f_14 e_f_14 => ?_)
    rw [v174.out] at e_f_14
    have v176 : HQ ((1 : Int32)).toInt 1 := HQ.mk (by decide)
    have v177 : HQ ((x2 + (1 : Int32))).toInt ((x2).toInt + 1) := HQ.mk (addV rfl v176.out (by omega) (by omega))
    refine OK_lt (fun x_15 e_x_15 => ?_)
    have f178 : (x_15).toInt = ((x2).toInt + 1) := by rw [e_x_15]; exact v177.out
    exact hk32 a_struck f_14 x1 x_15 i0 i1 i2 i3 i4 (by omega) (by omega) (by omega)
theorem sFX5_strikeOff_32L (n : Nat) (hn : n = 2200000000) (v_count : Int32) (a_towns : Nat → Int32) (a_loads : Nat → Int32) (z1 : Int32) : ∀ (j : Nat) (a_struck : Nat → Int32) (a_ofTowns : Nat → Int32) (x1 : Int32) (x2 : Int32), (0 ≤ (v_count).toInt) → ((v_count).toInt ≤ 60) → (∀ i : Nat, ((i : Int) < (v_count).toInt) → (0 ≤ (a_towns i).toInt ∧ (a_towns i).toInt ≤ 4)) → (0 ≤ (x1).toInt) → ((x1).toInt < (v_count).toInt) → (0 ≤ (x2).toInt) → ((x2).toInt ≤ 5) → (5 - (x2).toInt).toNat < j → OK (FX5_strikeOff_32L n v_count a_towns a_loads z1 j a_struck a_ofTowns x1 x2) (fun u => True) := by
  intro j
  induction j with
  | zero => intro _ _ _ _ _ _ _ _ _ _ _ hj; exact absurd hj (Nat.not_lt_zero _)
  | succ j ih =>
    intro a_struck a_ofTowns x1 x2 i0 i1 i2 i3 i4 i5 i6 hj
    exact sFX5_strikeOff_32 n hn v_count a_towns a_loads z1 (FX5_strikeOff_32L n v_count a_towns a_loads z1 j) ((5 - (x2).toInt).toNat) (fun y0 y1 y2 y3 w0 w1 w2 w3 w4 w5 w6 hlt => ih y0 y1 y2 y3 w0 w1 w2 w3 w4 w5 w6 (by omega)) a_struck a_ofTowns x1 x2 i0 i1 i2 i3 i4 i5 i6 (Nat.le_refl _)
set_option maxHeartbeats 2000000 in
theorem sX5_strikeOff (n : Nat) (hn : n = 2200000000) (v_count : Int32) (a_struck : Nat → Int32) (a_ofTowns : Nat → Int32) (a_towns : Nat → Int32) (a_loads : Nat → Int32) (z1 : Int32) (i0 : 0 ≤ (v_count).toInt) (i1 : (v_count).toInt ≤ 60) (i2 : ∀ i : Nat, ((i : Int) < (v_count).toInt) → (0 ≤ (a_towns i).toInt ∧ (a_towns i).toInt ≤ 4)) : OK (FX5_strikeOff n v_count a_struck a_ofTowns a_towns a_loads z1) (fun u => True) := by
  unfold FX5_strikeOff
  refine OK_if (fun c179 => ?_) (fun c179 => ?_)
  · have v180 : HQ ((0 : Int32)).toInt 0 := HQ.mk (by decide)
    have f181 := lt32k rfl v180.out c179
    exact OK_some trivial
  · have v182 : HQ ((0 : Int32)).toInt 0 := HQ.mk (by decide)
    have f183 := nlt32k rfl v182.out c179
    refine OK_if (fun c184 => ?_) (fun c184 => ?_)
    · have f185 := le32k rfl rfl c184
      exact OK_some trivial
    · have f186 := nle32k rfl rfl c184
      refine OK_ck (ckV rfl (by omega) (by omega)) ?_
      refine OK_if (fun c187 => ?_) (fun c187 => ?_)
      · obtain ⟨m188, v189, f190⟩ := tnV (e := z1) rfl (by omega)
        have v191 : HQ ((a_struck ((z1).toNatClampNeg))).toInt (a_struck m188).toInt := HQ.mk (by rw [v189.out])
        have f192 := eq32k v191.out v182.out c187
        refine OK_ck (ckV rfl (by omega) (by omega)) ?_
        obtain ⟨y193, v194⟩ := HQ.any ((vp_nar .boolean (1 : Int32))).toInt
        refine OK_lt (fun f_6 e_f_6 => ?_)
        rw [v189.out] at e_f_6
        exact sFX5_strikeOff_32L n hn v_count a_towns a_loads z1 n f_6 a_ofTowns z1 (0 : Int32) i0 i1 i2 (by omega) (by omega) (by (rw [v182.out]) <;> omega) (by (rw [v182.out]) <;> omega) (by (rw [v182.out]) <;> omega)
      · obtain ⟨m195, v196, f197⟩ := tnV (e := z1) rfl (by omega)
        have v198 : HQ ((a_struck ((z1).toNatClampNeg))).toInt (a_struck m195).toInt := HQ.mk (by rw [v196.out])
        have f199 := neq32k v198.out v182.out c187
        exact OK_some trivial
set_option maxHeartbeats 2000000 in
theorem sFX5_ofAll_5 (n : Nat) (hn : n = 2200000000) (a_ofTowns : Nat → Int32) (z1 : Int32) (k5 : Int32 → Int64 → Int32 → Option (Int64 × Unit)) (mB5 : Nat) (hk5 : ∀ (x1 : Int32) (x2 : Int64) (x4 : Int32), (0 ≤ (z1).toInt) → ((z1).toInt ≤ 4) → (0 ≤ (x4).toInt) → ((x4).toInt ≤ 5) → (0 ≤ (x1).toInt) → ((x1).toInt ≤ 4) → (5 - (x4).toInt).toNat < mB5 → OK (k5 x1 x2 x4) (fun u => True)) (x1 : Int32) (x2 : Int64) (x4 : Int32) (i0 : 0 ≤ (z1).toInt) (i1 : (z1).toInt ≤ 4) (i2 : 0 ≤ (x4).toInt) (i3 : (x4).toInt ≤ 5) (i4 : 0 ≤ (x1).toInt) (i5 : (x1).toInt ≤ 4) (hmu : (5 - (x4).toInt).toNat ≤ mB5) : OK (FX5_ofAll_5 n a_ofTowns z1 k5 x1 x2 x4) (fun u => True) := by
  unfold FX5_ofAll_5
  refine OK_if (fun c200 => ?_) (fun c200 => ?_)
  · have v201 : HQ ((5 : Int32)).toInt 5 := HQ.mk (by decide)
    have f202 := le32k v201.out rfl c200
    exact OK_some trivial
  · have v203 : HQ ((5 : Int32)).toInt 5 := HQ.mk (by decide)
    have f204 := nle32k v203.out rfl c200
    have v205 : HQ ((x4 * (5 : Int32))).toInt ((x4).toInt * 5) := HQ.mk (mulV rfl v203.out (by omega) (by omega))
    have v206 : HQ (((x4 * (5 : Int32)) + x1)).toInt (((x4).toInt * 5) + (x1).toInt) := HQ.mk (addV v205.out rfl (by omega) (by omega))
    refine OK_ck (ckV v206.out (by omega) (by omega)) ?_
    refine OK_lt (fun x_3 e_x_3 => ?_)
    have v207 : HQ ((1 : Int32)).toInt 1 := HQ.mk (by decide)
    have v208 : HQ ((x4 + (1 : Int32))).toInt ((x4).toInt + 1) := HQ.mk (addV rfl v207.out (by omega) (by omega))
    refine OK_lt (fun x_4 e_x_4 => ?_)
    have f209 : (x_4).toInt = ((x4).toInt + 1) := by rw [e_x_4]; exact v208.out
    exact hk5 x1 x_3 x_4 i0 i1 (by omega) (by omega) i4 i5 (by omega)
theorem sFX5_ofAll_5L (n : Nat) (hn : n = 2200000000) (a_ofTowns : Nat → Int32) (z1 : Int32) : ∀ (j : Nat) (x1 : Int32) (x2 : Int64) (x4 : Int32), (0 ≤ (z1).toInt) → ((z1).toInt ≤ 4) → (0 ≤ (x4).toInt) → ((x4).toInt ≤ 5) → (0 ≤ (x1).toInt) → ((x1).toInt ≤ 4) → (5 - (x4).toInt).toNat < j → OK (FX5_ofAll_5L n a_ofTowns z1 j x1 x2 x4) (fun u => True) := by
  intro j
  induction j with
  | zero => intro _ _ _ _ _ _ _ _ _ hj; exact absurd hj (Nat.not_lt_zero _)
  | succ j ih =>
    intro x1 x2 x4 i0 i1 i2 i3 i4 i5 hj
    exact sFX5_ofAll_5 n hn a_ofTowns z1 (FX5_ofAll_5L n a_ofTowns z1 j) ((5 - (x4).toInt).toNat) (fun y0 y1 y2 w0 w1 w2 w3 w4 w5 hlt => ih y0 y1 y2 w0 w1 w2 w3 w4 w5 (by omega)) x1 x2 x4 i0 i1 i2 i3 i4 i5 (Nat.le_refl _)
set_option maxHeartbeats 2000000 in
theorem sX5_ofAll (n : Nat) (hn : n = 2200000000) (a_ofTowns : Nat → Int32) (z1 : Int32) (i0 : 0 ≤ (z1).toInt) (i1 : (z1).toInt ≤ 4) : OK (FX5_ofAll n a_ofTowns z1) (fun u => True) := by
  unfold FX5_ofAll
  have v210 : HQ ((0 : Int32)).toInt 0 := HQ.mk (by decide)
  exact sFX5_ofAll_5L n hn a_ofTowns z1 n z1 (0 : Int64) (0 : Int32) i0 i1 (by (rw [v210.out]) <;> omega) (by (rw [v210.out]) <;> omega) i0 i1 (by (rw [v210.out]) <;> omega)
