set_option maxHeartbeats 2000000 in
theorem sFX5_strikeOff_32 (n : Nat) (hn : n = 3000) (v_count : Int32) (a_towns : Nat → Int32) (a_loads : Nat → Int32) (z1 : Int32) (k32 : (Nat → Int32) → (Nat → Int32) → Int32 → Int32 → Option (Int32 × (Nat → Int32) × (Nat → Int32))) (mB32 : Nat) (hk32 : ∀ (a_struck : Nat → Int32) (a_ofTowns : Nat → Int32) (x1 : Int32) (x2 : Int32), (0 ≤ (v_count).toInt) → ((v_count).toInt ≤ 60) → (∀ i : Nat, ((i : Int) < (v_count).toInt) → (0 ≤ (a_towns i).toInt ∧ (a_towns i).toInt ≤ 4)) → (0 ≤ (x1).toInt) → ((x1).toInt < (v_count).toInt) → (0 ≤ (x2).toInt) → ((x2).toInt ≤ 5) → (5 - (x2).toInt).toNat < mB32 → OK (k32 a_struck a_ofTowns x1 x2) (fun u => True)) (a_struck : Nat → Int32) (a_ofTowns : Nat → Int32) (x1 : Int32) (x2 : Int32) (i0 : 0 ≤ (v_count).toInt) (i1 : (v_count).toInt ≤ 60) (i2 : ∀ i : Nat, ((i : Int) < (v_count).toInt) → (0 ≤ (a_towns i).toInt ∧ (a_towns i).toInt ≤ 4)) (i3 : 0 ≤ (x1).toInt) (i4 : (x1).toInt < (v_count).toInt) (i5 : 0 ≤ (x2).toInt) (i6 : (x2).toInt ≤ 5) (hmu : (5 - (x2).toInt).toNat ≤ mB32) : OK (FX5_strikeOff_32 n v_count a_towns a_loads z1 k32 a_struck a_ofTowns x1 x2) (fun u => True) := by
  unfold FX5_strikeOff_32
  refine OK_if (fun c154 => ?_) (fun c154 => ?_)
  · have v155 : HQ ((5 : Int32)).toInt 5 := HQ.mk (by decide)
    have f156 := le32k v155.out rfl c154
    exact OK_some trivial
  · have v157 : HQ ((5 : Int32)).toInt 5 := HQ.mk (by decide)
    have f158 := nle32k v157.out rfl c154
    refine OK_ck (ckV rfl (by omega) (by omega)) ?_
    obtain ⟨m159, v160, f161⟩ := tnV rfl (by omega)
    have v162 : HQ ((a_towns ((x1).toNatClampNeg))).toInt (a_towns m159).toInt := HQ.mk (by rw [v160.out])
    have f163 := i2 m159
    have v164 : HQ (((a_towns ((x1).toNatClampNeg)) * (5 : Int32))).toInt ((a_towns m159).toInt * 5) := HQ.mk (mulV v162.out v157.out (by omega) (by omega))
    have v165 : HQ ((((a_towns ((x1).toNatClampNeg)) * (5 : Int32)) + x2)).toInt (((a_towns m159).toInt * 5) + (x2).toInt) := HQ.mk (addV v164.out rfl (by omega) (by omega))
    refine OK_lt (fun x_9 e_x_9 => ?_)
    have f166 : (x_9).toInt = (((a_towns m159).toInt * 5) + (x2).toInt) := by rw [e_x_9]; exact v165.out
    refine OK_ck (ckV rfl (by omega) (by omega)) ?_
    have v167 : HQ ((x1 * (5 : Int32))).toInt ((x1).toInt * 5) := HQ.mk (mulV rfl v157.out (by omega) (by omega))
    have v168 : HQ (((x1 * (5 : Int32)) + x2)).toInt (((x1).toInt * 5) + (x2).toInt) := HQ.mk (addV v167.out rfl (by omega) (by omega))
    refine OK_ck (ckV v168.out (by omega) (by omega)) ?_
    refine OK_lt (fun x_12 e_x_12 => ?_)
    refine OK_ck (ckV rfl (by omega) (by omega)) ?_
    obtain ⟨m169, v170, f171⟩ := tnV rfl (by omega)
    refine OK_lt (fun f_14 e_f_14 => ?_)
    rw [v170.out] at e_f_14
    have v172 : HQ ((1 : Int32)).toInt 1 := HQ.mk (by decide)
    have v173 : HQ ((x2 + (1 : Int32))).toInt ((x2).toInt + 1) := HQ.mk (addV rfl v172.out (by omega) (by omega))
    refine OK_lt (fun x_15 e_x_15 => ?_)
    have f174 : (x_15).toInt = ((x2).toInt + 1) := by rw [e_x_15]; exact v173.out
    exact hk32 a_struck f_14 x1 x_15 i0 i1 i2 i3 i4 (by omega) (by omega) (by omega)
theorem sFX5_strikeOff_32L (n : Nat) (hn : n = 3000) (v_count : Int32) (a_towns : Nat → Int32) (a_loads : Nat → Int32) (z1 : Int32) : ∀ (j : Nat) (a_struck : Nat → Int32) (a_ofTowns : Nat → Int32) (x1 : Int32) (x2 : Int32), (0 ≤ (v_count).toInt) → ((v_count).toInt ≤ 60) → (∀ i : Nat, ((i : Int) < (v_count).toInt) → (0 ≤ (a_towns i).toInt ∧ (a_towns i).toInt ≤ 4)) → (0 ≤ (x1).toInt) → ((x1).toInt < (v_count).toInt) → (0 ≤ (x2).toInt) → ((x2).toInt ≤ 5) → (5 - (x2).toInt).toNat < j → OK (FX5_strikeOff_32L n v_count a_towns a_loads z1 j a_struck a_ofTowns x1 x2) (fun u => True) := by
  intro j
  induction j with
  | zero => intro _ _ _ _ _ _ _ _ _ _ _ hj; exact absurd hj (Nat.not_lt_zero _)
  | succ j ih =>
    intro a_struck a_ofTowns x1 x2 i0 i1 i2 i3 i4 i5 i6 hj
    exact sFX5_strikeOff_32 n hn v_count a_towns a_loads z1 (FX5_strikeOff_32L n v_count a_towns a_loads z1 j) ((5 - (x2).toInt).toNat) (fun y0 y1 y2 y3 w0 w1 w2 w3 w4 w5 w6 hlt => ih y0 y1 y2 y3 w0 w1 w2 w3 w4 w5 w6 (by omega)) a_struck a_ofTowns x1 x2 i0 i1 i2 i3 i4 i5 i6 (Nat.le_refl _)
set_option maxHeartbeats 2000000 in
theorem sX5_strikeOff (n : Nat) (hn : n = 3000) (v_count : Int32) (a_struck : Nat → Int32) (a_ofTowns : Nat → Int32) (a_towns : Nat → Int32) (a_loads : Nat → Int32) (z1 : Int32) (i0 : 0 ≤ (v_count).toInt) (i1 : (v_count).toInt ≤ 60) (i2 : ∀ i : Nat, ((i : Int) < (v_count).toInt) → (0 ≤ (a_towns i).toInt ∧ (a_towns i).toInt ≤ 4)) : OK (FX5_strikeOff n v_count a_struck a_ofTowns a_towns a_loads z1) (fun u => True) := by
  unfold FX5_strikeOff
  refine OK_if (fun c175 => ?_) (fun c175 => ?_)
  · have v176 : HQ ((0 : Int32)).toInt 0 := HQ.mk (by decide)
    have f177 := lt32k rfl v176.out c175
    exact OK_some trivial
  · have v178 : HQ ((0 : Int32)).toInt 0 := HQ.mk (by decide)
    have f179 := nlt32k rfl v178.out c175
    refine OK_if (fun c180 => ?_) (fun c180 => ?_)
    · have f181 := le32k rfl rfl c180
      exact OK_some trivial
    · have f182 := nle32k rfl rfl c180
      refine OK_ck (ckV rfl (by omega) (by omega)) ?_
      refine OK_if (fun c183 => ?_) (fun c183 => ?_)
      · obtain ⟨m184, v185, f186⟩ := tnV rfl (by omega)
        have v187 : HQ ((a_struck ((z1).toNatClampNeg))).toInt (a_struck m184).toInt := HQ.mk (by rw [v185.out])
        have f188 := eq32k v187.out v178.out c183
        refine OK_ck (ckV rfl (by omega) (by omega)) ?_
        obtain ⟨y189, v190⟩ := HQ.any ((vp_nar .boolean (1 : Int32))).toInt
        refine OK_lt (fun f_6 e_f_6 => ?_)
        rw [v185.out] at e_f_6
        exact sFX5_strikeOff_32L n hn v_count a_towns a_loads z1 n f_6 a_ofTowns z1 (0 : Int32) i0 i1 i2 (by omega) (by omega) (by rw [v178.out]; omega) (by rw [v178.out]; omega) (by omega)
      · obtain ⟨m191, v192, f193⟩ := tnV rfl (by omega)
        have v194 : HQ ((a_struck ((z1).toNatClampNeg))).toInt (a_struck m191).toInt := HQ.mk (by rw [v192.out])
        have f195 := neq32k v194.out v178.out c183
        exact OK_some trivial
set_option maxHeartbeats 2000000 in
theorem sFX5_ofAll_5 (n : Nat) (hn : n = 3000) (a_ofTowns : Nat → Int32) (z1 : Int32) (k5 : Int32 → Int64 → Int32 → Option (Int64 × Unit)) (mB5 : Nat) (hk5 : ∀ (x1 : Int32) (x2 : Int64) (x4 : Int32), (0 ≤ (z1).toInt) → ((z1).toInt ≤ 4) → (0 ≤ (x4).toInt) → ((x4).toInt ≤ 5) → (0 ≤ (x1).toInt) → ((x1).toInt ≤ 4) → (5 - (x4).toInt).toNat < mB5 → OK (k5 x1 x2 x4) (fun u => True)) (x1 : Int32) (x2 : Int64) (x4 : Int32) (i0 : 0 ≤ (z1).toInt) (i1 : (z1).toInt ≤ 4) (i2 : 0 ≤ (x4).toInt) (i3 : (x4).toInt ≤ 5) (i4 : 0 ≤ (x1).toInt) (i5 : (x1).toInt ≤ 4) (hmu : (5 - (x4).toInt).toNat ≤ mB5) : OK (FX5_ofAll_5 n a_ofTowns z1 k5 x1 x2 x4) (fun u => True) := by
  unfold FX5_ofAll_5
  refine OK_if (fun c196 => ?_) (fun c196 => ?_)
  · have v197 : HQ ((5 : Int32)).toInt 5 := HQ.mk (by decide)
    have f198 := le32k v197.out rfl c196
    exact OK_some trivial
  · have v199 : HQ ((5 : Int32)).toInt 5 := HQ.mk (by decide)
    have f200 := nle32k v199.out rfl c196
    have v201 : HQ ((x4 * (5 : Int32))).toInt ((x4).toInt * 5) := HQ.mk (mulV rfl v199.out (by omega) (by omega))
    have v202 : HQ (((x4 * (5 : Int32)) + x1)).toInt (((x4).toInt * 5) + (x1).toInt) := HQ.mk (addV v201.out rfl (by omega) (by omega))
    refine OK_ck (ckV v202.out (by omega) (by omega)) ?_
    refine OK_lt (fun x_3 e_x_3 => ?_)
    have v203 : HQ ((1 : Int32)).toInt 1 := HQ.mk (by decide)
    have v204 : HQ ((x4 + (1 : Int32))).toInt ((x4).toInt + 1) := HQ.mk (addV rfl v203.out (by omega) (by omega))
    refine OK_lt (fun x_4 e_x_4 => ?_)
    have f205 : (x_4).toInt = ((x4).toInt + 1) := by rw [e_x_4]; exact v204.out
    exact hk5 x1 x_3 x_4 i0 i1 (by omega) (by omega) i4 i5 (by omega)
theorem sFX5_ofAll_5L (n : Nat) (hn : n = 3000) (a_ofTowns : Nat → Int32) (z1 : Int32) : ∀ (j : Nat) (x1 : Int32) (x2 : Int64) (x4 : Int32), (0 ≤ (z1).toInt) → ((z1).toInt ≤ 4) → (0 ≤ (x4).toInt) → ((x4).toInt ≤ 5) → (0 ≤ (x1).toInt) → ((x1).toInt ≤ 4) → (5 - (x4).toInt).toNat < j → OK (FX5_ofAll_5L n a_ofTowns z1 j x1 x2 x4) (fun u => True) := by
  intro j
  induction j with
  | zero => intro _ _ _ _ _ _ _ _ _ hj; exact absurd hj (Nat.not_lt_zero _)
  | succ j ih =>
    intro x1 x2 x4 i0 i1 i2 i3 i4 i5 hj
    exact sFX5_ofAll_5 n hn a_ofTowns z1 (FX5_ofAll_5L n a_ofTowns z1 j) ((5 - (x4).toInt).toNat) (fun y0 y1 y2 w0 w1 w2 w3 w4 w5 hlt => ih y0 y1 y2 w0 w1 w2 w3 w4 w5 (by omega)) x1 x2 x4 i0 i1 i2 i3 i4 i5 (Nat.le_refl _)
set_option maxHeartbeats 2000000 in
theorem sX5_ofAll (n : Nat) (hn : n = 3000) (a_ofTowns : Nat → Int32) (z1 : Int32) (i0 : 0 ≤ (z1).toInt) (i1 : (z1).toInt ≤ 4) : OK (FX5_ofAll n a_ofTowns z1) (fun u => True) := by
  unfold FX5_ofAll
  have v206 : HQ ((0 : Int32)).toInt 0 := HQ.mk (by decide)
  exact sFX5_ofAll_5L n hn a_ofTowns z1 n z1 (0 : Int64) (0 : Int32) i0 i1 (by rw [v206.out]; omega) (by rw [v206.out]; omega) i0 i1 (by omega)
