set_option maxHeartbeats 2000000 in
theorem sFX5_shareOf_112 (n : Nat) (hn : n = 3000) (a_ofTowns : Nat → Int32) (z1 : Int32) (z2 : Int32) (z3 : Int32) (k42 : Int32 → Int32 → Int32 → Int64 → Int64 → Int64 → Int32 → Int32 → Option (Int32 × Unit)) (mB42 : Nat) (hk42 : ∀ (x1 : Int32) (x2 : Int32) (x3 : Int32) (x4 : Int64) (x6 : Int64) (x8 : Int64) (x10 : Int32) (x11 : Int32), (0 ≤ (z1).toInt) → ((z1).toInt ≤ 4) → (0 ≤ (z2).toInt) → ((z2).toInt ≤ 4) → (0 ≤ (x11).toInt) → ((x11).toInt ≤ 5) → (0 ≤ (x2).toInt) → ((x2).toInt ≤ 4) → (1 ≤ (x4).toInt) → (5 - (x11).toInt).toNat < mB42 → OK (k42 x1 x2 x3 x4 x6 x8 x10 x11) (fun u => True)) (x1 : Int32) (x2 : Int32) (x3 : Int32) (x4 : Int64) (x6 : Int64) (x8 : Int64) (x10 : Int32) (x11 : Int32) (i0 : 0 ≤ (z1).toInt) (i1 : (z1).toInt ≤ 4) (i2 : 0 ≤ (z2).toInt) (i3 : (z2).toInt ≤ 4) (i4 : 0 ≤ (x11).toInt) (i5 : (x11).toInt ≤ 4) (i6 : 0 ≤ (x2).toInt) (i7 : (x2).toInt ≤ 4) (i8 : 1 ≤ (x4).toInt) (i9 : (5 - (x11).toInt).toNat ≤ mB42) : OK (FX5_shareOf_112 n a_ofTowns z1 z2 z3 k42 x1 x2 x3 x4 x6 x8 x10 x11) (fun u => True) := by
  unfold FX5_shareOf_112
  have v207 : HQ ((1 : Int32)).toInt 1 := HQ.mk (by decide)
  have v208 : HQ ((x11 + (1 : Int32))).toInt ((x11).toInt + 1) := HQ.mk (addV rfl v207.out (by omega) (by omega))
  refine OK_lt (fun x_22 e_x_22 => ?_)
  have f209 : (x_22).toInt = ((x11).toInt + 1) := by rw [e_x_22]; exact v208.out
  exact hk42 x1 x2 x3 x4 x6 x8 x10 x_22 i0 i1 i2 i3 (by omega) (by omega) i6 i7 i8 (by omega)
set_option maxHeartbeats 2000000 in
theorem sFX5_shareOf_109 (n : Nat) (hn : n = 3000) (a_ofTowns : Nat → Int32) (z1 : Int32) (z2 : Int32) (z3 : Int32) (k42 : Int32 → Int32 → Int32 → Int64 → Int64 → Int64 → Int32 → Int32 → Option (Int32 × Unit)) (mB42 : Nat) (hk42 : ∀ (x1 : Int32) (x2 : Int32) (x3 : Int32) (x4 : Int64) (x6 : Int64) (x8 : Int64) (x10 : Int32) (x11 : Int32), (0 ≤ (z1).toInt) → ((z1).toInt ≤ 4) → (0 ≤ (z2).toInt) → ((z2).toInt ≤ 4) → (0 ≤ (x11).toInt) → ((x11).toInt ≤ 5) → (0 ≤ (x2).toInt) → ((x2).toInt ≤ 4) → (1 ≤ (x4).toInt) → (5 - (x11).toInt).toNat < mB42 → OK (k42 x1 x2 x3 x4 x6 x8 x10 x11) (fun u => True)) (x1 : Int32) (x2 : Int32) (x3 : Int32) (x4 : Int64) (x6 : Int64) (x8 : Int64) (x10 : Int32) (x11 : Int32) (i0 : 0 ≤ (z1).toInt) (i1 : (z1).toInt ≤ 4) (i2 : 0 ≤ (z2).toInt) (i3 : (z2).toInt ≤ 4) (i4 : 0 ≤ (x11).toInt) (i5 : (x11).toInt ≤ 4) (i6 : 0 ≤ (x2).toInt) (i7 : (x2).toInt ≤ 4) (i8 : 1 ≤ (x4).toInt) (i9 : (5 - (x11).toInt).toNat ≤ mB42) : OK (FX5_shareOf_109 n a_ofTowns z1 z2 z3 k42 x1 x2 x3 x4 x6 x8 x10 x11) (fun u => True) := by
  unfold FX5_shareOf_109
  refine OK_lt (fun x_21 e_x_21 => ?_)
  exact sFX5_shareOf_112 n hn a_ofTowns z1 z2 z3 k42 mB42 hk42 x1 x2 x3 x4 x6 x8 x_21 x11 i0 i1 i2 i3 i4 i5 i6 i7 i8 i9
set_option maxHeartbeats 2000000 in
theorem sFX5_shareOf_42 (n : Nat) (hn : n = 3000) (a_ofTowns : Nat → Int32) (z1 : Int32) (z2 : Int32) (z3 : Int32) (k42 : Int32 → Int32 → Int32 → Int64 → Int64 → Int64 → Int32 → Int32 → Option (Int32 × Unit)) (mB42 : Nat) (hk42 : ∀ (x1 : Int32) (x2 : Int32) (x3 : Int32) (x4 : Int64) (x6 : Int64) (x8 : Int64) (x10 : Int32) (x11 : Int32), (0 ≤ (z1).toInt) → ((z1).toInt ≤ 4) → (0 ≤ (z2).toInt) → ((z2).toInt ≤ 4) → (0 ≤ (x11).toInt) → ((x11).toInt ≤ 5) → (0 ≤ (x2).toInt) → ((x2).toInt ≤ 4) → (1 ≤ (x4).toInt) → (5 - (x11).toInt).toNat < mB42 → OK (k42 x1 x2 x3 x4 x6 x8 x10 x11) (fun u => True)) (x1 : Int32) (x2 : Int32) (x3 : Int32) (x4 : Int64) (x6 : Int64) (x8 : Int64) (x10 : Int32) (x11 : Int32) (i0 : 0 ≤ (z1).toInt) (i1 : (z1).toInt ≤ 4) (i2 : 0 ≤ (z2).toInt) (i3 : (z2).toInt ≤ 4) (i4 : 0 ≤ (x11).toInt) (i5 : (x11).toInt ≤ 5) (i6 : 0 ≤ (x2).toInt) (i7 : (x2).toInt ≤ 4) (i8 : 1 ≤ (x4).toInt) (hmu : (5 - (x11).toInt).toNat ≤ mB42) : OK (FX5_shareOf_42 n a_ofTowns z1 z2 z3 k42 x1 x2 x3 x4 x6 x8 x10 x11) (fun u => True) := by
  unfold FX5_shareOf_42
  refine OK_if (fun c210 => ?_) (fun c210 => ?_)
  · have v211 : HQ ((5 : Int32)).toInt 5 := HQ.mk (by decide)
    have f212 := le32k v211.out rfl c210
    refine OK_ck (neV64 rfl (by omega)) ?_
    refine OK_if (fun c213 => ?_) (fun c213 => ?_)
    · have v214 : HQ ((0 : Int32)).toInt 0 := HQ.mk (by decide)
      have v215 : HQ ((x10).toInt64).toInt (x10).toInt := HQ.mk ((Int32.toInt_toInt64 _).trans rfl)
      obtain ⟨y216, v217, f218⟩ := lgV v215.out rfl
      have f219 := le32k v214.out v217.out c213
      exact OK_some trivial
    · have v220 : HQ ((0 : Int32)).toInt 0 := HQ.mk (by decide)
      have v221 : HQ ((x10).toInt64).toInt (x10).toInt := HQ.mk ((Int32.toInt_toInt64 _).trans rfl)
      obtain ⟨y222, v223, f224⟩ := lgV v221.out rfl
      have f225 := nle32k v220.out v223.out c213
      exact OK_some trivial
  · have v226 : HQ ((5 : Int32)).toInt 5 := HQ.mk (by decide)
    have f227 := nle32k v226.out rfl c210
    have v228 : HQ ((x11 * (5 : Int32))).toInt ((x11).toInt * 5) := HQ.mk (mulV rfl v226.out (by omega) (by omega))
    have v229 : HQ (((x11 * (5 : Int32)) + x2)).toInt (((x11).toInt * 5) + (x2).toInt) := HQ.mk (addV v228.out rfl (by omega) (by omega))
    refine OK_ck (ckV v229.out (by omega) (by omega)) ?_
    refine OK_lt (fun x_11 e_x_11 => ?_)
    refine OK_ck (neV64 rfl (by omega)) ?_
    refine OK_lt (fun x_13 e_x_13 => ?_)
    refine OK_ck (neV64 rfl (by omega)) ?_
    refine OK_ck (neV64 rfl (by omega)) ?_
    refine OK_if (fun c230 => ?_) (fun c230 => ?_)
    · have v231 : HQ ((0 : Int32)).toInt 0 := HQ.mk (by decide)
      obtain ⟨y232, v233⟩ := HQ.any ((x_11 - ((x_11 / x4) * x4))).toInt
      obtain ⟨y234, v235⟩ := HQ.any ((x6 - ((x6 / x4) * x4))).toInt
      obtain ⟨y236, v237, f238⟩ := lgV v233.out v235.out
      have f239 := lt32k v231.out v237.out c230
      exact sFX5_shareOf_109 n hn a_ofTowns z1 z2 z3 k42 mB42 hk42 x1 x2 x3 x4 x6 x_13 x10 x11 i0 i1 i2 i3 i4 (by omega) i6 i7 i8 (by omega)
    · have v240 : HQ ((0 : Int32)).toInt 0 := HQ.mk (by decide)
      obtain ⟨y241, v242⟩ := HQ.any ((x_11 - ((x_11 / x4) * x4))).toInt
      obtain ⟨y243, v244⟩ := HQ.any ((x6 - ((x6 / x4) * x4))).toInt
      obtain ⟨y245, v246, f247⟩ := lgV v242.out v244.out
      have f248 := nlt32k v240.out v246.out c230
      refine OK_ck (neV64 rfl (by omega)) ?_
      refine OK_ck (neV64 rfl (by omega)) ?_
      refine OK_if (fun c249 => ?_) (fun c249 => ?_)
      · have f250 := eq32k v246.out v240.out c249
        refine OK_if (fun c251 => ?_) (fun c251 => ?_)
        · have f252 := le32k rfl rfl c251
          exact sFX5_shareOf_112 n hn a_ofTowns z1 z2 z3 k42 mB42 hk42 x1 x2 x3 x4 x6 x_13 x10 x11 i0 i1 i2 i3 i4 (by omega) i6 i7 i8 (by omega)
        · have f253 := nle32k rfl rfl c251
          exact sFX5_shareOf_109 n hn a_ofTowns z1 z2 z3 k42 mB42 hk42 x1 x2 x3 x4 x6 x_13 x10 x11 i0 i1 i2 i3 i4 (by omega) i6 i7 i8 (by omega)
      · have f254 := neq32k v246.out v240.out c249
        exact sFX5_shareOf_112 n hn a_ofTowns z1 z2 z3 k42 mB42 hk42 x1 x2 x3 x4 x6 x_13 x10 x11 i0 i1 i2 i3 i4 (by omega) i6 i7 i8 (by omega)
theorem sFX5_shareOf_42L (n : Nat) (hn : n = 3000) (a_ofTowns : Nat → Int32) (z1 : Int32) (z2 : Int32) (z3 : Int32) : ∀ (j : Nat) (x1 : Int32) (x2 : Int32) (x3 : Int32) (x4 : Int64) (x6 : Int64) (x8 : Int64) (x10 : Int32) (x11 : Int32), (0 ≤ (z1).toInt) → ((z1).toInt ≤ 4) → (0 ≤ (z2).toInt) → ((z2).toInt ≤ 4) → (0 ≤ (x11).toInt) → ((x11).toInt ≤ 5) → (0 ≤ (x2).toInt) → ((x2).toInt ≤ 4) → (1 ≤ (x4).toInt) → (5 - (x11).toInt).toNat < j → OK (FX5_shareOf_42L n a_ofTowns z1 z2 z3 j x1 x2 x3 x4 x6 x8 x10 x11) (fun u => True) := by
  intro j
  induction j with
  | zero => intro _ _ _ _ _ _ _ _ _ _ _ _ _ _ _ _ _ hj; exact absurd hj (Nat.not_lt_zero _)
  | succ j ih =>
    intro x1 x2 x3 x4 x6 x8 x10 x11 i0 i1 i2 i3 i4 i5 i6 i7 i8 hj
    exact sFX5_shareOf_42 n hn a_ofTowns z1 z2 z3 (FX5_shareOf_42L n a_ofTowns z1 z2 z3 j) ((5 - (x11).toInt).toNat) (fun y0 y1 y2 y3 y4 y5 y6 y7 w0 w1 w2 w3 w4 w5 w6 w7 w8 hlt => ih y0 y1 y2 y3 y4 y5 y6 y7 w0 w1 w2 w3 w4 w5 w6 w7 w8 (by omega)) x1 x2 x3 x4 x6 x8 x10 x11 i0 i1 i2 i3 i4 i5 i6 i7 i8 (Nat.le_refl _)
set_option maxHeartbeats 2000000 in
theorem sX5_shareOf (n : Nat) (hn : n = 3000) (a_ofTowns : Nat → Int32) (z1 : Int32) (z2 : Int32) (z3 : Int32) (i0 : 0 ≤ (z1).toInt) (i1 : (z1).toInt ≤ 4) (i2 : 0 ≤ (z2).toInt) (i3 : (z2).toInt ≤ 4) : OK (FX5_shareOf n a_ofTowns z1 z2 z3) (fun u => True) := by
  unfold FX5_shareOf
  refine OK_bd (sX5_ofAll n hn a_ofTowns z2 i2 i3) (fun u_2 p_u_2 => ?_)
  refine OK_if (fun c255 => ?_) (fun c255 => ?_)
  · have v256 : HQ ((0 : Int32)).toInt 0 := HQ.mk (by decide)
    have v257 : HQ ((1 : Int64)).toInt 1 := HQ.mk (by decide)
    obtain ⟨y258, v259, f260⟩ := lgV rfl v257.out
    have f261 := le32k v256.out v259.out c255
    have v262 : HQ ((5 : Int32)).toInt 5 := HQ.mk (by decide)
    have v263 : HQ ((z1 * (5 : Int32))).toInt ((z1).toInt * 5) := HQ.mk (mulV rfl v262.out (by omega) (by omega))
    have v264 : HQ (((z1 * (5 : Int32)) + z2)).toInt (((z1).toInt * 5) + (z2).toInt) := HQ.mk (addV v263.out rfl (by omega) (by omega))
    refine OK_ck (ckV v264.out (by omega) (by omega)) ?_
    refine OK_lt (fun x_5 e_x_5 => ?_)
    refine OK_lt (fun x_6 e_x_6 => ?_)
    exact sFX5_shareOf_42L n hn a_ofTowns z1 z2 z3 n z1 z2 z3 u_2.1 x_5 x_6 (0 : Int32) (0 : Int32) i0 i1 i2 i3 (by rw [v256.out]; omega) (by rw [v256.out]; omega) i2 i3 (by omega) (by omega)
  · have v265 : HQ ((0 : Int32)).toInt 0 := HQ.mk (by decide)
    have v266 : HQ ((1 : Int64)).toInt 1 := HQ.mk (by decide)
    obtain ⟨y267, v268, f269⟩ := lgV rfl v266.out
    have f270 := nle32k v265.out v268.out c255
    exact OK_some trivial
set_option maxHeartbeats 2000000 in
theorem sX0_send (n : Nat) (hn : n = 3000) (a_outs : Nat → Int32) (a_rows : Nat → Int32) (z1 : Int32) (z2 : Int32) (z3 : Int32) (i0 : 0 ≤ (z1).toInt) (i1 : (z1).toInt ≤ 4) (i2 : (0 ≤ (z2).toInt ∧ (z2).toInt ≤ 4) ∨ (10 ≤ (z2).toInt ∧ (z2).toInt ≤ 13) ∨ (z2).toInt = 20) : OK (FX0_send n a_outs a_rows z1 z2 z3) (fun u => True) := by
  unfold FX0_send
  refine OK_if (fun c271 => ?_) (fun c271 => ?_)
  · have v272 : HQ ((20 : Int32)).toInt 20 := HQ.mk (by decide)
    have f273 := lt32k rfl v272.out c271
    refine OK_if (fun c274 => ?_) (fun c274 => ?_)
    · have v275 : HQ ((10 : Int32)).toInt 10 := HQ.mk (by decide)
      have f276 := lt32k rfl v275.out c274
      have v277 : HQ ((5 : Int32)).toInt 5 := HQ.mk (by decide)
      have v278 : HQ ((z1 * (5 : Int32))).toInt ((z1).toInt * 5) := HQ.mk (mulV rfl v277.out (by omega) (by omega))
      have v279 : HQ (((z1 * (5 : Int32)) + z2)).toInt (((z1).toInt * 5) + (z2).toInt) := HQ.mk (addV v278.out rfl (by omega) (by omega))
      refine OK_lt (fun x_3 e_x_3 => ?_)
      have f280 : (x_3).toInt = (((z1).toInt * 5) + (z2).toInt) := by rw [e_x_3]; exact v279.out
      refine OK_ck (ckV rfl (by omega) (by omega)) ?_
      refine OK_lt (fun x_5 e_x_5 => ?_)
      refine OK_ck (ckV rfl (by omega) (by omega)) ?_
      obtain ⟨m281, v282, f283⟩ := tnV rfl (by omega)
      refine OK_lt (fun f_7 e_f_7 => ?_)
      rw [v282.out] at e_f_7
      exact OK_some trivial
    · have v284 : HQ ((10 : Int32)).toInt 10 := HQ.mk (by decide)
      have f285 := nlt32k rfl v284.out c274
      have v286 : HQ ((5 : Int32)).toInt 5 := HQ.mk (by decide)
      have v287 : HQ ((z1 * (5 : Int32))).toInt ((z1).toInt * 5) := HQ.mk (mulV rfl v286.out (by omega) (by omega))
      have v288 : HQ (((z1 * (5 : Int32)) + z2)).toInt (((z1).toInt * 5) + (z2).toInt) := HQ.mk (addV v287.out rfl (by omega) (by omega))
      have v289 : HQ ((((z1 * (5 : Int32)) + z2) - (10 : Int32))).toInt ((((z1).toInt * 5) + (z2).toInt) - 10) := HQ.mk (subV v288.out v284.out (by omega) (by omega))
      refine OK_lt (fun x_8 e_x_8 => ?_)
      have f290 : (x_8).toInt = ((((z1).toInt * 5) + (z2).toInt) - 10) := by rw [e_x_8]; exact v289.out
      refine OK_ck (ckV rfl (by omega) (by omega)) ?_
      refine OK_lt (fun x_10 e_x_10 => ?_)
      refine OK_ck (ckV rfl (by omega) (by omega)) ?_
      obtain ⟨m291, v292, f293⟩ := tnV rfl (by omega)
      refine OK_lt (fun f_12 e_f_12 => ?_)
      rw [v292.out] at e_f_12
      exact OK_some trivial
  · have v294 : HQ ((20 : Int32)).toInt 20 := HQ.mk (by decide)
    have f295 := nlt32k rfl v294.out c271
    have v296 : HQ ((5 : Int32)).toInt 5 := HQ.mk (by decide)
    have v297 : HQ ((z1 * (5 : Int32))).toInt ((z1).toInt * 5) := HQ.mk (mulV rfl v296.out (by omega) (by omega))
    have v298 : HQ ((4 : Int32)).toInt 4 := HQ.mk (by decide)
    have v299 : HQ (((z1 * (5 : Int32)) + (4 : Int32))).toInt (((z1).toInt * 5) + 4) := HQ.mk (addV v297.out v298.out (by omega) (by omega))
    refine OK_lt (fun x_13 e_x_13 => ?_)
    have f300 : (x_13).toInt = (((z1).toInt * 5) + 4) := by rw [e_x_13]; exact v299.out
    refine OK_ck (ckV rfl (by omega) (by omega)) ?_
    refine OK_lt (fun x_15 e_x_15 => ?_)
    refine OK_ck (ckV rfl (by omega) (by omega)) ?_
    obtain ⟨m301, v302, f303⟩ := tnV rfl (by omega)
    refine OK_lt (fun f_17 e_f_17 => ?_)
    rw [v302.out] at e_f_17
    exact OK_some trivial
