set_option maxHeartbeats 2000000 in
theorem sFX5_shareOf_112 (n : Nat) (hn : n = 2200000000) (a_ofTowns : Nat → Int32) (z1 : Int32) (z2 : Int32) (z3 : Int32) (k42 : Int32 → Int32 → Int32 → Int64 → Int64 → Int64 → Int32 → Int32 → Option (Int32 × Unit)) (mB42 : Nat) (hk42 : ∀ (x1 : Int32) (x2 : Int32) (x3 : Int32) (x4 : Int64) (x6 : Int64) (x8 : Int64) (x10 : Int32) (x11 : Int32), (0 ≤ (z1).toInt) → ((z1).toInt ≤ 4) → (0 ≤ (z2).toInt) → ((z2).toInt ≤ 4) → (0 ≤ (x11).toInt) → ((x11).toInt ≤ 5) → (0 ≤ (x2).toInt) → ((x2).toInt ≤ 4) → (1 ≤ (x4).toInt) → (5 - (x11).toInt).toNat < mB42 → OK (k42 x1 x2 x3 x4 x6 x8 x10 x11) (fun u => True)) (x1 : Int32) (x2 : Int32) (x3 : Int32) (x4 : Int64) (x6 : Int64) (x8 : Int64) (x10 : Int32) (x11 : Int32) (i0 : 0 ≤ (z1).toInt) (i1 : (z1).toInt ≤ 4) (i2 : 0 ≤ (z2).toInt) (i3 : (z2).toInt ≤ 4) (i4 : 0 ≤ (x11).toInt) (i5 : (x11).toInt ≤ 4) (i6 : 0 ≤ (x2).toInt) (i7 : (x2).toInt ≤ 4) (i8 : 1 ≤ (x4).toInt) (i9 : (5 - (x11).toInt).toNat ≤ mB42) : OK (FX5_shareOf_112 n a_ofTowns z1 z2 z3 k42 x1 x2 x3 x4 x6 x8 x10 x11) (fun u => True) := by
  unfold FX5_shareOf_112
  have v211 : HQ ((1 : Int32)).toInt 1 := HQ.mk (by decide)
  have v212 : HQ ((x11 + (1 : Int32))).toInt ((x11).toInt + 1) := HQ.mk (addV rfl v211.out (by omega) (by omega))
  refine OK_lt (fun x_22 e_x_22 => ?_)
  have f213 : (x_22).toInt = ((x11).toInt + 1) := by rw [e_x_22]; exact v212.out
  exact hk42 x1 x2 x3 x4 x6 x8 x10 x_22 i0 i1 i2 i3 (by omega) (by omega) i6 i7 i8 (by omega)
set_option maxHeartbeats 2000000 in
theorem sFX5_shareOf_109 (n : Nat) (hn : n = 2200000000) (a_ofTowns : Nat → Int32) (z1 : Int32) (z2 : Int32) (z3 : Int32) (k42 : Int32 → Int32 → Int32 → Int64 → Int64 → Int64 → Int32 → Int32 → Option (Int32 × Unit)) (mB42 : Nat) (hk42 : ∀ (x1 : Int32) (x2 : Int32) (x3 : Int32) (x4 : Int64) (x6 : Int64) (x8 : Int64) (x10 : Int32) (x11 : Int32), (0 ≤ (z1).toInt) → ((z1).toInt ≤ 4) → (0 ≤ (z2).toInt) → ((z2).toInt ≤ 4) → (0 ≤ (x11).toInt) → ((x11).toInt ≤ 5) → (0 ≤ (x2).toInt) → ((x2).toInt ≤ 4) → (1 ≤ (x4).toInt) → (5 - (x11).toInt).toNat < mB42 → OK (k42 x1 x2 x3 x4 x6 x8 x10 x11) (fun u => True)) (x1 : Int32) (x2 : Int32) (x3 : Int32) (x4 : Int64) (x6 : Int64) (x8 : Int64) (x10 : Int32) (x11 : Int32) (i0 : 0 ≤ (z1).toInt) (i1 : (z1).toInt ≤ 4) (i2 : 0 ≤ (z2).toInt) (i3 : (z2).toInt ≤ 4) (i4 : 0 ≤ (x11).toInt) (i5 : (x11).toInt ≤ 4) (i6 : 0 ≤ (x2).toInt) (i7 : (x2).toInt ≤ 4) (i8 : 1 ≤ (x4).toInt) (i9 : (5 - (x11).toInt).toNat ≤ mB42) : OK (FX5_shareOf_109 n a_ofTowns z1 z2 z3 k42 x1 x2 x3 x4 x6 x8 x10 x11) (fun u => True) := by
  unfold FX5_shareOf_109
  refine OK_lt (fun x_21 e_x_21 => ?_)
  exact sFX5_shareOf_112 n hn a_ofTowns z1 z2 z3 k42 mB42 hk42 x1 x2 x3 x4 x6 x8 x_21 x11 i0 i1 i2 i3 i4 i5 i6 i7 i8 i9
set_option maxHeartbeats 2000000 in
theorem sFX5_shareOf_42 (n : Nat) (hn : n = 2200000000) (a_ofTowns : Nat → Int32) (z1 : Int32) (z2 : Int32) (z3 : Int32) (k42 : Int32 → Int32 → Int32 → Int64 → Int64 → Int64 → Int32 → Int32 → Option (Int32 × Unit)) (mB42 : Nat) (hk42 : ∀ (x1 : Int32) (x2 : Int32) (x3 : Int32) (x4 : Int64) (x6 : Int64) (x8 : Int64) (x10 : Int32) (x11 : Int32), (0 ≤ (z1).toInt) → ((z1).toInt ≤ 4) → (0 ≤ (z2).toInt) → ((z2).toInt ≤ 4) → (0 ≤ (x11).toInt) → ((x11).toInt ≤ 5) → (0 ≤ (x2).toInt) → ((x2).toInt ≤ 4) → (1 ≤ (x4).toInt) → (5 - (x11).toInt).toNat < mB42 → OK (k42 x1 x2 x3 x4 x6 x8 x10 x11) (fun u => True)) (x1 : Int32) (x2 : Int32) (x3 : Int32) (x4 : Int64) (x6 : Int64) (x8 : Int64) (x10 : Int32) (x11 : Int32) (i0 : 0 ≤ (z1).toInt) (i1 : (z1).toInt ≤ 4) (i2 : 0 ≤ (z2).toInt) (i3 : (z2).toInt ≤ 4) (i4 : 0 ≤ (x11).toInt) (i5 : (x11).toInt ≤ 5) (i6 : 0 ≤ (x2).toInt) (i7 : (x2).toInt ≤ 4) (i8 : 1 ≤ (x4).toInt) (hmu : (5 - (x11).toInt).toNat ≤ mB42) : OK (FX5_shareOf_42 n a_ofTowns z1 z2 z3 k42 x1 x2 x3 x4 x6 x8 x10 x11) (fun u => True) := by
  unfold FX5_shareOf_42
  refine OK_if (fun c214 => ?_) (fun c214 => ?_)
  · have v215 : HQ ((5 : Int32)).toInt 5 := HQ.mk (by decide)
    have f216 := le32k v215.out rfl c214
    refine OK_ck (neV64 rfl (by omega)) ?_
    refine OK_if (fun c217 => ?_) (fun c217 => ?_)
    · have v218 : HQ ((0 : Int32)).toInt 0 := HQ.mk (by decide)
      have v219 : HQ ((x10).toInt64).toInt (x10).toInt := HQ.mk ((Int32.toInt_toInt64 _).trans rfl)
      obtain ⟨y220, v221, f222⟩ := lgV (a := (x10).toInt64) (b := x8) v219.out rfl
      have f223 := le32k v218.out v221.out c217
      exact OK_some trivial
    · have v224 : HQ ((0 : Int32)).toInt 0 := HQ.mk (by decide)
      have v225 : HQ ((x10).toInt64).toInt (x10).toInt := HQ.mk ((Int32.toInt_toInt64 _).trans rfl)
      obtain ⟨y226, v227, f228⟩ := lgV (a := (x10).toInt64) (b := x8) v225.out rfl
      have f229 := nle32k v224.out v227.out c217
      exact OK_some trivial
  · have v230 : HQ ((5 : Int32)).toInt 5 := HQ.mk (by decide)
    have f231 := nle32k v230.out rfl c214
    have v232 : HQ ((x11 * (5 : Int32))).toInt ((x11).toInt * 5) := HQ.mk (mulV rfl v230.out (by omega) (by omega))
    have v233 : HQ (((x11 * (5 : Int32)) + x2)).toInt (((x11).toInt * 5) + (x2).toInt) := HQ.mk (addV v232.out rfl (by omega) (by omega))
    refine OK_ck (ckV v233.out (by omega) (by omega)) ?_
    refine OK_lt (fun x_11 e_x_11 => ?_)
    refine OK_ck (neV64 rfl (by omega)) ?_
    refine OK_lt (fun x_13 e_x_13 => ?_)
    refine OK_ck (neV64 rfl (by omega)) ?_
    refine OK_ck (neV64 rfl (by omega)) ?_
    refine OK_if (fun c234 => ?_) (fun c234 => ?_)
    · have v235 : HQ ((0 : Int32)).toInt 0 := HQ.mk (by decide)
      obtain ⟨y236, v237⟩ := HQ.any ((x_11 - ((x_11 / x4) * x4))).toInt
      obtain ⟨y238, v239⟩ := HQ.any ((x6 - ((x6 / x4) * x4))).toInt
      obtain ⟨y240, v241, f242⟩ := lgV (a := (x_11 - ((x_11 / x4) * x4))) (b := (x6 - ((x6 / x4) * x4))) v237.out v239.out
      have f243 := lt32k v235.out v241.out c234
      exact sFX5_shareOf_109 n hn a_ofTowns z1 z2 z3 k42 mB42 hk42 x1 x2 x3 x4 x6 x_13 x10 x11 i0 i1 i2 i3 i4 (by omega) i6 i7 i8 (by omega)
    · have v244 : HQ ((0 : Int32)).toInt 0 := HQ.mk (by decide)
      obtain ⟨y245, v246⟩ := HQ.any ((x_11 - ((x_11 / x4) * x4))).toInt
      obtain ⟨y247, v248⟩ := HQ.any ((x6 - ((x6 / x4) * x4))).toInt
      obtain ⟨y249, v250, f251⟩ := lgV (a := (x_11 - ((x_11 / x4) * x4))) (b := (x6 - ((x6 / x4) * x4))) v246.out v248.out
      have f252 := nlt32k v244.out v250.out c234
      refine OK_ck (neV64 rfl (by omega)) ?_
      refine OK_ck (neV64 rfl (by omega)) ?_
      refine OK_if (fun c253 => ?_) (fun c253 => ?_)
      · have f254 := eq32k v250.out v244.out c253
        refine OK_if (fun c255 => ?_) (fun c255 => ?_)
        · have f256 := le32k rfl rfl c255
          exact sFX5_shareOf_112 n hn a_ofTowns z1 z2 z3 k42 mB42 hk42 x1 x2 x3 x4 x6 x_13 x10 x11 i0 i1 i2 i3 i4 (by omega) i6 i7 i8 (by omega)
        · have f257 := nle32k rfl rfl c255
          exact sFX5_shareOf_109 n hn a_ofTowns z1 z2 z3 k42 mB42 hk42 x1 x2 x3 x4 x6 x_13 x10 x11 i0 i1 i2 i3 i4 (by omega) i6 i7 i8 (by omega)
      · have f258 := neq32k v250.out v244.out c253
        exact sFX5_shareOf_112 n hn a_ofTowns z1 z2 z3 k42 mB42 hk42 x1 x2 x3 x4 x6 x_13 x10 x11 i0 i1 i2 i3 i4 (by omega) i6 i7 i8 (by omega)
theorem sFX5_shareOf_42L (n : Nat) (hn : n = 2200000000) (a_ofTowns : Nat → Int32) (z1 : Int32) (z2 : Int32) (z3 : Int32) : ∀ (j : Nat) (x1 : Int32) (x2 : Int32) (x3 : Int32) (x4 : Int64) (x6 : Int64) (x8 : Int64) (x10 : Int32) (x11 : Int32), (0 ≤ (z1).toInt) → ((z1).toInt ≤ 4) → (0 ≤ (z2).toInt) → ((z2).toInt ≤ 4) → (0 ≤ (x11).toInt) → ((x11).toInt ≤ 5) → (0 ≤ (x2).toInt) → ((x2).toInt ≤ 4) → (1 ≤ (x4).toInt) → (5 - (x11).toInt).toNat < j → OK (FX5_shareOf_42L n a_ofTowns z1 z2 z3 j x1 x2 x3 x4 x6 x8 x10 x11) (fun u => True) := by
  intro j
  induction j with
  | zero => intro _ _ _ _ _ _ _ _ _ _ _ _ _ _ _ _ _ hj; exact absurd hj (Nat.not_lt_zero _)
  | succ j ih =>
    intro x1 x2 x3 x4 x6 x8 x10 x11 i0 i1 i2 i3 i4 i5 i6 i7 i8 hj
    exact sFX5_shareOf_42 n hn a_ofTowns z1 z2 z3 (FX5_shareOf_42L n a_ofTowns z1 z2 z3 j) ((5 - (x11).toInt).toNat) (fun y0 y1 y2 y3 y4 y5 y6 y7 w0 w1 w2 w3 w4 w5 w6 w7 w8 hlt => ih y0 y1 y2 y3 y4 y5 y6 y7 w0 w1 w2 w3 w4 w5 w6 w7 w8 (by omega)) x1 x2 x3 x4 x6 x8 x10 x11 i0 i1 i2 i3 i4 i5 i6 i7 i8 (Nat.le_refl _)
set_option maxHeartbeats 2000000 in
theorem sX5_shareOf (n : Nat) (hn : n = 2200000000) (a_ofTowns : Nat → Int32) (z1 : Int32) (z2 : Int32) (z3 : Int32) (i0 : 0 ≤ (z1).toInt) (i1 : (z1).toInt ≤ 4) (i2 : 0 ≤ (z2).toInt) (i3 : (z2).toInt ≤ 4) : OK (FX5_shareOf n a_ofTowns z1 z2 z3) (fun u => True) := by
  unfold FX5_shareOf
  refine OK_bd (sX5_ofAll n hn a_ofTowns z2 i2 i3) (fun u_2 p_u_2 => ?_)
  refine OK_if (fun c259 => ?_) (fun c259 => ?_)
  · have v260 : HQ ((0 : Int32)).toInt 0 := HQ.mk (by decide)
    have v261 : HQ ((1 : Int64)).toInt 1 := HQ.mk (by decide)
    obtain ⟨y262, v263, f264⟩ := lgV (a := u_2.1) (b := (1 : Int64)) rfl v261.out
    have f265 := le32k v260.out v263.out c259
    have v266 : HQ ((5 : Int32)).toInt 5 := HQ.mk (by decide)
    have v267 : HQ ((z1 * (5 : Int32))).toInt ((z1).toInt * 5) := HQ.mk (mulV rfl v266.out (by omega) (by omega))
    have v268 : HQ (((z1 * (5 : Int32)) + z2)).toInt (((z1).toInt * 5) + (z2).toInt) := HQ.mk (addV v267.out rfl (by omega) (by omega))
    refine OK_ck (ckV v268.out (by omega) (by omega)) ?_
    refine OK_lt (fun x_5 e_x_5 => ?_)
    have v269 : HQ ((z3).toInt64).toInt (z3).toInt := HQ.mk ((Int32.toInt_toInt64 _).trans rfl)
    refine OK_lt (fun x_6 e_x_6 => ?_)
    have f270 : (x_6).toInt = (z3).toInt := by rw [e_x_6]; exact v269.out
    exact sFX5_shareOf_42L n hn a_ofTowns z1 z2 z3 n z1 z2 z3 u_2.1 x_5 x_6 (0 : Int32) (0 : Int32) i0 i1 i2 i3 (by (rw [v260.out]) <;> omega) (by (rw [v260.out]) <;> omega) i2 i3 (by omega) (by (rw [v260.out]) <;> omega)
  · have v271 : HQ ((0 : Int32)).toInt 0 := HQ.mk (by decide)
    have v272 : HQ ((1 : Int64)).toInt 1 := HQ.mk (by decide)
    obtain ⟨y273, v274, f275⟩ := lgV (a := u_2.1) (b := (1 : Int64)) rfl v272.out
    have f276 := nle32k v271.out v274.out c259
    exact OK_some trivial
set_option maxHeartbeats 2000000 in
theorem sX0_send (n : Nat) (hn : n = 2200000000) (a_outs : Nat → Int32) (a_rows : Nat → Int32) (z1 : Int32) (z2 : Int32) (z3 : Int32) (i0 : 0 ≤ (z1).toInt) (i1 : (z1).toInt ≤ 4) (i2 : (0 ≤ (z2).toInt ∧ (z2).toInt ≤ 4) ∨ (10 ≤ (z2).toInt ∧ (z2).toInt ≤ 13) ∨ (z2).toInt = 20) : OK (FX0_send n a_outs a_rows z1 z2 z3) (fun u => True) := by
  unfold FX0_send
  refine OK_if (fun c277 => ?_) (fun c277 => ?_)
  · have v278 : HQ ((20 : Int32)).toInt 20 := HQ.mk (by decide)
    have f279 := lt32k rfl v278.out c277
    refine OK_if (fun c280 => ?_) (fun c280 => ?_)
    · have v281 : HQ ((10 : Int32)).toInt 10 := HQ.mk (by decide)
      have f282 := lt32k rfl v281.out c280
      have v283 : HQ ((5 : Int32)).toInt 5 := HQ.mk (by decide)
      have v284 : HQ ((z1 * (5 : Int32))).toInt ((z1).toInt * 5) := HQ.mk (mulV rfl v283.out (by omega) (by omega))
      have v285 : HQ (((z1 * (5 : Int32)) + z2)).toInt (((z1).toInt * 5) + (z2).toInt) := HQ.mk (addV v284.out rfl (by omega) (by omega))
      refine OK_lt (fun x_3 e_x_3 => ?_)
      have f286 : (x_3).toInt = (((z1).toInt * 5) + (z2).toInt) := by rw [e_x_3]; exact v285.out
      refine OK_ck (ckV rfl (by omega) (by omega)) ?_
      refine OK_lt (fun x_5 e_x_5 => ?_)
      refine OK_ck (ckV rfl (by omega) (by omega)) ?_
      obtain ⟨m287, v288, f289⟩ := tnV (e := x_3) rfl (by omega)
      refine OK_lt (fun f_7 e_f_7 => ?_)
      rw [v288.out] at e_f_7
      exact OK_some trivial
    · have v290 : HQ ((10 : Int32)).toInt 10 := HQ.mk (by decide)
      have f291 := nlt32k rfl v290.out c280
      have v292 : HQ ((5 : Int32)).toInt 5 := HQ.mk (by decide)
      have v293 : HQ ((z1 * (5 : Int32))).toInt ((z1).toInt * 5) := HQ.mk (mulV rfl v292.out (by omega) (by omega))
      have v294 : HQ (((z1 * (5 : Int32)) + z2)).toInt (((z1).toInt * 5) + (z2).toInt) := HQ.mk (addV v293.out rfl (by omega) (by omega))
      have v295 : HQ ((((z1 * (5 : Int32)) + z2) - (10 : Int32))).toInt ((((z1).toInt * 5) + (z2).toInt) - 10) := HQ.mk (subV v294.out v290.out (by omega) (by omega))
      refine OK_lt (fun x_8 e_x_8 => ?_)
      have f296 : (x_8).toInt = ((((z1).toInt * 5) + (z2).toInt) - 10) := by rw [e_x_8]; exact v295.out
      refine OK_ck (ckV rfl (by omega) (by omega)) ?_
      refine OK_lt (fun x_10 e_x_10 => ?_)
      refine OK_ck (ckV rfl (by omega) (by omega)) ?_
      obtain ⟨m297, v298, f299⟩ := tnV (e := x_8) rfl (by omega)
      refine OK_lt (fun f_12 e_f_12 => ?_)
      rw [v298.out] at e_f_12
      exact OK_some trivial
  · have v300 : HQ ((20 : Int32)).toInt 20 := HQ.mk (by decide)
    have f301 := nlt32k rfl v300.out c277
    have v302 : HQ ((5 : Int32)).toInt 5 := HQ.mk (by decide)
    have v303 : HQ ((z1 * (5 : Int32))).toInt ((z1).toInt * 5) := HQ.mk (mulV rfl v302.out (by omega) (by omega))
    have v304 : HQ ((4 : Int32)).toInt 4 := HQ.mk (by decide)
    have v305 : HQ (((z1 * (5 : Int32)) + (4 : Int32))).toInt (((z1).toInt * 5) + 4) := HQ.mk (addV v303.out v304.out (by omega) (by omega))
    refine OK_lt (fun x_13 e_x_13 => ?_)
    have f306 : (x_13).toInt = (((z1).toInt * 5) + 4) := by rw [e_x_13]; exact v305.out
    refine OK_ck (ckV rfl (by omega) (by omega)) ?_
    refine OK_lt (fun x_15 e_x_15 => ?_)
    refine OK_ck (ckV rfl (by omega) (by omega)) ?_
    obtain ⟨m307, v308, f309⟩ := tnV (e := x_13) rfl (by omega)
    refine OK_lt (fun f_17 e_f_17 => ?_)
    rw [v308.out] at e_f_17
    exact OK_some trivial
