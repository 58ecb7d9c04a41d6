theorem sh_bounds (S : Nat) (b : Nat → Nat) (W : Nat) (hW : W = b 0 + b 1 + b 2 + b 3 + b 4) (h1 : 1 ≤ W) : S * b 0 / W + S * b 1 / W + S * b 2 / W + S * b 3 / W + S * b 4 / W ≤ S ∧ S - (S * b 0 / W + S * b 1 / W + S * b 2 / W + S * b 3 / W + S * b 4 / W) ≤ 4 := by
  have d0 := Nat.div_add_mod (S * b 0) W
  have d1 := Nat.div_add_mod (S * b 1) W
  have d2 := Nat.div_add_mod (S * b 2) W
  have d3 := Nat.div_add_mod (S * b 3) W
  have d4 := Nat.div_add_mod (S * b 4) W
  have m0 := Nat.mod_lt (S * b 0) h1
  have m1 := Nat.mod_lt (S * b 1) h1
  have m2 := Nat.mod_lt (S * b 2) h1
  have m3 := Nat.mod_lt (S * b 3) h1
  have m4 := Nat.mod_lt (S * b 4) h1
  have e : W * S = S * b 0 + S * b 1 + S * b 2 + S * b 3 + S * b 4 := by
    rw [Nat.mul_comm, hW, Nat.mul_add, Nat.mul_add, Nat.mul_add, Nat.mul_add]
  generalize S * b 0 / W = g0 at *
  generalize S * b 1 / W = g1 at *
  generalize S * b 2 / W = g2 at *
  generalize S * b 3 / W = g3 at *
  generalize S * b 4 / W = g4 at *
  have f : W * (g0 + g1 + g2 + g3 + g4) = W * g0 + W * g1 + W * g2 + W * g3 + W * g4 := by
    rw [Nat.mul_add, Nat.mul_add, Nat.mul_add, Nat.mul_add]
  have hle : g0 + g1 + g2 + g3 + g4 ≤ S := by
    apply Nat.le_of_mul_le_mul_left (c := W) _ h1
    omega
  refine ⟨hle, ?_⟩
  have hs : W * (S - (g0 + g1 + g2 + g3 + g4)) = W * S - W * (g0 + g1 + g2 + g3 + g4) := Nat.mul_sub W S _
  have h5 : W * (S - (g0 + g1 + g2 + g3 + g4)) < W * 5 := by omega
  have h6 := Nat.lt_of_mul_lt_mul_left h5
  omega
theorem sub_chain (S g0 g1 g2 g3 g4 : Nat) (h : g0 + g1 + g2 + g3 + g4 ≤ S) : g0 ≤ S ∧ g1 ≤ S - g0 ∧ g2 ≤ S - g0 - g1 ∧ g3 ≤ S - g0 - g1 - g2 ∧ g4 ≤ S - g0 - g1 - g2 - g3 ∧ S - g0 - g1 - g2 - g3 - g4 = S - (g0 + g1 + g2 + g3 + g4) ∧ S - g0 ≤ S ∧ S - g0 - g1 ≤ S ∧ S - g0 - g1 - g2 ≤ S ∧ S - g0 - g1 - g2 - g3 ≤ S := by omega
theorem lgN (a b : Nat) (ha : a < 2 ^ 63) (hb : b < 2 ^ 63) : (a < b ∧ (lg_cmp (lN a) (lN b)).toInt = -1) ∨ (a = b ∧ (lg_cmp (lN a) (lN b)).toInt = 0) ∨ (b < a ∧ (lg_cmp (lN a) (lN b)).toInt = 1) := by
  have t := lgT (lN a) (lN b)
  rw [pk_lT ha, pk_lT hb] at t
  omega
theorem sh_step (n : Nat) (ot : Nat → Int32) (z1 z2 z3 : Int32) (j z k S W L B i : Nat) (b : Nat → Nat) (hz : z < 5) (hk : k < 5) (hi : i < 5) (hS : S ≤ 10000000) (hW : 1 ≤ W) (hW2 : W ≤ 1200000000) (hb : ∀ t, t < 5 → b t ≤ W) (ho : ot (5 * i + k) = nI (b i)) (hL : S * b i / W ≤ L) (hL2 : L ≤ S) : FX5_shareOf_42L n ot z1 z2 z3 (j + 1) (nI z) (nI k) (nI S) (lN W) (lN (S * b z)) (lN L) (nI B) (nI i) = FX5_shareOf_42L n ot z1 z2 z3 j (nI z) (nI k) (nI S) (lN W) (lN (S * b z)) (lN (L - S * b i / W)) (nI (B + indR (fun t => S * b t % W) z i)) (nI (i + 1)) := by
  show FX5_shareOf_42 n ot z1 z2 z3 (FX5_shareOf_42L n ot z1 z2 z3 j) (nI z) (nI k) (nI S) (lN W) (lN (S * b z)) (lN L) (nI B) (nI i) = _
  have hSi : S * b i ≤ 10000000 * 1200000000 := Nat.mul_le_mul hS (Nat.le_trans (hb i hi) hW2)
  have hSz : S * b z ≤ 10000000 * 1200000000 := Nat.mul_le_mul hS (Nat.le_trans (hb z hz) hW2)
  have hbi := hb i hi
  have m1 := Nat.mod_lt (S * b i) hW
  have m2 := Nat.mod_lt (S * b z) hW
  unfold FX5_shareOf_42
  have c : ¬ (5 : Int32) ≤ nI i := nI_ge (b := 5) hi (by decide)
  have e : nI i * (5 : Int32) + nI k = nI (5 * i + k) := by
    rw [show (5 : Int32) = nI 5 from rfl, pk_mul, nI_add, Nat.mul_comm]
  have w0 : ¬ lN W = 0 := fun q => by
    have := (pk_lEQ (b := 0) (by omega) (by decide)).mp q
    omega
  rw [if_neg c, e, if_pos (nI_in (N := 25) (by omega) (by decide)), lt1_e, nI_clamp (n := 5 * i + k) (by omega), ho, nI_l (n := S) (by omega), nI_l (n := b i) (by omega), lN_mul, if_pos w0, lt1_e, if_pos w0, if_pos w0, pk_lRem (by omega) hW (by omega), pk_lRem (by omega) hW (by omega), pk_lDiv (by omega) hW (by omega), lN_sub hL]
  have e1 : nI i + (1 : Int32) = nI (i + 1) := nI_1 i
  have e2 : nI B + (1 : Int32) = nI (B + 1) := nI_1 B
  have t := lgN (S * b i % W) (S * b z % W) (by omega) (by omega)
  by_cases q : 0 < lg_cmp (lN (S * b i % W)) (lN (S * b z % W))
  · have q2 := lt32 q
    rw [show ((0 : Int32)).toInt = 0 by decide] at q2
    have hi1 : indR (fun t => S * b t % W) z i = 1 := by
      unfold indR
      dsimp only
      exact if_pos (by omega)
    rw [if_pos q, hi1]
    unfold FX5_shareOf_109 FX5_shareOf_112
    rw [lt1_e, lt1_e, e1, e2]
  · have q2 := nlt32 q
    rw [show ((0 : Int32)).toInt = 0 by decide] at q2
    rw [if_neg q, if_pos w0, if_pos w0]
    by_cases r : lg_cmp (lN (S * b i % W)) (lN (S * b z % W)) = 0
    · have r2 := eq32 r
      rw [show ((0 : Int32)).toInt = 0 by decide] at r2
      rw [if_pos r]
      by_cases s : z ≤ i
      · have s1 : nI z ≤ nI i := nI_le s (by omega)
        have hi0 : indR (fun t => S * b t % W) z i = 0 := by
          unfold indR
          dsimp only
          exact if_neg (by omega)
        rw [if_pos s1, hi0, Nat.add_zero]
        unfold FX5_shareOf_112
        rw [lt1_e, e1]
      · have s1 : ¬ nI z ≤ nI i := nI_ge (by omega) (by omega)
        have hi1 : indR (fun t => S * b t % W) z i = 1 := by
          unfold indR
          dsimp only
          exact if_pos (by omega)
        rw [if_neg s1, hi1]
        unfold FX5_shareOf_109 FX5_shareOf_112
        rw [lt1_e, lt1_e, e1, e2]
    · have r2 := neq32 r
      rw [show ((0 : Int32)).toInt = 0 by decide] at r2
      have hi0 : indR (fun t => S * b t % W) z i = 0 := by
        unfold indR
        dsimp only
        exact if_neg (by omega)
      rw [if_neg r, hi0, Nat.add_zero]
      unfold FX5_shareOf_112
      rw [lt1_e, e1]
theorem sh_end (n : Nat) (ot : Nat → Int32) (z1 z2 z3 : Int32) (j z S W L B V : Nat) (x2 : Int32) (hW : 1 ≤ W) (hW2 : W ≤ 1200000000) (hV : V < 2 ^ 62) (hL2 : L ≤ 4) (hB : B ≤ 5) : FX5_shareOf_42L n ot z1 z2 z3 (j + 1) (nI z) x2 (nI S) (lN W) (lN V) (lN L) (nI B) (nI 5) = some (nI (V / W + (if L ≤ B then 0 else 1)), ()) := by
  show FX5_shareOf_42 n ot z1 z2 z3 (FX5_shareOf_42L n ot z1 z2 z3 j) (nI z) x2 (nI S) (lN W) (lN V) (lN L) (nI B) (nI 5) = _
  unfold FX5_shareOf_42
  have c : (5 : Int32) ≤ nI 5 := by decide
  have w0 : ¬ lN W = 0 := fun q => by
    have := (pk_lEQ (b := 0) (by omega) (by decide)).mp q
    omega
  have t := lgN B L (by omega) (by omega)
  rw [if_pos c, if_pos w0, nI_l (n := B) (by omega), pk_lDiv (by omega) hW (by omega), lN_i]
  by_cases q : 0 ≤ lg_cmp (lN B) (lN L)
  · have q2 := le32 q
    rw [show ((0 : Int32)).toInt = 0 by decide] at q2
    rw [if_pos q, if_pos (by omega), Nat.add_zero, i32_add0]
  · have q2 := nle32 q
    rw [show ((0 : Int32)).toInt = 0 by decide] at q2
    rw [if_neg q, if_neg (by omega)]
    rw [show nI (V / W) + (1 : Int32) = nI (V / W + 1) from nI_1 _]
theorem indR_le (r : Nat → Nat) (z t : Nat) : indR r z t ≤ 1 := by
  unfold indR
  by_cases d : r z < r t ∨ (r t = r z ∧ t < z)
  · rw [if_pos d]; exact Nat.le_refl _
  · rw [if_neg d]; exact Nat.zero_le _
theorem sh6 (n : Nat) (hn : 100 ≤ n) (ot : Nat → Int32) (z k S W : Nat) (b : Nat → Nat) (hz : z < 5) (hk : k < 5) (hS : S ≤ 10000000) (hWe : W = b 0 + b 1 + b 2 + b 3 + b 4) (hW : 1 ≤ W) (hW2 : W ≤ 1200000000) (ho : ∀ t, t < 5 → ot (5 * t + k) = nI (b t)) : FX5_shareOf n ot (nI z) (nI k) (nI S) = some (nI (S * b z / W + (if S - (S * b 0 / W + S * b 1 / W + S * b 2 / W + S * b 3 / W + S * b 4 / W) ≤ indR (fun t => S * b t % W) z 0 + indR (fun t => S * b t % W) z 1 + indR (fun t => S * b t % W) z 2 + indR (fun t => S * b t % W) z 3 + indR (fun t => S * b t % W) z 4 then 0 else 1)), ()) := by
  obtain ⟨f, rfl⟩ : ∃ f, n = f + 6 := ⟨n - 6, by omega⟩
  have hb : ∀ t, t < 5 → b t ≤ W := by
    intro t ht
    rcases lt5 ht with rfl | rfl | rfl | rfl | rfl <;> omega
  obtain ⟨hg, hl⟩ := sh_bounds S b W hWe hW
  obtain ⟨k0, k1, k2, k3, k4, kE, l1, l2, l3, l4⟩ := sub_chain S _ _ _ _ _ hg
  have hSz : S * b z ≤ 10000000 * 1200000000 := Nat.mul_le_mul hS (Nat.le_trans (hb z hz) hW2)
  have hbz := hb z hz
  unfold FX5_shareOf
  have hoa := ofAll_ok (f + 6) (by omega) ot k hk b (by omega) ho
  rw [← hWe] at hoa
  rw [hoa, bd_s]
  have c1 : 0 ≤ lg_cmp (lN W) (1 : Int64) := by
    have t := lgN W 1 (by omega) (by decide)
    apply Int32.le_iff_toInt_le.mpr
    rw [show ((0 : Int32)).toInt = 0 by decide]
    rw [show lN 1 = (1 : Int64) from rfl] at t
    omega
  have e : nI z * (5 : Int32) + nI k = nI (5 * z + k) := by
    rw [show (5 : Int32) = nI 5 from rfl, pk_mul, nI_add, Nat.mul_comm]
  rw [if_pos c1, e, if_pos (nI_in (N := 25) (by omega) (by decide)), lt1_e, lt1_e, nI_clamp (n := 5 * z + k) (by omega), ho z hz, nI_l (n := S) (by omega), nI_l (n := b z) (by omega), lN_mul]
  have s0 := sh_step (f + 6) ot (nI z) (nI k) (nI S) (f + 5) z k S W S 0 0 b hz hk (by omega) hS hW hW2 hb (ho 0 (by omega)) k0 (Nat.le_refl S)
  have s1 := sh_step (f + 6) ot (nI z) (nI k) (nI S) (f + 4) z k S W (S - S * b 0 / W) (0 + indR (fun t => S * b t % W) z 0) 1 b hz hk (by omega) hS hW hW2 hb (ho 1 (by omega)) k1 l1
  have s2 := sh_step (f + 6) ot (nI z) (nI k) (nI S) (f + 3) z k S W (S - S * b 0 / W - S * b 1 / W) (0 + indR (fun t => S * b t % W) z 0 + indR (fun t => S * b t % W) z 1) 2 b hz hk (by omega) hS hW hW2 hb (ho 2 (by omega)) k2 l2
  have s3 := sh_step (f + 6) ot (nI z) (nI k) (nI S) (f + 2) z k S W (S - S * b 0 / W - S * b 1 / W - S * b 2 / W) (0 + indR (fun t => S * b t % W) z 0 + indR (fun t => S * b t % W) z 1 + indR (fun t => S * b t % W) z 2) 3 b hz hk (by omega) hS hW hW2 hb (ho 3 (by omega)) k3 l3
  have s4 := sh_step (f + 6) ot (nI z) (nI k) (nI S) (f + 1) z k S W (S - S * b 0 / W - S * b 1 / W - S * b 2 / W - S * b 3 / W) (0 + indR (fun t => S * b t % W) z 0 + indR (fun t => S * b t % W) z 1 + indR (fun t => S * b t % W) z 2 + indR (fun t => S * b t % W) z 3) 4 b hz hk (by omega) hS hW hW2 hb (ho 4 (by omega)) k4 l4
  have i0 := indR_le (fun t => S * b t % W) z 0
  have i1 := indR_le (fun t => S * b t % W) z 1
  have i2 := indR_le (fun t => S * b t % W) z 2
  have i3 := indR_le (fun t => S * b t % W) z 3
  have i4 := indR_le (fun t => S * b t % W) z 4
  have s5 := sh_end (f + 6) ot (nI z) (nI k) (nI S) f z S W (S - S * b 0 / W - S * b 1 / W - S * b 2 / W - S * b 3 / W - S * b 4 / W) (0 + indR (fun t => S * b t % W) z 0 + indR (fun t => S * b t % W) z 1 + indR (fun t => S * b t % W) z 2 + indR (fun t => S * b t % W) z 3 + indR (fun t => S * b t % W) z 4) (S * b z) (nI k) hW hW2 (by omega) (by rw [kE]; exact hl) (by omega)
  rw [kE, show 0 + indR (fun t => S * b t % W) z 0 + indR (fun t => S * b t % W) z 1 + indR (fun t => S * b t % W) z 2 + indR (fun t => S * b t % W) z 3 + indR (fun t => S * b t % W) z 4 = indR (fun t => S * b t % W) z 0 + indR (fun t => S * b t % W) z 1 + indR (fun t => S * b t % W) z 2 + indR (fun t => S * b t % W) z 3 + indR (fun t => S * b t % W) z 4 by omega] at s5
  rw [kE, show 0 + indR (fun t => S * b t % W) z 0 + indR (fun t => S * b t % W) z 1 + indR (fun t => S * b t % W) z 2 + indR (fun t => S * b t % W) z 3 + indR (fun t => S * b t % W) z 4 = indR (fun t => S * b t % W) z 0 + indR (fun t => S * b t % W) z 1 + indR (fun t => S * b t % W) z 2 + indR (fun t => S * b t % W) z 3 + indR (fun t => S * b t % W) z 4 by omega] at s4
  exact s0.trans (s1.trans (s2.trans (s3.trans (s4.trans s5))))
theorem sh7_step (n : Nat) (lor : Int32) (lt ms sp w : Nat → Int32) (z1 z2 z3 x1 : Int32) (j k S W L i : Nat) (b : Nat → Nat) (gets : Nat → Int32) (rests : Nat → Int64) (hi : i < 5) (hS : S ≤ 10000000) (hW : 1 ≤ W) (hW2 : W ≤ 1200000000) (hb : b i ≤ W) (ho : FX7_broughtBy n lor lt ms sp w (nI i) (nI k) = some (nI (b i), ())) (hL : S * b i / W ≤ L) : FX7_share_50L n lor lt ms sp w z1 z2 z3 (j + 1) gets rests x1 (nI k) (nI S) (lN W) (nI L) (nI i) = FX7_share_50L n lor lt ms sp w z1 z2 z3 j (upd gets i (nI (S * b i / W))) (vp_updL rests i (lN (S * b i % W))) x1 (nI k) (nI S) (lN W) (nI (L - S * b i / W)) (nI (i + 1)) := by
  show FX7_share_50 n lor lt ms sp w z1 z2 z3 (FX7_share_50L n lor lt ms sp w z1 z2 z3 j) gets rests x1 (nI k) (nI S) (lN W) (nI L) (nI i) = _
  have hSi : S * b i ≤ 10000000 * 1200000000 := Nat.mul_le_mul hS (Nat.le_trans hb hW2)
  unfold FX7_share_50
  have c : ¬ (5 : Int32) ≤ nI i := nI_ge (b := 5) hi (by decide)
  have w0 : ¬ lN W = 0 := fun q => by
    have := (pk_lEQ (b := 0) (by omega) (by decide)).mp q
    omega
  have ii := nI_in (N := 5) hi (by decide)
  rw [if_neg c, ho, bd_s, lt1_e, nI_l (n := S) (by omega), nI_l (n := b i) (by omega), lN_mul, if_pos w0, lt1_e, if_pos ii, lt1_e, if_pos w0, lt1_e, if_pos ii, lt1_e, if_pos ii, lt1_e, lt1_e, nI_clamp (n := i) (by omega), pk_lRem (by omega) hW (by omega), pk_lDiv (by omega) hW (by omega), lN_i, pk_us, pk_sub hL, show nI i + (1 : Int32) = nI (i + 1) from nI_1 i]
theorem sh7 (n : Nat) (hn : 100 ≤ n) (lor : Int32) (lt ms sp w : Nat → Int32) (z k S W : Nat) (b : Nat → Nat) (gets : Nat → Int32) (rests : Nat → Int64) (hz : z < 5) (hS : S ≤ 10000000) (hWe : W = b 0 + b 1 + b 2 + b 3 + b 4) (hW : 1 ≤ W) (hW2 : W ≤ 1200000000) (ho : ∀ t, t < 5 → FX7_broughtBy n lor lt ms sp w (nI t) (nI k) = some (nI (b t), ())) : ∃ (p : Nat → Nat) (g' : Nat → Int32) (r' : Nat → Int64), PK (fun t => S * b t / W) (fun t => S * b t % W) (S - (S * b 0 / W + S * b 1 / W + S * b 2 / W + S * b 3 / W + S * b 4 / W)) p 0 g' r' ∧ FX7_share_50L n lor lt ms sp w (nI z) (nI k) (nI S) n gets rests (nI z) (nI k) (nI S) (lN W) (nI S) 0 = some (nI (S * b z / W + p z), g', r') := by
  obtain ⟨f, rfl⟩ : ∃ f, n = f + 6 := ⟨n - 6, by omega⟩
  have hb : ∀ t, t < 5 → b t ≤ W := by
    intro t ht
    rcases lt5 ht with rfl | rfl | rfl | rfl | rfl <;> omega
  obtain ⟨hg, hl⟩ := sh_bounds S b W hWe hW
  obtain ⟨k0, k1, k2, k3, k4, kE, l1, l2, l3, l4⟩ := sub_chain S _ _ _ _ _ hg
  have s0 := sh7_step (f + 6) lor lt ms sp w (nI z) (nI k) (nI S) (nI z) (f + 5) k S W S 0 b gets rests (by omega) hS hW hW2 (hb 0 (by omega)) (ho 0 (by omega)) k0
  have s1 := sh7_step (f + 6) lor lt ms sp w (nI z) (nI k) (nI S) (nI z) (f + 4) k S W (S - S * b 0 / W) 1 b (upd gets 0 (nI (S * b 0 / W))) (vp_updL rests 0 (lN (S * b 0 % W))) (by omega) hS hW hW2 (hb 1 (by omega)) (ho 1 (by omega)) k1
  have s2 := sh7_step (f + 6) lor lt ms sp w (nI z) (nI k) (nI S) (nI z) (f + 3) k S W (S - S * b 0 / W - S * b 1 / W) 2 b (upd (upd gets 0 (nI (S * b 0 / W))) 1 (nI (S * b 1 / W))) (vp_updL (vp_updL rests 0 (lN (S * b 0 % W))) 1 (lN (S * b 1 % W))) (by omega) hS hW hW2 (hb 2 (by omega)) (ho 2 (by omega)) k2
  have s3 := sh7_step (f + 6) lor lt ms sp w (nI z) (nI k) (nI S) (nI z) (f + 2) k S W (S - S * b 0 / W - S * b 1 / W - S * b 2 / W) 3 b (upd (upd (upd gets 0 (nI (S * b 0 / W))) 1 (nI (S * b 1 / W))) 2 (nI (S * b 2 / W))) (vp_updL (vp_updL (vp_updL rests 0 (lN (S * b 0 % W))) 1 (lN (S * b 1 % W))) 2 (lN (S * b 2 % W))) (by omega) hS hW hW2 (hb 3 (by omega)) (ho 3 (by omega)) k3
  have s4 := sh7_step (f + 6) lor lt ms sp w (nI z) (nI k) (nI S) (nI z) (f + 1) k S W (S - S * b 0 / W - S * b 1 / W - S * b 2 / W - S * b 3 / W) 4 b (upd (upd (upd (upd gets 0 (nI (S * b 0 / W))) 1 (nI (S * b 1 / W))) 2 (nI (S * b 2 / W))) 3 (nI (S * b 3 / W))) (vp_updL (vp_updL (vp_updL (vp_updL rests 0 (lN (S * b 0 % W))) 1 (lN (S * b 1 % W))) 2 (lN (S * b 2 % W))) 3 (lN (S * b 3 % W))) (by omega) hS hW hW2 (hb 4 (by omega)) (ho 4 (by omega)) k4
  rw [kE] at s4
  have hr : ∀ t, t < 5 → (fun t => S * b t % W) t < 2 ^ 62 := by
    intro t ht
    have := Nat.mod_lt (S * b t) hW
    show S * b t % W < 2 ^ 62
    omega
  generalize hG : upd (upd (upd (upd (upd gets 0 (nI (S * b 0 / W))) 1 (nI (S * b 1 / W))) 2 (nI (S * b 2 / W))) 3 (nI (S * b 3 / W))) 4 (nI (S * b 4 / W)) = G at s4
  generalize hR : vp_updL (vp_updL (vp_updL (vp_updL (vp_updL rests 0 (lN (S * b 0 % W))) 1 (lN (S * b 1 % W))) 2 (lN (S * b 2 % W))) 3 (lN (S * b 3 % W))) 4 (lN (S * b 4 % W)) = R at s4
  have hPK : PK (fun t => S * b t / W) (fun t => S * b t % W) (S - (S * b 0 / W + S * b 1 / W + S * b 2 / W + S * b 3 / W + S * b 4 / W)) (fun _ => 0) (S - (S * b 0 / W + S * b 1 / W + S * b 2 / W + S * b 3 / W + S * b 4 / W)) G R := by
    refine ⟨fun t ht => ⟨Nat.zero_le _, ?_, fun c => absurd c (show ¬ (0 : Nat) = 1 by decide), fun _ => ?_⟩, Nat.zero_add _, fun s t hs ht c => absurd c (show ¬ (0 : Nat) = 1 by decide)⟩
    · show G t = nI (S * b t / W + 0)
      rw [Nat.add_zero, ← hG]
      rcases lt5 ht with rfl | rfl | rfl | rfl | rfl
      · rw [pk_un (by omega), pk_un (by omega), pk_un (by omega), pk_un (by omega), pk_us]
      · rw [pk_un (by omega), pk_un (by omega), pk_un (by omega), pk_us]
      · rw [pk_un (by omega), pk_un (by omega), pk_us]
      · rw [pk_un (by omega), pk_us]
      · rw [pk_us]
    · show R t = lN (S * b t % W)
      rw [← hR]
      rcases lt5 ht with rfl | rfl | rfl | rfl | rfl
      · rw [pk_uLn (by omega), pk_uLn (by omega), pk_uLn (by omega), pk_uLn (by omega), pk_uLs]
      · rw [pk_uLn (by omega), pk_uLn (by omega), pk_uLn (by omega), pk_uLs]
      · rw [pk_uLn (by omega), pk_uLn (by omega), pk_uLs]
      · rw [pk_uLn (by omega), pk_uLs]
      · rw [pk_uLs]
  obtain ⟨p, g', r', hp, ep⟩ := picks (f + 6) hn lor lt ms sp w (nI z) (nI k) (nI S) (fun t => S * b t / W) (fun t => S * b t % W) hr _ z hl hz _ (f + 6) (fun _ => 0) G R (by omega) hPK
  have s5 : FX7_share_50L (f + 6) lor lt ms sp w (nI z) (nI k) (nI S) (f + 1) G R (nI z) (nI k) (nI S) (lN W) (nI (S - (S * b 0 / W + S * b 1 / W + S * b 2 / W + S * b 3 / W + S * b 4 / W))) (nI 5) = FX7_share_112L (f + 6) lor lt ms sp w (nI z) (nI k) (nI S) (f + 6) G R (nI z) (nI (S - (S * b 0 / W + S * b 1 / W + S * b 2 / W + S * b 3 / W + S * b 4 / W))) := by
    show FX7_share_50 (f + 6) lor lt ms sp w (nI z) (nI k) (nI S) (FX7_share_50L (f + 6) lor lt ms sp w (nI z) (nI k) (nI S) f) G R (nI z) (nI k) (nI S) (lN W) (nI (S - (S * b 0 / W + S * b 1 / W + S * b 2 / W + S * b 3 / W + S * b 4 / W))) (nI 5) = _
    unfold FX7_share_50
    have c : (5 : Int32) ≤ nI 5 := by decide
    rw [if_pos c]
  exact ⟨p, g', r', hp, s0.trans (s1.trans (s2.trans (s3.trans (s4.trans (s5.trans ep)))))⟩
theorem J_share (n : Nat) (hn : 100 ≤ n) {cnt : Int32} {towns lo st ot : Nat → Int32} {lor : Int32} {lt w sp ms : Nat → Int32} (gets : Nat → Int32) (rests : Nat → Int64) (z1 z2 z3 : Int32) (h : YR cnt towns lo st ot lor lt w sp ms) {u : Int32 × Unit} {v : Int32 × (Nat → Int32) × (Nat → Int64)} (e6 : FX6_share n ot z1 z2 z3 = some u) (e7 : FX7_share n lor lt ms sp w gets rests z1 z2 z3 = some v) : u.1 = v.1 := by
  unfold FX6_share at e6
  unfold FX7_share at e7
  rcases yin5 z1 with c | ⟨c, c', z, hz, rfl⟩
  · rw [(yk0 n z1 c).2.2.1, bd_s, if_pos rfl] at e6
    rw [(yk0 n z1 c).2.2.2, bd_s, if_pos rfl] at e7
    injection e6 with e6; injection e7 with e7; subst e6; subst e7
    rfl
  rw [(yk1 n _ c c').2.2.1, bd_s, if_neg (by decide)] at e6
  rw [(yk1 n _ c c').2.2.2, bd_s, if_neg (by decide)] at e7
  rcases yin5 z2 with d | ⟨d, d', k, hk, rfl⟩
  · rw [(yk0 n z2 d).1, bd_s, if_pos rfl] at e6
    rw [(yk0 n z2 d).2.1, bd_s, if_pos rfl] at e7
    injection e6 with e6; injection e7 with e7; subst e6; subst e7
    rfl
  rw [(yk1 n _ d d').1, bd_s, if_neg (by decide)] at e6
  rw [(yk1 n _ d d').2.1, bd_s, if_neg (by decide)] at e7
  by_cases c1 : z3 < 0
  · rw [if_pos c1] at e6 e7
    injection e6 with e6; injection e7 with e7; subst e6; subst e7
    rfl
  rw [if_neg c1] at e6 e7
  by_cases c2 : z3 ≤ (10000000 : Int32)
  case neg =>
    rw [if_neg c2] at e6 e7
    injection e6 with e6; injection e7 with e7; subst e6; subst e7
    rfl
  rw [if_pos c2] at e6 e7
  obtain ⟨S, hS, rfl⟩ := nI_of2 (M := 10000000) (n := 10000000) (by decide) c1 c2
  obtain ⟨b, hb, h1, h2⟩ := YR_nat h n hn k hk
  rw [byAll_ok n (by omega) lor lt ms sp w k b h2, bd_s, lt1_e, nI_l (by omega)] at e7
  obtain ⟨W, hWe⟩ : ∃ W, W = b 0 + b 1 + b 2 + b 3 + b 4 := ⟨_, rfl⟩
  rw [← hWe] at e7
  rcases Nat.eq_zero_or_pos W with q | q
  · have ez : FX5_shareOf n ot (nI z) (nI k) (nI S) = some ((0 : Int32), ()) := by
      unfold FX5_shareOf
      have hoa := ofAll_ok n (by omega) ot k hk b hb h1
      rw [← hWe, q] at hoa
      rw [hoa, bd_s, if_neg (by decide)]
    rw [ez, bd_s] at e6
    rw [q, if_pos (by decide)] at e7
    injection e6 with e6; injection e7 with e7; subst e6; subst e7
    rfl
  · have hW2 : W ≤ 1200000000 := by omega
    obtain ⟨p, g', r', hp, ep⟩ := sh7 n hn lor lt ms sp w z k S W b gets rests hz hS hWe q hW2 h2
    have cW : ¬ lg_cmp (lN W) (0 : Int64) = 0 := fun r => by
      have t := lgN W 0 (by omega) (by decide)
      have r2 := eq32 r
      rw [show ((0 : Int32)).toInt = 0 by decide] at r2
      rw [show lN 0 = (0 : Int64) from rfl] at t
      omega
    rw [if_neg cW, ep] at e7
    rw [sh6 n hn ot z k S W b hz hk hS hWe q hW2 h1, bd_s] at e6
    have pi := pick_iff (fun t => S * b t % W) p z _ hz (fun t ht => (hp.1 t ht).1) (by have := hp.2.1; omega) hp.2.2
    injection e6 with e6; injection e7 with e7; subst e6; subst e7
    show nI _ = nI _
    rcases pi with ⟨a1, a2⟩ | ⟨a1, a2⟩
    · rw [a1, if_neg (by omega)]
    · rw [a1, if_pos a2]
theorem YR_init : YR 0 (fun _ => 0) (fun _ => 0) (fun _ => 0) (fun _ => 0) 0 (fun _ => 0) (fun _ => 0) (fun _ => 0) (fun _ => 0) := by
  refine ⟨0, by omega, nI_0.symm, nI_0.symm, fun l hl => by omega, fun l _ => ⟨rfl, fun _ => rfl⟩, fun l hl => by omega, fun l hl => by omega, fun t _ k _ => rfl⟩
theorem HR_init {a b : Nat → Int32} (h1 : ∀ i : Nat, (i < 5) → ((a i).toInt = -1)) (h2 : ∀ i : Nat, (i < 5) → ((b i).toInt = -1)) : HR a b := by
  intro k hk
  have e1 : a k = -1 := Int32.toInt_inj.mp (by rw [h1 k hk]; decide)
  have e2 : b k = -1 := Int32.toInt_inj.mp (by rw [h2 k hk]; decide)
  exact ⟨by rw [e1, e2], Or.inl e1⟩
