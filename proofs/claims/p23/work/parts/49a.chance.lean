def SM {ρ α β : Type} (x : Option (ρ × α)) (y : Option (ρ × β)) : Prop := ∃ u v, x = some u ∧ y = some v ∧ u.1 = v.1
theorem SM_map {ρ α β : Type} {x : Option (ρ × α)} {y : Option (ρ × β)} {r : ρ} (hx : x.map Prod.fst = some r) (hy : y.map Prod.fst = some r) : SM x y := by
  obtain ⟨u, h1, h2⟩ := Option.map_eq_some_iff.mp hx
  obtain ⟨v, h3, h4⟩ := Option.map_eq_some_iff.mp hy
  exact ⟨u, v, h1, h3, by rw [h2, h4]⟩
theorem SM_mk {ρ α β : Type} {x : Option (ρ × α)} {y : Option (ρ × β)} {r : ρ} {a : α} {b : β} (hx : x = some (r, a)) (hy : y = some (r, b)) : SM x y := ⟨_, _, hx, hy, rfl⟩
theorem lpR_s {σ : Type} (step : σ → σ) (z : σ) (j : Nat) : lpR step z (j + 1) = step (lpR step z j) := rfl
theorem bd_s {α β : Type} (a : α) (k : α → Option β) : bd (some a) k = k a := rfl
theorem lt1_e {α β : Type} (e : α) (k : α → β) : lt1 e k = k e := rfl
/-! 19 chance -/
def wOK (a b : Nat) : Bool := match FX7_ways 2200000000 (nI a) (nI b) with
  | some (w, _) => decide (0 ≤ w ∧ w ≤ 155117520 ∧ (b ≤ a → 1 ≤ w))
  | none => false
theorem wOK_all : ∀ a, a < 31 → ∀ b, b < 31 → wOK a b = true := by decide +kernel
theorem ways_ok (a b : Nat) (ha : a < 31) (hb : b < 31) : ∃ w : Nat, w ≤ 155117520 ∧ (b ≤ a → 1 ≤ w) ∧ FX7_ways 2200000000 (nI a) (nI b) = some (lN w, ()) := by
  have h := wOK_all a ha b hb
  unfold wOK at h
  split at h
  · rename_i w u heq
    have h := of_decide_eq_true h
    obtain ⟨k, hk, rfl⟩ := pk_lOf (Int64.not_lt.mpr h.1)
    refine ⟨k, ?_, ?_, heq⟩
    · have h2 := h.2.1
      rw [show (155117520 : Int64) = lN 155117520 from rfl] at h2
      exact (pk_lLE hk (by decide)).mp h2
    · intro q
      have h2 := h.2.2 q
      rw [show (1 : Int64) = lN 1 from rfl] at h2
      exact (pk_lLE (by decide) hk).mp h2
  · exact absurd h (by decide)
theorem ways_eq (a b : Int32) : FX6_waysToDraw 2200000000 a b = FX7_ways 2200000000 a b := rfl
theorem lg_pos {b : Nat} (h0 : 0 < b) (hb : b < 2 ^ 63) : ¬ lg_cmp (lN b) 0 = 0 := by
  unfold lg_cmp
  have h : lN b > 0 := (pk_lLT (a := 0) (by decide) hb).mpr h0
  rw [if_pos h]
  decide
theorem lN_ne0 {b : Nat} (h0 : 0 < b) (hb : b < 2 ^ 63) : ¬ lN b = 0 := fun e => by
  have := (pk_lEQ (b := 0) hb (by decide)).mp e
  omega
theorem gd_0 (z0 z2 : Int64) (j a : Nat) (i : Int32) : FX6_greatestDivisor_9L 2200000000 z0 z2 (j + 1) (lN a) (lN 0) i = some (lN a, ()) ∧ FX7_divisor_6L 2200000000 z0 z2 (j + 1) (lN a) (lN 0) = some (lN a, ()) := by
  constructor
  · show FX6_greatestDivisor_9 2200000000 z0 z2 (FX6_greatestDivisor_9L 2200000000 z0 z2 j) (lN a) (lN 0) i = _
    unfold FX6_greatestDivisor_9
    rw [if_pos (by decide)]
  · show FX7_divisor_6 2200000000 z0 z2 (FX7_divisor_6L 2200000000 z0 z2 j) (lN a) (lN 0) = _
    unfold FX7_divisor_6
    rw [if_pos (by decide)]
theorem gd_s (z0 z2 : Int64) (j a b i : Nat) (ha : a < 2 ^ 63) (h0 : 0 < b) (hb : b < 2 ^ 63) (hi : i < 100) : FX6_greatestDivisor_9L 2200000000 z0 z2 (j + 1) (lN a) (lN b) (nI i) = FX6_greatestDivisor_9L 2200000000 z0 z2 j (lN b) (lN (a % b)) (nI (i + 1)) ∧ FX7_divisor_6L 2200000000 z0 z2 (j + 1) (lN a) (lN b) = FX7_divisor_6L 2200000000 z0 z2 j (lN b) (lN (a % b)) := by
  have c : ¬ (100 : Int32) ≤ nI i := nI_ge (b := 100) hi (by decide)
  constructor
  · show FX6_greatestDivisor_9 2200000000 z0 z2 (FX6_greatestDivisor_9L 2200000000 z0 z2 j) (lN a) (lN b) (nI i) = _
    unfold FX6_greatestDivisor_9
    rw [if_neg (lg_pos h0 hb), if_neg c, if_pos (lN_ne0 h0 hb), lt1_e, lt1_e, pk_lRem ha h0 hb, show nI i + (1 : Int32) = nI (i + 1) from nI_1 i]
  · show FX7_divisor_6 2200000000 z0 z2 (FX7_divisor_6L 2200000000 z0 z2 j) (lN a) (lN b) = _
    unfold FX7_divisor_6
    rw [if_neg (lg_pos h0 hb), if_pos (lN_ne0 h0 hb), lt1_e, pk_lRem ha h0 hb]
theorem gcd_st (a b : Nat) : Nat.gcd a b = Nat.gcd b (a % b) := by
  rw [Nat.gcd_comm a b, Nat.gcd_rec b a, Nat.gcd_comm]
theorem gcdL (z0 z2 : Int64) : ∀ (t a b i j : Nat), b < 2 ^ t → a < 2 ^ 63 → t ≤ 62 → 2 * t < j → i + 2 * t ≤ 99 → FX6_greatestDivisor_9L 2200000000 z0 z2 j (lN a) (lN b) (nI i) = some (lN (Nat.gcd a b), ()) ∧ FX7_divisor_6L 2200000000 z0 z2 j (lN a) (lN b) = some (lN (Nat.gcd a b), ()) := by
  intro t
  induction t with
  | zero =>
    intro a b i j hb ha ht hj hi
    have : b = 0 := by omega
    subst this
    obtain ⟨j, rfl⟩ : ∃ q, j = q + 1 := ⟨j - 1, by omega⟩
    rw [Nat.gcd_zero_right]
    exact gd_0 z0 z2 j a (nI i)
  | succ t ih =>
    intro a b i j hb ha ht hj hi
    have hp : 2 ^ (t + 1) ≤ 2 ^ 62 := Nat.pow_le_pow_right (by decide) (by omega)
    have hb63 : b < 2 ^ 63 := by
      have : (2 : Nat) ^ 62 < 2 ^ 63 := by decide
      omega
    obtain ⟨j, rfl⟩ : ∃ q, j = q + 2 := ⟨j - 2, by omega⟩
    rcases Nat.eq_zero_or_pos b with rfl | h0
    · rw [Nat.gcd_zero_right]
      exact gd_0 z0 z2 (j + 1) a (nI i)
    · have s1 := gd_s z0 z2 (j + 1) a b i ha h0 hb63 (by omega)
      rw [s1.1, s1.2, gcd_st]
      have hr : a % b < b := Nat.mod_lt _ h0
      rcases Nat.eq_zero_or_pos (a % b) with e | h1
      · rw [e, Nat.gcd_zero_right]
        exact gd_0 z0 z2 j b (nI (i + 1))
      · have s2 := gd_s z0 z2 j b (a % b) (i + 1) hb63 h1 (by omega) (by omega)
        rw [s2.1, s2.2, gcd_st]
        have hm : b % (a % b) < 2 ^ t := by
          have h2 : b % (a % b) < a % b := Nat.mod_lt _ h1
          have h3 : b % (a % b) + (a % b) ≤ b := by
            have h4 := Nat.div_add_mod b (a % b)
            have h5 : 1 ≤ b / (a % b) := Nat.div_pos (by omega) h1
            have h6 : a % b ≤ (a % b) * (b / (a % b)) := Nat.le_mul_of_pos_right _ h5
            omega
          have h7 : 2 ^ (t + 1) = 2 * 2 ^ t := by rw [Nat.pow_succ]; omega
          omega
        exact ih (a % b) (b % (a % b)) (i + 1 + 1) j hm (by omega) (by omega) (by omega) (by omega)
theorem chL (z1 z2 z3 z4 z5' : Int32) (n b s a w : Nat) (z5 : Int32) (hn : n < 31) (hb : b ≤ n) (hs : s ≤ n) (ha : a ≤ s) (hw : FX7_ways 2200000000 (nI n) (nI s) = some (lN w, ())) (hw1 : 1 ≤ w) (hw2 : w ≤ 155117520) : ∀ (j k P : Nat), k ≤ a + 1 → a + 1 < k + j → P ≤ k * 24061445010950400 → SM (FX6_chance_68L 2200000000 z1 z2 z3 z4 z5' j (nI n) (nI b) (nI s) (nI a) z5 (lN w) (lN P) (nI k)) (FX7_chance_59L 2200000000 z1 z2 z3 z4 z5' j (nI n) (nI b) (nI s) (nI a) z5 (lN P) (nI k)) := by
  intro j
  induction j with
  | zero => intro k P h1 h2; omega
  | succ j ih =>
    intro k P h1 h2 hP
    show SM (FX6_chance_68 2200000000 z1 z2 z3 z4 z5' (FX6_chance_68L 2200000000 z1 z2 z3 z4 z5' j) (nI n) (nI b) (nI s) (nI a) z5 (lN w) (lN P) (nI k)) (FX7_chance_59 2200000000 z1 z2 z3 z4 z5' (FX7_chance_59L 2200000000 z1 z2 z3 z4 z5' j) (nI n) (nI b) (nI s) (nI a) z5 (lN P) (nI k))
    unfold FX6_chance_68 FX7_chance_59
    have hP63 : P < 2 ^ 63 := by
      have h3 : k * 24061445010950400 ≤ 31 * 24061445010950400 := Nat.mul_le_mul_right _ (by omega)
      have h4 : 31 * 24061445010950400 < 2 ^ 63 := by decide
      omega
    by_cases h : k = a + 1
    · subst h
      have c : nI a < nI (a + 1) := nI_lt (by omega) (by omega)
      rw [if_pos c, if_pos c, hw, bd_s]
      have g := gcdL (lN P) (lN w) 28 P w 0 2200000000 (by omega) hP63 (by decide) (by decide) (by decide)
      rw [nI_0] at g
      have g6 : FX6_greatestDivisor 2200000000 (lN P) (lN w) = some (lN (Nat.gcd P w), ()) := g.1
      have g7 : FX7_divisor 2200000000 (lN P) (lN w) = some (lN (Nat.gcd P w), ()) := g.2
      have gp : 0 < Nat.gcd P w := Nat.gcd_pos_of_pos_right _ (by omega)
      have gl : Nat.gcd P w ≤ w := Nat.le_of_dvd (by omega) (Nat.gcd_dvd_right P w)
      have gb : Nat.gcd P w < 2 ^ 63 := by omega
      rw [g6, bd_s]
      dsimp only
      rw [g7, bd_s]
      have cg : 0 ≤ lg_cmp (lN (Nat.gcd P w)) 1 := by
        unfold lg_cmp
        by_cases q : lN (Nat.gcd P w) > 1
        · rw [if_pos q]; decide
        · rw [if_neg q]
          have q1 : ¬ 1 < Nat.gcd P w := fun z => q ((pk_lLT (a := 1) (by decide) gb).mpr z)
          have q2 : Nat.gcd P w = 1 := by omega
          rw [q2]
          decide
      rw [if_pos cg]
      by_cases c5 : z5 = 0
      · rw [if_pos c5, if_pos (lN_ne0 gp gb)]; exact SM_mk rfl rfl
      · rw [if_neg c5, if_pos (lN_ne0 gp gb)]; exact SM_mk rfl rfl
    · have hk : k ≤ a := by omega
      have c : ¬ nI a < nI k := nI_nlt hk (by omega)
      rw [if_neg c, if_neg c]
      obtain ⟨w1, hw11, -, e1⟩ := ways_ok b k (by omega) (by omega)
      have es : nI n - nI b = nI (n - b) := pk_sub hb
      have ek : nI s - nI k = nI (s - k) := pk_sub (by omega)
      obtain ⟨w3, hw31, -, e3⟩ := ways_ok (n - b) (s - k) (by omega) (by omega)
      rw [ways_eq, ways_eq, es, ek, e1, e3, bd_s, bd_s, bd_s, bd_s, lt1_e, lt1_e, lt1_e, lt1_e, show nI k + (1 : Int32) = nI (k + 1) from nI_1 k]
      dsimp only
      rw [lN_mul, lN_add]
      refine ih (k + 1) (P + w1 * w3) (by omega) (by omega) ?_
      have h5 : w1 * w3 ≤ 155117520 * 155117520 := Nat.mul_le_mul hw11 hw31
      have h6 : 155117520 * 155117520 = 24061445010950400 := by decide
      rw [Nat.succ_mul]
      omega
theorem M_chance (z1 z2 z3 z4 z5 : Int32) : SM (FX6_chance 2200000000 z1 z2 z3 z4 z5) (FX7_chance 2200000000 z1 z2 z3 z4 z5) := by
  unfold FX6_chance FX7_chance
  by_cases c1 : z1 < (1 : Int32)
  · rw [if_pos c1, if_pos c1]; exact SM_mk rfl rfl
  rw [if_neg c1, if_neg c1]
  by_cases c2 : (30 : Int32) < z1
  · rw [if_pos c2, if_pos c2]; exact SM_mk rfl rfl
  rw [if_neg c2, if_neg c2]
  by_cases c3 : z2 < 0
  · rw [if_pos c3, if_pos c3]; exact SM_mk rfl rfl
  rw [if_neg c3, if_neg c3]
  by_cases c4 : z1 < z2
  · rw [if_pos c4, if_pos c4]; exact SM_mk rfl rfl
  rw [if_neg c4, if_neg c4]
  by_cases c5 : z3 < 0
  · rw [if_pos c5, if_pos c5]; exact SM_mk rfl rfl
  rw [if_neg c5, if_neg c5]
  by_cases c6 : z1 < z3
  · rw [if_pos c6, if_pos c6]; exact SM_mk rfl rfl
  rw [if_neg c6, if_neg c6]
  by_cases c7 : z4 < 0
  · rw [if_pos c7, if_pos c7]; exact SM_mk rfl rfl
  rw [if_neg c7, if_neg c7]
  by_cases c8 : z4 ≤ z3
  · rw [if_pos c8, if_neg (Int32.not_lt.mpr c8)]
    obtain ⟨n, hn1, rfl⟩ := nI_of (fun h => c1 (Int32.lt_trans h (by decide)) : ¬ z1 < 0)
    obtain ⟨b, hb1, rfl⟩ := nI_of c3
    obtain ⟨s, hs1, rfl⟩ := nI_of c5
    obtain ⟨a, ha1, rfl⟩ := nI_of c7
    have hn : n < 31 := by
      rcases Nat.lt_or_ge 30 n with q | q
      · exact absurd (nI_lt (a := 30) q hn1) c2
      · omega
    have hb : b ≤ n := by
      rcases Nat.lt_or_ge n b with q | q
      · exact absurd (nI_lt q hb1) c4
      · omega
    have hs : s ≤ n := by
      rcases Nat.lt_or_ge n s with q | q
      · exact absurd (nI_lt q hs1) c6
      · omega
    have ha : a ≤ s := by
      rcases Nat.lt_or_ge s a with q | q
      · exact absurd c8 (nI_ge q ha1)
      · omega
    obtain ⟨w, hw1, hw2, ew⟩ := ways_ok n s (by omega) (by omega)
    have main := chL (nI n) (nI b) (nI s) (nI a) z5 n b s a w z5 hn hb hs ha ew (hw2 hs) hw1 2200000000 0 0 (by omega) (by omega) (by omega)
    rw [nI_0] at main
    have e55 : FX6_chance_55 2200000000 (nI n) (nI b) (nI s) (nI a) z5 (nI n) (nI b) (nI s) (nI a) z5 = FX6_chance_68L 2200000000 (nI n) (nI b) (nI s) (nI a) z5 2200000000 (nI n) (nI b) (nI s) (nI a) z5 (lN w) (lN 0) 0 := by
      unfold FX6_chance_55
      rw [ways_eq, ew, bd_s]
      rfl
    by_cases d0 : z5 = 0
    · rw [if_pos d0, if_neg (by rw [d0]; decide), if_pos (by rw [d0]; decide), e55]
      exact main
    · rw [if_neg d0]
      by_cases d1 : z5 = (1 : Int32)
      · rw [if_pos d1, if_neg (by rw [d1]; decide), if_pos (by rw [d1]; decide), e55]
        exact main
      · rw [if_neg d1]
        by_cases d2 : z5 < 0
        · rw [if_pos d2]; exact SM_mk rfl rfl
        · rw [if_neg d2]
          have d3 : ¬ z5 ≤ (1 : Int32) := by
            intro q
            obtain ⟨k, hk, rfl⟩ := nI_of2 (M := 1) (n := 1) (by decide) d2 q
            rcases (show k = 0 ∨ k = 1 by omega) with rfl | rfl
            · exact d0 rfl
            · exact d1 rfl
          rw [if_neg d3]; exact SM_mk rfl rfl
  · rw [if_neg c8, if_pos (Int32.not_le.mp c8)]; exact SM_mk rfl rfl

def chV (z1 z2 z3 z4 z5 : Int32) : Int32 := match FX7_chance 2200000000 z1 z2 z3 z4 z5 with
  | some u => u.1
  | none => 0
theorem chV_ok (z1 z2 z3 z4 z5 : Int32) : ∃ u v, FX6_chance 2200000000 z1 z2 z3 z4 z5 = some u ∧ FX7_chance 2200000000 z1 z2 z3 z4 z5 = some v ∧ u.1 = chV z1 z2 z3 z4 z5 ∧ v.1 = chV z1 z2 z3 z4 z5 := by
  obtain ⟨u, v, h1, h2, h3⟩ := M_chance z1 z2 z3 z4 z5
  have e : v.1 = chV z1 z2 z3 z4 z5 := by unfold chV; rw [h2]
  exact ⟨u, v, h1, h2, by rw [h3, e], e⟩
theorem sX6_chance (n : Nat) (hn : n = 2200000000) (z1 z2 z3 z4 z5 : Int32) : OK (FX6_chance n z1 z2 z3 z4 z5) (fun u => (u.1).toInt = (chV z1 z2 z3 z4 z5).toInt) := by
  subst hn
  obtain ⟨u, v, h1, h2, h3, h4⟩ := chV_ok z1 z2 z3 z4 z5
  exact ⟨u, h1, eq32 h3⟩
theorem sX7_chance (n : Nat) (hn : n = 2200000000) (z1 z2 z3 z4 z5 : Int32) : OK (FX7_chance n z1 z2 z3 z4 z5) (fun u => (u.1).toInt = (chV z1 z2 z3 z4 z5).toInt) := by
  subst hn
  obtain ⟨u, v, h1, h2, h3, h4⟩ := chV_ok z1 z2 z3 z4 z5
  exact ⟨v, h2, eq32 h4⟩
