/-! numbers: what is held is small, so no sum runs over -/
theorem held_nat (sp w : Nat → Int32) (l k : Nat) (hk : k < 5) (h : (∃ v : Nat, v ≤ 20000 ∧ w l = nI v) ∧ ∀ k, k < 5 → ∃ v : Nat, v ≤ 1000 ∧ sp (5 * l + k) = nI v) : ∃ f : Nat, f ≤ 20000000 ∧ heldV sp w l k = nI f := by
  obtain ⟨⟨a, ha, ea⟩, hs⟩ := h
  obtain ⟨s0, h0, e0⟩ := hs 0 (by omega)
  obtain ⟨s1, h1, e1⟩ := hs 1 (by omega)
  obtain ⟨s2, h2, e2⟩ := hs 2 (by omega)
  obtain ⟨s3, h3, e3⟩ := hs 3 (by omega)
  obtain ⟨s4, h4, e4⟩ := hs 4 (by omega)
  obtain ⟨s, hs1, es⟩ := hs k hk
  have hle : s ≤ s0 + s1 + s2 + s3 + s4 := by
    rcases lt5 hk with rfl | rfl | rfl | rfl | rfl
    · rw [e0] at es; have := (nI_eq (by omega) (by omega)).mp es; omega
    · rw [e1] at es; have := (nI_eq (by omega) (by omega)).mp es; omega
    · rw [e2] at es; have := (nI_eq (by omega) (by omega)).mp es; omega
    · rw [e3] at es; have := (nI_eq (by omega) (by omega)).mp es; omega
    · rw [e4] at es; have := (nI_eq (by omega) (by omega)).mp es; omega
  have et : sall sp l = nI (s0 + s1 + s2 + s3 + s4) := by
    unfold sall
    rw [e0, e1, e2, e3, e4, Int32.zero_add, nI_add, nI_add, nI_add, nI_add]
  unfold heldV heldW
  rw [et, ea, es]
  rcases Nat.eq_zero_or_pos (s0 + s1 + s2 + s3 + s4) with q | q
  · rw [q]; exact ⟨0, by omega, if_pos (by decide)⟩
  · rw [if_neg (nI_ne0 q (by omega)), nI_l (n := a) (by omega), nI_l (n := s) (by omega), nI_l (n := s0 + s1 + s2 + s3 + s4) (by omega), show (1000 : Int64) = lN 1000 from rfl, lN_mul, lN_mul]
    have hb : a * 1000 * s ≤ 20000000 * 1000 := Nat.mul_le_mul (by omega) hs1
    rw [pk_lDiv (by omega) q (by omega), lN_i]
    refine ⟨_, ?_, rfl⟩
    have h5 : a * 1000 * s / (s0 + s1 + s2 + s3 + s4) ≤ a * 1000 := by
      apply Nat.div_le_of_le_mul
      rw [Nat.mul_comm (s0 + s1 + s2 + s3 + s4)]
      exact Nat.mul_le_mul_left _ hle
    omega
def bN (lt ms : Nat → Int32) (f : Nat → Nat) (t : Nat) : Nat → Nat
  | 0 => 0
  | l + 1 => bN lt ms f t l + (if lt l = nI t ∧ ms l = 0 then f l else 0)
theorem bN_s (lt ms : Nat → Int32) (f : Nat → Nat) (t l : Nat) : bN lt ms f t (l + 1) = bN lt ms f t l + (if lt l = nI t ∧ ms l = 0 then f l else 0) := rfl
theorem brS_bN (lt ms sp w : Nat → Int32) (f : Nat → Nat) (t k : Nat) : ∀ m : Nat, (∀ l, l < m → heldV sp w l k = nI (f l)) → brS lt ms sp w (nI t) k m = nI (bN lt ms f t m) := by
  intro m
  induction m with
  | zero => intro _; exact nI_0.symm
  | succ m ih =>
    intro h
    rw [brS_s, bN_s, ih (fun l hl => h l (by omega)), ← nI_add, h m (by omega)]
    by_cases c : lt m = nI t ∧ ms m = 0
    · rw [if_pos c, if_pos c]
    · rw [if_neg c, if_neg c, nI_0]
theorem bN_sum (lt ms : Nat → Int32) (f : Nat → Nat) : ∀ m : Nat, (∀ l, l < m → f l ≤ 20000000) → (∀ l, l < m → ∃ t : Nat, t < 5 ∧ lt l = nI t) → bN lt ms f 0 m + bN lt ms f 1 m + bN lt ms f 2 m + bN lt ms f 3 m + bN lt ms f 4 m ≤ m * 20000000 := by
  intro m
  induction m with
  | zero => intro _ _; exact Nat.zero_le _
  | succ m ih =>
    intro h ht
    have hi := ih (fun l hl => h l (by omega)) (fun l hl => ht l (by omega))
    have hf := h m (by omega)
    obtain ⟨t0, ht0, e⟩ := ht m (by omega)
    have gz : ∀ t, t < 5 → t ≠ t0 → (if lt m = nI t ∧ ms m = 0 then f m else 0) = 0 := by
      intro t h5 hne
      apply if_neg
      intro c
      rw [e] at c
      exact hne ((nI_eq (by omega) (by omega)).mp c.1).symm
    have gl : (if lt m = nI t0 ∧ ms m = 0 then f m else 0) ≤ 20000000 := by
      by_cases c : lt m = nI t0 ∧ ms m = 0
      · rw [if_pos c]; exact hf
      · rw [if_neg c]; exact Nat.zero_le _
    rw [bN_s, bN_s, bN_s, bN_s, bN_s]
    rcases lt5 ht0 with rfl | rfl | rfl | rfl | rfl
    · rw [gz 1 (by omega) (by omega), gz 2 (by omega) (by omega), gz 3 (by omega) (by omega), gz 4 (by omega) (by omega)]; omega
    · rw [gz 0 (by omega) (by omega), gz 2 (by omega) (by omega), gz 3 (by omega) (by omega), gz 4 (by omega) (by omega)]; omega
    · rw [gz 0 (by omega) (by omega), gz 1 (by omega) (by omega), gz 3 (by omega) (by omega), gz 4 (by omega) (by omega)]; omega
    · rw [gz 0 (by omega) (by omega), gz 1 (by omega) (by omega), gz 2 (by omega) (by omega), gz 4 (by omega) (by omega)]; omega
    · rw [gz 0 (by omega) (by omega), gz 1 (by omega) (by omega), gz 2 (by omega) (by omega), gz 3 (by omega) (by omega)]; omega
/-- what the TOWNS brought of a KIND, as small numbers, on both sides -/
theorem YR_nat {cnt : Int32} {towns lo st ot : Nat → Int32} {lor : Int32} {lt w sp ms : Nat → Int32} (h : YR cnt towns lo st ot lor lt w sp ms) (n : Nat) (hn : 100 ≤ n) (k : Nat) (hk : k < 5) : ∃ b : Nat → Nat, b 0 + b 1 + b 2 + b 3 + b 4 ≤ 1200000000 ∧ (∀ t, t < 5 → ot (5 * t + k) = nI (b t)) ∧ (∀ t, t < 5 → FX7_broughtBy n lor lt ms sp w (nI t) (nI k) = some (nI (b t), ())) := by
  obtain ⟨m, hm, rfl, rfl, hT, hS, hL, hW, hO⟩ := h
  have hf : ∀ l : Nat, ∃ f : Nat, l < m → (f ≤ 20000000 ∧ heldV sp w l k = nI f) := by
    intro l
    by_cases q : l < m
    · obtain ⟨f, h1, h2⟩ := held_nat sp w l k hk (hW l q)
      exact ⟨f, fun _ => ⟨h1, h2⟩⟩
    · exact ⟨0, fun c => absurd c q⟩
  obtain ⟨f, hf⟩ := Classical.axiomOfChoice hf
  have hs := bN_sum lt ms f m (fun l hl => (hf l hl).1) (fun l hl => (hT l hl).2)
  have hmm : m * 20000000 ≤ 60 * 20000000 := Nat.mul_le_mul_right _ hm
  refine ⟨fun t => bN lt ms f t m, (show bN lt ms f 0 m + bN lt ms f 1 m + bN lt ms f 2 m + bN lt ms f 3 m + bN lt ms f 4 m ≤ 1200000000 by omega), fun t ht => ?_, fun t ht => ?_⟩
  · rw [hO t ht k hk]; exact brS_bN lt ms sp w f t k m (fun l hl => (hf l hl).2)
  · rw [brBy_ok n hn lt ms sp w (nI t) k m hk hm, brS_bN lt ms sp w f t k m (fun l hl => (hf l hl).2)]
theorem ofAll_step (n : Nat) (ot : Nat → Int32) (z1 : Int32) (j k t : Nat) (x2 : Int64) (hk : k < 5) (ht : t < 5) : FX5_ofAll_5L n ot z1 (j + 1) (nI k) x2 (nI t) = FX5_ofAll_5L n ot z1 j (nI k) (x2 + (ot (5 * t + k)).toInt64) (nI (t + 1)) := by
  show FX5_ofAll_5 n ot z1 (FX5_ofAll_5L n ot z1 j) (nI k) x2 (nI t) = _
  unfold FX5_ofAll_5
  have e : nI t * (5 : Int32) + nI k = nI (5 * t + k) := by
    rw [show (5 : Int32) = nI 5 from rfl, pk_mul, nI_add, Nat.mul_comm]
  have c : ¬ (5 : Int32) ≤ nI t := nI_ge (b := 5) ht (by decide)
  rw [if_neg c, e, if_pos (nI_in (N := 25) (by omega) (by decide)), lt1_e, lt1_e, nI_clamp (by omega), show nI t + (1 : Int32) = nI (t + 1) from nI_1 t]
theorem ofAll_end (n : Nat) (ot : Nat → Int32) (z1 : Int32) (j : Nat) (x1 : Int32) (x2 : Int64) : FX5_ofAll_5L n ot z1 (j + 1) x1 x2 (nI 5) = some (x2, ()) := by
  show FX5_ofAll_5 n ot z1 (FX5_ofAll_5L n ot z1 j) x1 x2 (nI 5) = _
  unfold FX5_ofAll_5
  have c : (5 : Int32) ≤ nI 5 := by decide
  rw [if_pos c]
theorem ofAll_ok (n : Nat) (hn : 6 ≤ n) (ot : Nat → Int32) (k : Nat) (hk : k < 5) (b : Nat → Nat) (hb : b 0 + b 1 + b 2 + b 3 + b 4 ≤ 1200000000) (ho : ∀ t, t < 5 → ot (5 * t + k) = nI (b t)) : FX5_ofAll n ot (nI k) = some (lN (b 0 + b 1 + b 2 + b 3 + b 4), ()) := by
  obtain ⟨m, rfl⟩ : ∃ m, n = m + 6 := ⟨n - 6, by omega⟩
  have h0 := ofAll_step (m + 6) ot (nI k) (m + 5) k 0 (lN 0) hk (by omega)
  rw [ho 0 (by omega), nI_l (by omega), lN_add, Nat.zero_add] at h0
  have h1 := ofAll_step (m + 6) ot (nI k) (m + 4) k 1 (lN (b 0)) hk (by omega)
  rw [ho 1 (by omega), nI_l (by omega), lN_add] at h1
  have h2 := ofAll_step (m + 6) ot (nI k) (m + 3) k 2 (lN (b 0 + b 1)) hk (by omega)
  rw [ho 2 (by omega), nI_l (by omega), lN_add] at h2
  have h3 := ofAll_step (m + 6) ot (nI k) (m + 2) k 3 (lN (b 0 + b 1 + b 2)) hk (by omega)
  rw [ho 3 (by omega), nI_l (by omega), lN_add] at h3
  have h4 := ofAll_step (m + 6) ot (nI k) (m + 1) k 4 (lN (b 0 + b 1 + b 2 + b 3)) hk (by omega)
  rw [ho 4 (by omega), nI_l (by omega), lN_add] at h4
  have h5 := ofAll_end (m + 6) ot (nI k) m (nI k) (lN (b 0 + b 1 + b 2 + b 3 + b 4))
  exact h0.trans (h1.trans (h2.trans (h3.trans (h4.trans h5))))
theorem byAll_step (n : Nat) (lor : Int32) (lt ms sp w : Nat → Int32) (z1 : Int32) (j k t : Nat) (x2 y : Int32) (ht : t < 5) (hy : FX7_broughtBy n lor lt ms sp w (nI t) (nI k) = some (y, ())) : FX7_broughtByAll_4L n lor lt ms sp w z1 (j + 1) (nI k) x2 (nI t) = FX7_broughtByAll_4L n lor lt ms sp w z1 j (nI k) (x2 + y) (nI (t + 1)) := by
  show FX7_broughtByAll_4 n lor lt ms sp w z1 (FX7_broughtByAll_4L n lor lt ms sp w z1 j) (nI k) x2 (nI t) = _
  unfold FX7_broughtByAll_4
  have c : ¬ (5 : Int32) ≤ nI t := nI_ge (b := 5) ht (by decide)
  rw [if_neg c, hy, bd_s, lt1_e, lt1_e, show nI t + (1 : Int32) = nI (t + 1) from nI_1 t]
theorem byAll_end (n : Nat) (lor : Int32) (lt ms sp w : Nat → Int32) (z1 : Int32) (j : Nat) (x1 x2 : Int32) : FX7_broughtByAll_4L n lor lt ms sp w z1 (j + 1) x1 x2 (nI 5) = some (x2, ()) := by
  show FX7_broughtByAll_4 n lor lt ms sp w z1 (FX7_broughtByAll_4L n lor lt ms sp w z1 j) x1 x2 (nI 5) = _
  unfold FX7_broughtByAll_4
  have c : (5 : Int32) ≤ nI 5 := by decide
  rw [if_pos c]
theorem byAll_ok (n : Nat) (hn : 6 ≤ n) (lor : Int32) (lt ms sp w : Nat → Int32) (k : Nat) (b : Nat → Nat) (ho : ∀ t, t < 5 → FX7_broughtBy n lor lt ms sp w (nI t) (nI k) = some (nI (b t), ())) : FX7_broughtByAll n lor lt ms sp w (nI k) = some (nI (b 0 + b 1 + b 2 + b 3 + b 4), ()) := by
  obtain ⟨m, rfl⟩ : ∃ m, n = m + 6 := ⟨n - 6, by omega⟩
  have h0 := byAll_step (m + 6) lor lt ms sp w (nI k) (m + 5) k 0 (nI 0) (nI (b 0)) (by omega) (ho 0 (by omega))
  rw [nI_add, Nat.zero_add] at h0
  have h1 := byAll_step (m + 6) lor lt ms sp w (nI k) (m + 4) k 1 (nI (b 0)) (nI (b 1)) (by omega) (ho 1 (by omega))
  rw [nI_add] at h1
  have h2 := byAll_step (m + 6) lor lt ms sp w (nI k) (m + 3) k 2 (nI (b 0 + b 1)) (nI (b 2)) (by omega) (ho 2 (by omega))
  rw [nI_add] at h2
  have h3 := byAll_step (m + 6) lor lt ms sp w (nI k) (m + 2) k 3 (nI (b 0 + b 1 + b 2)) (nI (b 3)) (by omega) (ho 3 (by omega))
  rw [nI_add] at h3
  have h4 := byAll_step (m + 6) lor lt ms sp w (nI k) (m + 1) k 4 (nI (b 0 + b 1 + b 2 + b 3)) (nI (b 4)) (by omega) (ho 4 (by omega))
  rw [nI_add] at h4
  have h5 := byAll_end (m + 6) lor lt ms sp w (nI k) m (nI k) (nI (b 0 + b 1 + b 2 + b 3 + b 4))
  exact h0.trans (h1.trans (h2.trans (h3.trans (h4.trans h5))))
/-- what was told by hand -/
def HR (bh hd : Nat → Int32) : Prop := ∀ k, k < 5 → bh k = hd k ∧ (bh k = -1 ∨ ¬ bh k < 0)
theorem J_inflow (n : Nat) {bh hd : Nat → Int32} (z1 z2 : Int32) (h : HR bh hd) {u v : Int32 × (Nat → Int32)} (e6 : FX6_inflow n bh z1 z2 = some u) (e7 : FX7_inflow n hd z1 z2 = some v) : u.1 = v.1 ∧ HR u.2 v.2 := by
  unfold FX6_inflow at e6
  unfold FX7_inflow at e7
  rcases yin5 z1 with c | ⟨c, c', k, hk, rfl⟩
  · rw [(yk0 n z1 c).1, bd_s, if_pos rfl] at e6
    rw [(yk0 n z1 c).2.1, bd_s, if_pos rfl] at e7
    injection e6 with e6; injection e7 with e7; subst e6; subst e7
    exact ⟨rfl, h⟩
  rw [(yk1 n _ c c').1, bd_s, if_neg (by decide)] at e6
  rw [(yk1 n _ c c').2.1, bd_s, if_neg (by decide)] at e7
  by_cases c1 : z2 < (-1 : Int32)
  · rw [if_pos c1] at e6 e7
    injection e6 with e6; injection e7 with e7; subst e6; subst e7
    exact ⟨rfl, h⟩
  rw [if_neg c1] at e6 e7
  by_cases c2 : z2 ≤ (1000000 : Int32)
  · rw [if_pos c2, if_pos (nI_in (N := 5) hk (by decide)), lt1_e, nI_clamp (by omega)] at e6 e7
    injection e6 with e6; injection e7 with e7; subst e6; subst e7
    refine ⟨rfl, fun i hi => ?_⟩
    show upd bh k z2 i = upd hd k z2 i ∧ (upd bh k z2 i = -1 ∨ ¬ upd bh k z2 i < 0)
    by_cases q : i = k
    · subst q
      rw [pk_us, pk_us]
      refine ⟨rfl, ?_⟩
      have g1 := nlt32 c1
      rw [show ((-1 : Int32)).toInt = -1 by decide] at g1
      by_cases d : z2 = -1
      · exact Or.inl d
      · right
        intro f
        have f1 := lt32 f
        rw [show ((0 : Int32)).toInt = 0 by decide] at f1
        apply d
        apply Int32.toInt_inj.mp
        rw [show ((-1 : Int32)).toInt = -1 by decide]
        omega
    · rw [pk_un q, pk_un q]; exact h i hi
  · rw [if_neg c2] at e6 e7
    injection e6 with e6; injection e7 with e7; subst e6; subst e7
    exact ⟨rfl, h⟩
theorem min_same (S : Nat) (h : S ≤ 1200000000) : (if (1000000 : Int64) < lN S then (1000000 : Int64) else lN S).toInt32 = (if (1000000 : Int32) ≤ nI S then (1000000 : Int32) else nI S) := by
  by_cases c : 1000000 ≤ S
  · have c1 : (1000000 : Int32) ≤ nI S := nI_le (a := 1000000) c (by omega)
    rw [if_pos c1]
    by_cases d : 1000000 < S
    · have d1 : (1000000 : Int64) < lN S := (pk_lLT (a := 1000000) (by decide) (by omega)).mpr d
      rw [if_pos d1]; decide
    · have e : S = 1000000 := by omega
      subst e
      decide
  · have c1 : ¬ (1000000 : Int32) ≤ nI S := nI_ge (b := 1000000) (by omega) (by decide)
    have d1 : ¬ (1000000 : Int64) < lN S := fun q => c (Nat.le_of_lt ((pk_lLT (a := 1000000) (by decide) (by omega)).mp q))
    rw [if_neg c1, if_neg d1, lN_i]
theorem J_comes (n : Nat) (hn : 100 ≤ n) {cnt : Int32} {towns lo st ot : Nat → Int32} {lor : Int32} {lt w sp ms bh hd : Nat → Int32} (z1 : Int32) (h : YR cnt towns lo st ot lor lt w sp ms) (hh : HR bh hd) {u v : Int32 × Unit} (e6 : FX6_comes n bh ot z1 = some u) (e7 : FX7_comes n lor hd lt ms sp w z1 = some v) : u.1 = v.1 := by
  unfold FX6_comes at e6
  unfold FX7_comes at e7
  rcases yin5 z1 with c | ⟨c, c', k, hk, rfl⟩
  · rw [(yk0 n z1 c).1, bd_s, if_pos rfl] at e6
    rw [(yk0 n z1 c).2.1, bd_s, if_pos rfl] at e7
    injection e6 with e6; injection e7 with e7; subst e6; subst e7
    rfl
  rw [(yk1 n _ c c').1, bd_s, if_neg (by decide)] at e6
  rw [(yk1 n _ c c').2.1, bd_s, if_neg (by decide)] at e7
  obtain ⟨b, hb, h1, h2⟩ := YR_nat h n hn k hk
  obtain ⟨g1, g2⟩ := hh k hk
  unfold FX6_comingOf at e6
  unfold FX7_inflowOf at e7
  rw [if_pos (nI_in (N := 5) hk (by decide)), nI_clamp (n := k) (by omega)] at e6 e7
  by_cases q : bh k = (-1 : Int32)
  · have q2 : hd k < 0 := by rw [← g1, q]; decide
    rw [if_pos q, ofAll_ok n (by omega) ot k hk b hb h1, bd_s, bd_s] at e6
    rw [if_pos q2, byAll_ok n (by omega) lor lt ms sp w k b h2, bd_s] at e7
    have hm := min_same _ hb
    by_cases r : (1000000 : Int32) ≤ nI (b 0 + b 1 + b 2 + b 3 + b 4)
    · rw [if_pos r, bd_s] at e7
      rw [if_pos r] at hm
      injection e6 with e6; injection e7 with e7; subst e6; subst e7
      exact hm
    · rw [if_neg r, bd_s] at e7
      rw [if_neg r] at hm
      injection e6 with e6; injection e7 with e7; subst e6; subst e7
      exact hm
  · have q2 : ¬ hd k < 0 := by
      rw [← g1]
      exact g2.resolve_left q
    rw [if_neg q, if_pos (nI_in2 (N := 5) hk (by decide)), bd_s] at e6
    rw [if_neg q2, if_pos (nI_in2 (N := 5) hk (by decide)), bd_s] at e7
    injection e6 with e6; injection e7 with e7; subst e6; subst e7
    exact g1
