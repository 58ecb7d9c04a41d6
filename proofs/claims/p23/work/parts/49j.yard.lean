/-! SHARED: both ways to give the coins that are left -/
def bfR (r : Nat → Nat) (s t : Nat) : Prop := r t < r s ∨ (r t = r s ∧ s < t)
def indR (r : Nat → Nat) (z t : Nat) : Nat := if r z < r t ∨ (r t = r z ∧ t < z) then 1 else 0
theorem indR_p {r : Nat → Nat} {z t : Nat} (h : bfR r t z) : indR r z t = 1 := by
  unfold bfR at h
  unfold indR
  exact if_pos (by omega)
theorem indR_n {r : Nat → Nat} {z t : Nat} (h : ¬ bfR r t z) : indR r z t = 0 := by
  unfold bfR at h
  unfold indR
  exact if_neg (by omega)
theorem bfR_asym {r : Nat → Nat} {s t : Nat} (h : bfR r s t) : ¬ bfR r t s := by
  unfold bfR at h ⊢
  omega
def upN (p : Nat → Nat) (M : Nat) : Nat → Nat := fun t => if t = M then 1 else p t
theorem upN_s (p : Nat → Nat) (M : Nat) : upN p M M = 1 := if_pos rfl
theorem upN_n (p : Nat → Nat) {M t : Nat} (h : t ≠ M) : upN p M t = p t := if_neg h
theorem upN_sum (p : Nat → Nat) (M : Nat) (hM : M < 5) (h0 : p M = 0) : upN p M 0 + upN p M 1 + upN p M 2 + upN p M 3 + upN p M 4 = p 0 + p 1 + p 2 + p 3 + p 4 + 1 := by
  rcases lt5 hM with rfl | rfl | rfl | rfl | rfl
  · rw [upN_s, upN_n p (by omega), upN_n p (by omega), upN_n p (by omega), upN_n p (by omega)]; omega
  · rw [upN_s, upN_n p (by omega), upN_n p (by omega), upN_n p (by omega), upN_n p (by omega)]; omega
  · rw [upN_s, upN_n p (by omega), upN_n p (by omega), upN_n p (by omega), upN_n p (by omega)]; omega
  · rw [upN_s, upN_n p (by omega), upN_n p (by omega), upN_n p (by omega), upN_n p (by omega)]; omega
  · rw [upN_s, upN_n p (by omega), upN_n p (by omega), upN_n p (by omega), upN_n p (by omega)]; omega
/-- who stands in the chosen ones, by those before him -/
theorem pick_iff (r p : Nat → Nat) (z left : Nat) (hz : z < 5) (hp : ∀ t, t < 5 → p t ≤ 1) (hs : p 0 + p 1 + p 2 + p 3 + p 4 = left) (h2 : ∀ s t, s < 5 → t < 5 → p s = 1 → p t = 0 → bfR r s t) : (p z = 1 ∧ indR r z 0 + indR r z 1 + indR r z 2 + indR r z 3 + indR r z 4 < left) ∨ (p z = 0 ∧ left ≤ indR r z 0 + indR r z 1 + indR r z 2 + indR r z 3 + indR r z 4) := by
  rcases (show p z = 1 ∨ p z = 0 by have := hp z hz; omega) with q | q
  · left
    refine ⟨q, ?_⟩
    have f : ∀ t, t < 5 → indR r z t + upN (fun _ => 0) z t ≤ p t := by
      intro t ht
      by_cases e : t = z
      · subst e
        rw [upN_s, q, indR_n (fun h => bfR_asym h h)]
        exact Nat.le_refl _
      · rw [upN_n _ e]
        rcases (show p t = 1 ∨ p t = 0 by have := hp t ht; omega) with c | c
        · rw [c]
          unfold indR
          by_cases d : r z < r t ∨ (r t = r z ∧ t < z)
          · rw [if_pos d]; exact Nat.le_refl _
          · rw [if_neg d]; exact Nat.zero_le _
        · rw [c, indR_n (bfR_asym (h2 z t hz ht q c))]
          exact Nat.le_refl _
    have s := upN_sum (fun _ => 0) z hz rfl
    have f0 := f 0 (by omega)
    have f1 := f 1 (by omega)
    have f2 := f 2 (by omega)
    have f3 := f 3 (by omega)
    have f4 := f 4 (by omega)
    omega
  · right
    refine ⟨q, ?_⟩
    have f : ∀ t, t < 5 → p t ≤ indR r z t := by
      intro t ht
      rcases (show p t = 1 ∨ p t = 0 by have := hp t ht; omega) with c | c
      · rw [c, indR_p (h2 t z ht hz c q)]
        exact Nat.le_refl _
      · rw [c]; exact Nat.zero_le _
    have f0 := f 0 (by omega)
    have f1 := f 1 (by omega)
    have f2 := f 2 (by omega)
    have f3 := f 3 (by omega)
    have f4 := f 4 (by omega)
    omega
def BF (q : Nat → Int64) (a s : Nat) : Prop := (q s).toInt < (q a).toInt ∨ ((q s).toInt = (q a).toInt ∧ a < s)
theorem argmax (n : Nat) (lor : Int32) (lt ms sp w : Nat → Int32) (z1 z2 z3 : Int32) (k112 : (Nat → Int32) → (Nat → Int64) → Int32 → Int32 → Option (Int32 × (Nat → Int32) × (Nat → Int64))) (gets : Nat → Int32) (rests : Nat → Int64) (x1 x6 : Int32) : ∀ (j i M : Nat), i ≤ 5 → M < i → 5 < i + j → (∀ s, s < i → s ≠ M → BF rests M s) → ∃ M' : Nat, M' < 5 ∧ (∀ s, s < 5 → s ≠ M' → BF rests M' s) ∧ FX7_share_123L n lor lt ms sp w z1 z2 z3 k112 j gets rests x1 x6 (nI M) (nI i) = k112 (upd gets M' (gets M' + (1 : Int32))) (vp_updL rests M' (-1 : Int64)) x1 (x6 + (-1 : Int32)) := by
  intro j
  induction j with
  | zero => intro i M h1 h2 h3; omega
  | succ j ih =>
    intro i M h1 h2 h3 hB
    have hst : FX7_share_123L n lor lt ms sp w z1 z2 z3 k112 (j + 1) gets rests x1 x6 (nI M) (nI i) = FX7_share_123 n lor lt ms sp w z1 z2 z3 k112 (FX7_share_123L n lor lt ms sp w z1 z2 z3 k112 j) gets rests x1 x6 (nI M) (nI i) := rfl
    rw [hst]
    unfold FX7_share_123
    by_cases h : i = 5
    · subst h
      refine ⟨M, h2, hB, ?_⟩
      have c : (5 : Int32) ≤ nI 5 := by decide
      have iM := nI_in (N := 5) h2 (by decide)
      rw [if_pos c, if_pos iM, lt1_e, if_pos iM, lt1_e, if_pos iM, lt1_e, lt1_e, nI_clamp (n := M) (by omega)]
    · have hlt : i < 5 := by omega
      have c : ¬ (5 : Int32) ≤ nI i := nI_ge (b := 5) hlt (by decide)
      rw [if_neg c, if_pos (nI_in (N := 5) hlt (by decide)), if_pos (nI_in (N := 5) (c := M) (by omega) (by decide)), nI_clamp (n := i) (by omega), nI_clamp (n := M) (by omega)]
      have tt := lgT (rests i) (rests M)
      have e1 : nI i + (1 : Int32) = nI (i + 1) := nI_1 i
      by_cases q : lg_cmp (rests i) (rests M) ≤ 0
      · rw [if_pos q]
        unfold FX7_share_151
        rw [lt1_e, e1]
        have q2 := le32 q
        rw [show ((0 : Int32)).toInt = 0 by decide] at q2
        refine ih (i + 1) M (by omega) (by omega) (by omega) (fun s hs hne => ?_)
        by_cases d : s = i
        · subst d
          unfold BF
          omega
        · exact hB s (by omega) hne
      · rw [if_neg q]
        unfold FX7_share_151
        rw [lt1_e, e1]
        have q2 := nle32 q
        rw [show ((0 : Int32)).toInt = 0 by decide] at q2
        refine ih (i + 1) i (by omega) (by omega) (by omega) (fun s hs hne => ?_)
        by_cases d : s = M
        · subst d
          unfold BF
          omega
        · have b := hB s (by omega) d
          unfold BF at b ⊢
          omega
/-- the picked ones p, those that are left q -/
def PK (g r : Nat → Nat) (left : Nat) (p : Nat → Nat) (q : Nat) (gets : Nat → Int32) (rests : Nat → Int64) : Prop :=
  (∀ t, t < 5 → p t ≤ 1 ∧ gets t = nI (g t + p t) ∧ (p t = 1 → rests t = (-1 : Int64)) ∧ (p t = 0 → rests t = lN (r t))) ∧ p 0 + p 1 + p 2 + p 3 + p 4 + q = left ∧ (∀ s t, s < 5 → t < 5 → p s = 1 → p t = 0 → bfR r s t)
theorem picks (n : Nat) (hn : 100 ≤ n) (lor : Int32) (lt ms sp w : Nat → Int32) (z1 z2 z3 : Int32) (g r : Nat → Nat) (hr : ∀ t, t < 5 → r t < 2 ^ 62) (left z : Nat) (hl : left ≤ 4) (hz : z < 5) : ∀ (q j : Nat) (p : Nat → Nat) (gets : Nat → Int32) (rests : Nat → Int64), q < j → PK g r left p q gets rests → ∃ (p' : Nat → Nat) (gets' : Nat → Int32) (rests' : Nat → Int64), PK g r left p' 0 gets' rests' ∧ FX7_share_112L n lor lt ms sp w z1 z2 z3 j gets rests (nI z) (nI q) = some (nI (g z + p' z), gets', rests') := by
  intro q
  induction q with
  | zero =>
    intro j p gets rests hj hP
    obtain ⟨j, rfl⟩ : ∃ i, j = i + 1 := ⟨j - 1, by omega⟩
    refine ⟨p, gets, rests, hP, ?_⟩
    show FX7_share_112 n lor lt ms sp w z1 z2 z3 (FX7_share_112L n lor lt ms sp w z1 z2 z3 j) gets rests (nI z) (nI 0) = _
    unfold FX7_share_112
    have c : nI 0 ≤ (0 : Int32) := by decide
    rw [if_pos c, if_pos (nI_in (N := 5) hz (by decide)), nI_clamp (by omega), (hP.1 z hz).2.1]
  | succ q ih =>
    intro j p gets rests hj hP
    obtain ⟨j, rfl⟩ : ∃ i, j = i + 1 := ⟨j - 1, by omega⟩
    obtain ⟨h1, h2, h3⟩ := hP
    have hst : FX7_share_112L n lor lt ms sp w z1 z2 z3 (j + 1) gets rests (nI z) (nI (q + 1)) = FX7_share_112 n lor lt ms sp w z1 z2 z3 (FX7_share_112L n lor lt ms sp w z1 z2 z3 j) gets rests (nI z) (nI (q + 1)) := rfl
    rw [hst]
    unfold FX7_share_112
    rw [if_neg (nI_nle (n := q + 1) (by omega) (by omega))]
    obtain ⟨M, hM, hB, e⟩ := argmax n lor lt ms sp w z1 z2 z3 (FX7_share_112L n lor lt ms sp w z1 z2 z3 j) gets rests (nI z) (nI (q + 1)) n 1 0 (by omega) (by omega) (by omega) (fun s hs hne => by omega)
    rw [show nI 0 = (0 : Int32) from nI_0, show nI 1 = (1 : Int32) from rfl] at e
    rw [e, show nI (q + 1) + (-1 : Int32) = nI q from pk_m1 q]
    have hu : ∃ u, u < 5 ∧ p u = 0 := by
      rcases (show p 0 = 0 ∨ p 1 = 0 ∨ p 2 = 0 ∨ p 3 = 0 ∨ p 4 = 0 by
        have a0 := (h1 0 (by omega)).1
        have a1 := (h1 1 (by omega)).1
        have a2 := (h1 2 (by omega)).1
        have a3 := (h1 3 (by omega)).1
        have a4 := (h1 4 (by omega)).1
        omega) with c | c | c | c | c
      · exact ⟨0, by omega, c⟩
      · exact ⟨1, by omega, c⟩
      · exact ⟨2, by omega, c⟩
      · exact ⟨3, by omega, c⟩
      · exact ⟨4, by omega, c⟩
    have rv : ∀ t, t < 5 → p t = 0 → (rests t).toInt = (r t : Int) := by
      intro t ht c
      rw [(h1 t ht).2.2.2 c]
      exact pk_lT (by have := hr t ht; omega)
    have hp0 : p M = 0 := by
      rcases (show p M = 1 ∨ p M = 0 by have := (h1 M hM).1; omega) with c | c
      · exfalso
        obtain ⟨u, hu5, hu0⟩ := hu
        have hne : u ≠ M := fun d => by rw [d] at hu0; omega
        have b := hB u hu5 hne
        unfold BF at b
        rw [(h1 M hM).2.2.1 c, rv u hu5 hu0, show ((-1 : Int64)).toInt = -1 by decide] at b
        omega
      · exact c
    have hP' : PK g r left (upN p M) q (upd gets M (gets M + (1 : Int32))) (vp_updL rests M (-1 : Int64)) := by
      refine ⟨fun t ht => ?_, ?_, fun s t hs ht c d => ?_⟩
      · by_cases e : t = M
        · subst e
          rw [upN_s, pk_us, pk_uLs, (h1 t ht).2.1, hp0]
          exact ⟨Nat.le_refl _, nI_1 _, fun _ => rfl, fun c => absurd c (by decide)⟩
        · rw [upN_n p e, pk_un e, pk_uLn e]
          exact h1 t ht
      · have s := upN_sum p M hM hp0
        omega
      · have hne : t ≠ M := fun e => by rw [e, upN_s] at d; omega
        rw [upN_n p hne] at d
        by_cases e : s = M
        · subst e
          have b := hB t ht hne
          unfold BF at b
          rw [rv t ht d, rv s hs hp0] at b
          unfold bfR
          omega
        · rw [upN_n p e] at c
          exact h3 s t hs ht c d
    exact ih j (upN p M) _ _ (by omega) hP'
