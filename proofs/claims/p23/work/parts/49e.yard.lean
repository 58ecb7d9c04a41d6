theorem OK_bdE {α β : Type} {x : Option α} {k : α → Option β} {P : α → Prop} {Q : β → Prop} (hx : OK x P) (hk : ∀ u, x = some u → P u → OK (k u) Q) : OK (bd x k) Q := by
  obtain ⟨u, e, h⟩ := hx
  have h2 := hk u e h
  rw [e]
  exact h2
theorem nI_in2 {c N : Nat} (h : c < N) (hN : N < 2 ^ 31) : ¬ (nI c < 0 ∨ N ≤ c) := by
  rintro (q | q)
  · exact nI_pos (by omega) q
  · omega
/-! the yard: what a LORRY holds, what a TOWN brought, as both sides have it -/
theorem yk0 (n : Nat) (z : Int32) (h : z < 0 ∨ (¬ z < 0 ∧ (5 : Int32) ≤ z)) : FX6_isKind n z = some (0, ()) ∧ FX7_isKind n z = some (0, ()) ∧ FX6_isTown n z = some (0, ()) ∧ FX7_isTown n z = some (0, ()) := by
  unfold FX6_isKind FX7_isKind FX6_isTown FX7_isTown
  rcases h with h | ⟨h, h'⟩
  · rw [if_pos h]; exact ⟨rfl, rfl, rfl, rfl⟩
  · rw [if_neg h, if_pos h']; exact ⟨rfl, rfl, rfl, rfl⟩
theorem yk1 (n : Nat) (z : Int32) (h : ¬ z < 0) (h' : ¬ (5 : Int32) ≤ z) : FX6_isKind n z = some (1, ()) ∧ FX7_isKind n z = some (1, ()) ∧ FX6_isTown n z = some (1, ()) ∧ FX7_isTown n z = some (1, ()) := by
  unfold FX6_isKind FX7_isKind FX6_isTown FX7_isTown
  rw [if_neg h, if_neg h']; exact ⟨rfl, rfl, rfl, rfl⟩
theorem yin5 (z : Int32) : (z < 0 ∨ (¬ z < 0 ∧ (5 : Int32) ≤ z)) ∨ (¬ z < 0 ∧ ¬ (5 : Int32) ≤ z ∧ ∃ k : Nat, k < 5 ∧ z = nI k) := by
  rcases pk_ix z (n := 5) (by decide) with h | h | ⟨j, hj, rfl⟩
  · exact Or.inl (Or.inl h)
  · by_cases q : z < 0
    · exact Or.inl (Or.inl q)
    · exact Or.inl (Or.inr ⟨q, h⟩)
  · exact Or.inr ⟨nI_pos (by omega), nI_ge (b := 5) hj (by decide), j, hj, rfl⟩
theorem ysmp (n : Nat) (z : Int32) : (FX6_isSampled n z = some (0, ()) ∧ FX7_isSample n z = some (0, ())) ∨ (FX6_isSampled n z = some (1, ()) ∧ FX7_isSample n z = some (1, ()) ∧ ∃ k : Nat, k ≤ 1000 ∧ z = nI k) := by
  unfold FX6_isSampled FX7_isSample
  by_cases h : z < 0
  · rw [if_pos h]; exact Or.inl ⟨rfl, rfl⟩
  · rw [if_neg h]
    by_cases q : (1000 : Int32) < z
    · rw [if_pos q]; exact Or.inl ⟨rfl, rfl⟩
    · rw [if_neg q]
      obtain ⟨k, hk, e⟩ := nI_of2 (M := 1000) (n := 1000) (by decide) h (Int32.not_lt.mp q)
      exact Or.inr ⟨rfl, rfl, k, hk, e⟩
/-- what is held: of the sampled all, a weight, a sampled one -/
def heldW (all wt s : Int32) : Int32 := if all = 0 then 0 else (((wt.toInt64 * (1000 : Int64)) * s.toInt64) / all.toInt64).toInt32
def sall (sp : Nat → Int32) (l : Nat) : Int32 := ((((0 + sp (5 * l + 0)) + sp (5 * l + 1)) + sp (5 * l + 2)) + sp (5 * l + 3)) + sp (5 * l + 4)
def heldV (sp w : Nat → Int32) (l k : Nat) : Int32 := heldW (sall sp l) (w l) (sp (5 * l + k))
theorem l64_ne0 {x : Int32} (h : ¬ x = 0) : ¬ x.toInt64 = 0 := by
  intro q
  apply h
  have e : x.toInt64.toInt = x.toInt := Int32.toInt_toInt64 x
  rw [q] at e
  apply Int32.toInt_inj.mp
  rw [← e]; decide
theorem held_step (n : Nat) (sp w : Nat → Int32) (z1 z2 : Int32) (j l k i : Nat) (x3 : Int32) (hl : l < 60) (hi : i < 5) : FX7_held_5L n sp w z1 z2 (j + 1) (nI l) (nI k) x3 (nI i) = FX7_held_5L n sp w z1 z2 j (nI l) (nI k) (x3 + sp (5 * l + i)) (nI (i + 1)) := by
  show FX7_held_5 n sp w z1 z2 (FX7_held_5L n sp w z1 z2 j) (nI l) (nI k) x3 (nI i) = _
  unfold FX7_held_5
  have e : (5 : Int32) * nI l + nI i = nI (5 * l + i) := by
    rw [show (5 : Int32) = nI 5 from rfl, pk_mul, nI_add]
  have c : ¬ (5 : Int32) ≤ nI i := nI_ge (b := 5) hi (by decide)
  rw [if_neg c, e, if_pos (nI_in (N := 300) (by omega) (by decide)), lt1_e, lt1_e, nI_clamp (by omega), show nI i + (1 : Int32) = nI (i + 1) from nI_1 i]
theorem heldW_0 (wt s : Int32) : heldW 0 wt s = 0 := if_pos rfl
theorem heldW_n {x : Int32} (wt s : Int32) (q : ¬ x = 0) : heldW x wt s = (((wt.toInt64 * (1000 : Int64)) * s.toInt64) / x.toInt64).toInt32 := if_neg q
theorem held_endc (n : Nat) (sp w : Nat → Int32) (z1 z2 : Int32) (j l k : Nat) (x3 x4 : Int32) (hl : l < 60) (hk : k < 5) (c : (5 : Int32) ≤ x4) : FX7_held_5L n sp w z1 z2 (j + 1) (nI l) (nI k) x3 x4 = some (heldW x3 (w l) (sp (5 * l + k)), ()) := by
  show FX7_held_5 n sp w z1 z2 (FX7_held_5L n sp w z1 z2 j) (nI l) (nI k) x3 x4 = _
  unfold FX7_held_5
  have e : (5 : Int32) * nI l + nI k = nI (5 * l + k) := by
    rw [show (5 : Int32) = nI 5 from rfl, pk_mul, nI_add]
  rw [if_pos c]
  by_cases q : x3 = 0
  · rw [if_pos q, q, heldW_0]
  · rw [if_neg q, heldW_n _ _ q, if_pos (nI_in (N := 60) hl (by decide)), e, if_pos (nI_in (N := 300) (by omega) (by decide)), lt1_e, if_pos (l64_ne0 q), nI_clamp (by omega), nI_clamp (by omega)]
theorem held_end (n : Nat) (sp w : Nat → Int32) (z1 z2 : Int32) (j l k : Nat) (x3 : Int32) (hl : l < 60) (hk : k < 5) : FX7_held_5L n sp w z1 z2 (j + 1) (nI l) (nI k) x3 (nI 5) = some (heldW x3 (w l) (sp (5 * l + k)), ()) := held_endc n sp w z1 z2 j l k x3 (nI 5) hl hk (by decide)
theorem held_ok (n : Nat) (hn : 6 ≤ n) (sp w : Nat → Int32) (l k : Nat) (hl : l < 60) (hk : k < 5) : FX7_held n sp w (nI l) (nI k) = some (heldV sp w l k, ()) := by
  obtain ⟨m, rfl⟩ : ∃ m, n = m + 6 := ⟨n - 6, by omega⟩
  have h0 := held_step (m + 6) sp w (nI l) (nI k) (m + 5) l k 0 0 hl (by omega)
  have h1 := held_step (m + 6) sp w (nI l) (nI k) (m + 4) l k 1 (0 + sp (5 * l + 0)) hl (by omega)
  have h2 := held_step (m + 6) sp w (nI l) (nI k) (m + 3) l k 2 (0 + sp (5 * l + 0) + sp (5 * l + 1)) hl (by omega)
  have h3 := held_step (m + 6) sp w (nI l) (nI k) (m + 2) l k 3 (0 + sp (5 * l + 0) + sp (5 * l + 1) + sp (5 * l + 2)) hl (by omega)
  have h4 := held_step (m + 6) sp w (nI l) (nI k) (m + 1) l k 4 (0 + sp (5 * l + 0) + sp (5 * l + 1) + sp (5 * l + 2) + sp (5 * l + 3)) hl (by omega)
  have h5 := held_end (m + 6) sp w (nI l) (nI k) m l k (sall sp l) hl hk
  exact h0.trans (h1.trans (h2.trans (h3.trans (h4.trans h5))))
/-- what a TOWN brought of a KIND in the first LORRIES -/
def brS (lt st sp w : Nat → Int32) (t : Int32) (k : Nat) : Nat → Int32
  | 0 => 0
  | l + 1 => brS lt st sp w t k l + (if lt l = t ∧ st l = 0 then heldV sp w l k else 0)
theorem brS_s (lt st sp w : Nat → Int32) (t : Int32) (k l : Nat) : brS lt st sp w t k (l + 1) = brS lt st sp w t k l + (if lt l = t ∧ st l = 0 then heldV sp w l k else 0) := rfl
theorem i32_add0 (x : Int32) : x + 0 = x := Int32.add_zero x
theorem brBy_loop (n : Nat) (hn : 6 ≤ n) (lt st sp w : Nat → Int32) (z1 z2 t : Int32) (k m : Nat) (hk : k < 5) (hm : m ≤ 60) : ∀ (j i : Nat) (x3 : Int32), i ≤ m → m < i + j → x3 = brS lt st sp w t k i → FX7_broughtBy_5L n (nI m) lt st sp w z1 z2 j t (nI k) x3 (nI i) = some (brS lt st sp w t k m, ()) := by
  intro j
  induction j with
  | zero => intro i x3 h1 h2 _; omega
  | succ j ih =>
    intro i x3 h1 h2 hx
    show FX7_broughtBy_5 n (nI m) lt st sp w z1 z2 (FX7_broughtBy_5L n (nI m) lt st sp w z1 z2 j) t (nI k) x3 (nI i) = _
    unfold FX7_broughtBy_5
    by_cases h : i = m
    · subst h
      rw [if_pos (nI_le (Nat.le_refl _) (by omega)), hx]
    · have hlt : i < m := by omega
      rw [if_neg (nI_ge hlt (by omega)), if_pos (nI_in (N := 60) (by omega) (by decide)), nI_clamp (by omega)]
      have e1 : nI i + (1 : Int32) = nI (i + 1) := nI_1 i
      by_cases c1 : lt i = t
      · rw [if_pos c1, if_pos (nI_in2 (N := 60) (c := i) (by omega) (by decide))]
        by_cases c2 : st i = 0
        · rw [if_pos c2, held_ok n hn sp w i k (by omega) hk, bd_s, lt1_e]
          unfold FX7_broughtBy_45
          rw [lt1_e, e1]
          refine ih (i + 1) _ (by omega) (by omega) ?_
          rw [brS_s, if_pos ⟨c1, c2⟩, hx]
        · rw [if_neg c2]
          unfold FX7_broughtBy_45
          rw [lt1_e, e1]
          refine ih (i + 1) _ (by omega) (by omega) ?_
          rw [brS_s, if_neg (fun q => c2 q.2), hx, i32_add0]
      · rw [if_neg c1]
        unfold FX7_broughtBy_45
        rw [lt1_e, e1]
        refine ih (i + 1) _ (by omega) (by omega) ?_
        rw [brS_s, if_neg (fun q => c1 q.1), hx, i32_add0]
theorem brBy_ok (n : Nat) (hn : 100 ≤ n) (lt st sp w : Nat → Int32) (t : Int32) (k m : Nat) (hk : k < 5) (hm : m ≤ 60) : FX7_broughtBy n (nI m) lt st sp w t (nI k) = some (brS lt st sp w t k m, ()) := by
  have h := brBy_loop n (by omega) lt st sp w t (nI k) t k m hk hm n 0 0 (by omega) (by omega) rfl
  rw [nI_0] at h
  exact h
theorem brS_congr (lt st sp w lt' st' sp' w' : Nat → Int32) (t : Int32) (k : Nat) : ∀ m : Nat, (∀ l, l < m → lt' l = lt l ∧ st' l = st l ∧ heldV sp' w' l k = heldV sp w l k) → brS lt' st' sp' w' t k m = brS lt st sp w t k m := by
  intro m
  induction m with
  | zero => intro _; rfl
  | succ m ih =>
    intro h
    rw [brS_s, brS_s, ih (fun l hl => h l (by omega)), (h m (by omega)).1, (h m (by omega)).2.1, (h m (by omega)).2.2]
theorem i32_cancel (a b : Int32) : a + b - b = a := Int32.add_sub_cancel a b
theorem i32_swap (a b c : Int32) : a - b + c = a + c - b := by
  rw [Int32.sub_eq_add_neg, Int32.sub_eq_add_neg, Int32.add_assoc, Int32.add_assoc, Int32.add_comm (-b) c]
theorem i32_sub0 (x : Int32) : x - 0 = x := Int32.sub_zero x
theorem brS_strike (lt st sp w : Nat → Int32) (t v : Int32) (k z : Nat) (hv : ¬ v = 0) (hz : st z = 0) : ∀ m : Nat, z < m → brS lt (upd st z v) sp w t k m = brS lt st sp w t k m - (if lt z = t then heldV sp w z k else 0) := by
  intro m
  induction m with
  | zero => intro h; omega
  | succ m ih =>
    intro h
    rw [brS_s, brS_s]
    by_cases q : m = z
    · subst q
      have e : brS lt (upd st m v) sp w t k m = brS lt st sp w t k m := by
        apply brS_congr
        intro l hl
        exact ⟨rfl, pk_un (by omega), rfl⟩
      rw [e, pk_us, if_neg (fun c => hv c.2), i32_add0]
      by_cases c : lt m = t
      · rw [if_pos ⟨c, hz⟩, if_pos c, i32_cancel]
      · rw [if_neg (fun d => c d.1), if_neg c, i32_add0, i32_sub0]
    · rw [ih (by omega), pk_un q, i32_swap]
