/-! p1: the pure side: both answer alike at the first call -/
def SM {ρ α β : Type} (x : Option (ρ × α)) (y : Option (ρ × β)) : Prop := ∃ u v, x = some u ∧ y = some v ∧ u.1 = v.1
theorem SM_map {ρ α β : Type} {x : Option (ρ × α)} {y : Option (ρ × β)} {r : ρ} (hx : x.map Prod.fst = some r) (hy : y.map Prod.fst = some r) : SM x y := by
  obtain ⟨u, h1, h2⟩ := Option.map_eq_some_iff.mp hx
  obtain ⟨v, h3, h4⟩ := Option.map_eq_some_iff.mp hy
  exact ⟨u, v, h1, h3, by rw [h2, h4]⟩
theorem SM_mk {ρ α β : Type} {x : Option (ρ × α)} {y : Option (ρ × β)} {r : ρ} {a : α} {b : β} (hx : x = some (r, a)) (hy : y = some (r, b)) : SM x y := ⟨_, _, hx, hy, rfl⟩
theorem lpR_s {σ : Type} (step : σ → σ) (z : σ) (j : Nat) : lpR step z (j + 1) = step (lpR step z j) := rfl
theorem bd_s {α β : Type} (a : α) (k : α → Option β) : bd (some a) k = k a := rfl
theorem lt1_e {α β : Type} (e : α) (k : α → β) : lt1 e k = k e := rfl
def gH : Nat → Int32 := fun j => if j < 5 then -1 else 0
/-- Arrays.fill -/
theorem fill_loop (n ln : Nat) (z : Int32) (hl : ln < 2 ^ 31) : ∀ (j i : Nat) (f : Nat → Int32) (x : Int32), i ≤ ln → ln < i + j → FJ7_fill_53178_5L n ln z j f x (nI i) (nI ln) = some ((), fun t => if i ≤ t ∧ t < ln then x else f t) := by
  intro j
  induction j with
  | zero => intro i f x h1 h2; omega
  | succ j ih =>
    intro i f x h1 h2
    show FJ7_fill_53178_5 n ln z (FJ7_fill_53178_5L n ln z j) f x (nI i) (nI ln) = _
    unfold FJ7_fill_53178_5
    by_cases h : i = ln
    · subst h
      rw [if_pos (nI_le (Nat.le_refl _) hl)]
      congr 2
      funext t
      rw [if_neg (by omega)]
    · have hlt : i < ln := by omega
      rw [if_neg (nI_ge hlt hl), if_pos (nI_in hlt hl), lt1_e, lt1_e, nI_clamp (by omega)]
      have e1 : nI i + (1 : Int32) = nI (i + 1) := nI_1 i
      rw [e1, ih (i + 1) _ x (by omega) (by omega)]
      congr 2
      funext t
      unfold upd
      by_cases q : t = i
      · subst q; rw [if_neg (by omega), if_pos rfl, if_pos (by omega)]
      · rw [if_neg q]
        by_cases r : i ≤ t ∧ t < ln
        · rw [if_pos r, if_pos (by omega)]
        · rw [if_neg r, if_neg (by omega)]
theorem fill_ok (n ln : Nat) (f : Nat → Int32) (x : Int32) (hl : ln < 2 ^ 31) (hn : ln < n) : FJ7_fill_53178 n ln f x = some ((), fun t => if t < ln then x else f t) := by
  unfold FJ7_fill_53178
  rw [lt1_e]
  have h := fill_loop n ln x hl n 0 f x (Nat.zero_le _) (by omega)
  rw [nI_0] at h
  rw [show Int32.ofNat ln = nI ln from rfl, h]
  congr 2
  funext t
  by_cases q : t < ln
  · rw [if_pos q, if_pos ⟨Nat.zero_le _, q⟩]
  · rw [if_neg q, if_neg (fun h => q h.2)]
theorem init6 : FX6_init 200 = some ((), gH) := by
  unfold FX6_init
  rw [show FX2_init 200 = some ((), ()) from rfl, bd_s, show FX3_init 200 = some ((), ()) from rfl, bd_s, show FX0_init 200 = some ((), ()) from rfl, bd_s, show FX1_init 200 = some ((), ()) from rfl, bd_s, show FX5_init 200 = some ((), ()) from rfl, bd_s, fill_ok 200 5 _ _ (by decide) (by decide), bd_s]
  rfl
theorem init7_loop : ∀ (j i : Nat) (f : Nat → Int32), i ≤ 5 → 5 < i + j → FX7_init_247L 200 j f (nI i) = some ((), fun t => if i ≤ t ∧ t < 5 then -1 else f t) := by
  intro j
  induction j with
  | zero => intro i f h1 h2; omega
  | succ j ih =>
    intro i f h1 h2
    show FX7_init_247 200 (FX7_init_247L 200 j) f (nI i) = _
    unfold FX7_init_247
    by_cases h : i = 5
    · subst h
      rw [if_pos (by decide)]
      congr 2
      funext t
      rw [if_neg (by omega)]
    · have hlt : i < 5 := by omega
      have c : ¬ (5 : Int32) ≤ nI i := nI_ge (b := 5) hlt (by decide)
      rw [if_neg c, if_pos (nI_in hlt (by decide)), lt1_e, lt1_e, nI_clamp (by omega)]
      have e1 : nI i + (1 : Int32) = nI (i + 1) := nI_1 i
      rw [e1, ih (i + 1) _ (by omega) (by omega)]
      congr 2
      funext t
      unfold upd
      by_cases q : t = i
      · subst q; rw [if_neg (by omega), if_pos rfl, if_pos (by omega)]
      · rw [if_neg q]
        by_cases r : i ≤ t ∧ t < 5
        · rw [if_pos r, if_pos (by omega)]
        · rw [if_neg r, if_neg (by omega)]
theorem init7 : FX7_init 200 = some ((), gH) := by
  unfold FX7_init
  have h := init7_loop 200 0 (fun _ => 0) (by omega) (by omega)
  rw [nI_0] at h
  rw [h]
  congr 2
  funext t
  unfold gH
  by_cases q : t < 5
  · rw [if_pos q, if_pos ⟨Nat.zero_le _, q⟩]
  · rw [if_neg q, if_neg (fun h => q h.2)]
/-! ranges -/
theorem in5 (z : Int32) : z < 0 ∨ (¬ z < 0 ∧ (5 : Int32) ≤ z) ∨ (¬ z < 0 ∧ ¬ (5 : Int32) ≤ z ∧ ∃ k : Nat, k < 5 ∧ z = nI k) := by
  rcases pk_ix z (n := 5) (by decide) with h | h | ⟨j, hj, rfl⟩
  · exact Or.inl h
  · by_cases q : z < 0
    · exact Or.inl q
    · exact Or.inr (Or.inl ⟨q, h⟩)
  · exact Or.inr (Or.inr ⟨nI_pos (by omega), nI_ge (b := 5) hj (by decide), j, hj, rfl⟩)
theorem in4 (z : Int32) : z < 0 ∨ (¬ z < 0 ∧ (4 : Int32) ≤ z) ∨ (¬ z < 0 ∧ ¬ (4 : Int32) ≤ z ∧ ∃ k : Nat, k < 4 ∧ z = nI k) := by
  rcases pk_ix z (n := 4) (by decide) with h | h | ⟨j, hj, rfl⟩
  · exact Or.inl h
  · by_cases q : z < 0
    · exact Or.inl q
    · exact Or.inr (Or.inl ⟨q, h⟩)
  · exact Or.inr (Or.inr ⟨nI_pos (by omega), nI_ge (b := 4) hj (by decide), j, hj, rfl⟩)
/-! 2 feed -/
theorem put_ok (a : Nat → Int32) (z : Int32) (k : Nat) (hk : k + 4 ≤ 1200) : ∃ a', FX4_put 200 (nI k) a z = some ((), nI (k + 4), a') := by
  have step : ∀ (j t : Nat) (a : Nat → Int32) (x2 x2' : Int32), ¬ x2 < 0 → t < 1200 → x2 + (-8 : Int32) = x2' → ∃ a', FX4_put_3L 200 z (j + 1) (nI t) a z x2 = FX4_put_3L 200 z j (nI (t + 1)) a' z x2' := by
    intro j t a x2 x2' h1 h2 h3
    refine ⟨upd a (nI t).toNatClampNeg (vp_nar .byte ((z >>> (x2 &&& 31)).toInt8.toInt32)), ?_⟩
    show FX4_put_3 200 z (FX4_put_3L 200 z j) (nI t) a z x2 = _
    unfold FX4_put_3
    have c : ¬ (1200 : Int32) ≤ nI t := nI_ge (b := 1200) h2 (by decide)
    rw [if_neg h1, if_neg c, lt1_e, if_pos (nI_in h2 (by decide)), lt1_e, lt1_e, lt1_e, h3, show nI t + (1 : Int32) = nI (t + 1) from nI_1 t]
  obtain ⟨a1, e1⟩ := step 199 k a 24 16 (by decide) (by omega) (by decide)
  obtain ⟨a2, e2⟩ := step 198 (k + 1) a1 16 8 (by decide) (by omega) (by decide)
  obtain ⟨a3, e3⟩ := step 197 (k + 2) a2 8 0 (by decide) (by omega) (by decide)
  obtain ⟨a4, e4⟩ := step 196 (k + 3) a3 0 (-8) (by decide) (by omega) (by decide)
  refine ⟨a4, ?_⟩
  unfold FX4_put
  rw [e1, e2, e3, e4]
  show FX4_put_3 200 z (FX4_put_3L 200 z 195) (nI (k + 3 + 1)) a4 z (-8) = _
  unfold FX4_put_3
  rw [if_pos (by decide)]
theorem feed6 (z1 z2 z3 z4 z5 : Int32) (a : Nat → Int32) : ∃ t, FX6_feed 200 0 a z1 z2 z3 z4 z5 = some (20, t) := by
  unfold FX6_feed
  rw [if_pos (by decide)]
  obtain ⟨a1, e1⟩ := put_ok a z1 0 (by omega)
  rw [nI_0] at e1
  rw [e1, bd_s]
  obtain ⟨a2, e2⟩ := put_ok a1 z2 4 (by omega)
  dsimp only
  rw [e2, bd_s]
  obtain ⟨a3, e3⟩ := put_ok a2 z3 8 (by omega)
  dsimp only
  rw [e3, bd_s]
  obtain ⟨a4, e4⟩ := put_ok a3 z4 12 (by omega)
  dsimp only
  rw [e4, bd_s]
  obtain ⟨a5, e5⟩ := put_ok a4 z5 16 (by omega)
  dsimp only
  rw [e5, bd_s]
  exact ⟨_, rfl⟩
theorem feed7_loop (z1 z2 z3 z4 z5 : Int32) : ∀ (j i : Nat) (a : Nat → Int32) (x1 x2 x3 x4 x5 : Int32), i ≤ 20 → 20 < i + j → ∃ t, FX7_feed_18L 200 z1 z2 z3 z4 z5 j 0 a x1 x2 x3 x4 x5 (nI i) = some (20, t) := by
  intro j
  induction j with
  | zero => intro i a x1 x2 x3 x4 x5 h1 h2; omega
  | succ j ih =>
    intro i a x1 x2 x3 x4 x5 h1 h2
    have h71 : ∀ y : Int32, i < 20 → ∃ t, FX7_feed_71 200 z1 z2 z3 z4 z5 (FX7_feed_18L 200 z1 z2 z3 z4 z5 j) 0 a x1 x2 x3 x4 x5 (nI i) y = some (20, t) := by
      intro y hlt
      unfold FX7_feed_71
      have e0 : (0 : Int32) + nI i = nI i := Int32.zero_add _
      rw [lt1_e, e0, if_pos (nI_in (N := 1220) (by omega) (by decide)), lt1_e, lt1_e, show nI i + (1 : Int32) = nI (i + 1) from nI_1 i]
      exact ih (i + 1) _ x1 x2 x3 x4 x5 (by omega) (by omega)
    show ∃ t, FX7_feed_18 200 z1 z2 z3 z4 z5 (FX7_feed_18L 200 z1 z2 z3 z4 z5 j) 0 a x1 x2 x3 x4 x5 (nI i) = some (20, t)
    unfold FX7_feed_18
    by_cases h : i = 20
    · subst h
      rw [if_pos (by decide)]
      exact ⟨_, rfl⟩
    · have hlt : i < 20 := by omega
      have c : ¬ (20 : Int32) ≤ nI i := nI_ge (b := 20) hlt (by decide)
      rw [if_neg c]
      by_cases c4 : (4 : Int32) ≤ nI i
      · rw [if_pos c4]
        by_cases c8 : (8 : Int32) ≤ nI i
        · rw [if_pos c8]
          by_cases c12 : (12 : Int32) ≤ nI i
          · rw [if_pos c12]
            by_cases c16 : (16 : Int32) ≤ nI i
            · rw [if_pos c16]; exact h71 _ hlt
            · rw [if_neg c16]; exact h71 _ hlt
          · rw [if_neg c12]; exact h71 _ hlt
        · rw [if_neg c8]; exact h71 _ hlt
      · rw [if_neg c4]; exact h71 _ hlt
theorem feed7 (z1 z2 z3 z4 z5 : Int32) (a : Nat → Int32) : ∃ t, FX7_feed 200 0 a z1 z2 z3 z4 z5 = some (20, t) := by
  unfold FX7_feed
  rw [if_pos (by decide)]
  have h := feed7_loop z1 z2 z3 z4 z5 200 0 a z1 z2 z3 z4 z5 (by omega) (by omega)
  rw [nI_0] at h
  exact h
theorem M_feed (z1 z2 z3 z4 z5 : Int32) : SM (FX6_feed 200 0 (fun _ => 0) z1 z2 z3 z4 z5) (FX7_feed 200 0 (fun _ => 0) z1 z2 z3 z4 z5) := by
  obtain ⟨t, h1⟩ := feed6 z1 z2 z3 z4 z5 (fun _ => 0)
  obtain ⟨t', h2⟩ := feed7 z1 z2 z3 z4 z5 (fun _ => 0)
  exact SM_mk h1 h2
theorem M_end (z1 : Int32) : SM (FX6_end 200 0 z1) (FX7_end 200 0 z1) := by
  unfold FX6_end FX7_end
  by_cases h : z1 < 0
  · simp only [if_pos h]; exact SM_mk rfl rfl
  · simp only [if_neg h]
    by_cases q : z1 ≤ 0
    · simp only [if_pos q]; exact SM_mk rfl rfl
    · simp only [if_neg q]; exact SM_mk rfl rfl
theorem SM_dec {ρ α β : Type} {x : Option (ρ × α)} {y : Option (ρ × β)} (h : (y.map Prod.fst).isSome = true ∧ x.map Prod.fst = y.map Prod.fst) : SM x y := by
  obtain ⟨h1, h2⟩ := h
  obtain ⟨r, hr⟩ := Option.isSome_iff_exists.mp h1
  exact SM_map (h2.trans hr) hr
theorem M_plan : SM (FX6_plan 200 (0 : Int32) (-1 : Int32) (0 : Int32) (0 : Int32) (0 : Int32) (0 : Int32) (0 : Int32) (fun _ => 0) (fun _ => 0) (fun _ => 0) (0 : Int32) (0 : Int32) (0 : Int32) (0 : Int32) (0 : Int32) (0 : Int64) (0 : Int32) (fun _ => 0) (fun _ => 0) (fun _ => 0) (fun _ => 0) (fun _ => 0) (fun _ => 0) (fun _ => 0) (fun _ => 0) (fun _ => 0) (fun _ => 0) (fun _ => 0) (fun _ => 0) (0 : Int32) (fun _ => 0)) (FX7_plan 200 (0 : Int32) (0 : Int32) (0 : Int32) (-1 : Int32) (0 : Int32) (0 : Int32) (0 : Int32) (0 : Int32) (0 : Int64) (0 : Int32) (0 : Int32) (0 : Int32) (0 : Int32) (fun _ => 0) (fun _ => 0) (fun _ => 0) (fun _ => 0) (fun _ => 0) (fun _ => 0) (fun _ => 0) (fun _ => 0) (fun _ => 0) (fun _ => 0) (fun _ => 0) (fun _ => 0) (fun _ => 0) (fun _ => 0) (fun _ => 0) (fun _ => 0) (fun _ => 0) (fun _ => 0)) := SM_dec (by decide +kernel)
theorem M_fault (z1 : Int32) : SM (FX6_fault 200 0 (-1) z1) (FX7_fault 200 0 (-1) z1) := by
  unfold FX6_fault FX7_fault
  by_cases h : z1 = 0
  · simp only [if_pos h]; exact SM_mk rfl rfl
  · simp only [if_neg h]
    by_cases q : z1 = 1
    · simp only [if_pos q]; exact SM_mk rfl rfl
    · simp only [if_neg q]; exact SM_mk rfl rfl
theorem iu6 (z : Int32) : FX6_isUnit 200 0 z = some (0, ()) := by
  unfold FX6_isUnit
  by_cases h : z < 0
  · rw [if_pos h]
  · rw [if_neg h, if_pos (Int32.not_lt.mp h)]
theorem iu7 (z : Int32) : FX7_isUnit 200 0 (fun _ => 0) z = some (0, ()) := by
  unfold FX7_isUnit
  by_cases h : z < 0
  · rw [if_pos h]
  · rw [if_neg h, if_pos (by decide), if_pos (Int32.not_lt.mp h)]
theorem M_unit (z1 z2 : Int32) : SM (FX6_unit 200 0 (fun _ => 0) (fun _ => 0) (fun _ => 0) (fun _ => 0) z1 z2) (FX7_unit 200 0 (fun _ => 0) (fun _ => 0) (fun _ => 0) (fun _ => 0) (fun _ => 0) z1 z2) := by
  unfold FX6_unit FX7_unit
  rw [iu6, iu7, bd_s, bd_s, if_pos rfl, if_pos rfl]
  exact SM_mk rfl rfl
theorem M_setting (z1 z2 z3 : Int32) : SM (FX6_setting 200 0 (fun _ => 0) (fun _ => 0) z1 z2 z3) (FX7_setting 200 0 (fun _ => 0) (fun _ => 0) (fun _ => 0) z1 z2 z3) := by
  unfold FX6_setting FX7_setting FX6_isSetting
  rw [iu6, iu7, bd_s, bd_s, if_pos rfl, if_pos rfl, bd_s, if_pos rfl]
  exact SM_mk rfl rfl
theorem M_choose (z1 z2 : Int32) : SM (FX6_choose 200 0 (fun _ => 0) (fun _ => 0) z1 z2) (FX7_choose 200 0 (fun _ => 0) (fun _ => 0) (fun _ => 0) z1 z2) := by
  unfold FX6_choose FX7_choose FX6_isSetting
  rw [iu6, iu7, bd_s, bd_s, if_pos rfl, if_pos rfl, bd_s, if_pos rfl]
  exact SM_mk rfl rfl
theorem k0 (z : Int32) (h : z < 0 ∨ (¬ z < 0 ∧ (5 : Int32) ≤ z)) : FX6_isKind 200 z = some (0, ()) ∧ FX7_isKind 200 z = some (0, ()) ∧ FX6_isTown 200 z = some (0, ()) ∧ FX7_isTown 200 z = some (0, ()) ∧ FX6_isOut 200 z = some (0, ()) := by
  unfold FX6_isKind FX7_isKind FX6_isTown FX7_isTown FX6_isOut
  rcases h with h | ⟨h, h'⟩
  · rw [if_pos h]; exact ⟨rfl, rfl, rfl, rfl, rfl⟩
  · rw [if_neg h, if_pos h']; exact ⟨rfl, rfl, rfl, rfl, rfl⟩
theorem k1 (z : Int32) (h : ¬ z < 0) (h' : ¬ (5 : Int32) ≤ z) : FX6_isKind 200 z = some (1, ()) ∧ FX7_isKind 200 z = some (1, ()) ∧ FX6_isTown 200 z = some (1, ()) ∧ FX7_isTown 200 z = some (1, ()) ∧ FX6_isOut 200 z = some (1, ()) := by
  unfold FX6_isKind FX7_isKind FX6_isTown FX7_isTown FX6_isOut
  rw [if_neg h, if_neg h']; exact ⟨rfl, rfl, rfl, rfl, rfl⟩
theorem bb0 (z : Int32) (h : z < 0 ∨ (¬ z < 0 ∧ (4 : Int32) ≤ z)) : FX6_isBale 200 z = some (0, ()) ∧ FX7_isBale 200 z = some (0, ()) := by
  unfold FX6_isBale FX7_isBale
  rcases h with h | ⟨h, h'⟩
  · rw [if_pos h]; exact ⟨rfl, rfl⟩
  · rw [if_neg h, if_pos h']; exact ⟨rfl, rfl⟩
