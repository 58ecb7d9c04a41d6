theorem n10 : ¬ (((1 : Int32), ()).1 = 0) := by decide
theorem whole_d : ∀ k, k < 5 → (((FX7_whole 200 (0 : Int32) (0 : Int64) (fun _ => 0) (fun _ => 0) (fun _ => 0) (fun _ => 0) (fun _ => 0) (fun _ => 0) (fun _ => 0) (fun _ => 0) (nI k)).map Prod.fst).isSome = true ∧ (FX6_whole 200 (0 : Int64) (0 : Int32) (fun _ => 0) (fun _ => 0) (fun _ => 0) (fun _ => 0) (fun _ => 0) (fun _ => 0) (fun _ => 0) (fun _ => 0) (nI k)).map Prod.fst = (FX7_whole 200 (0 : Int32) (0 : Int64) (fun _ => 0) (fun _ => 0) (fun _ => 0) (fun _ => 0) (fun _ => 0) (fun _ => 0) (fun _ => 0) (fun _ => 0) (nI k)).map Prod.fst) := by decide +kernel
theorem M_whole (z1 : Int32) : SM (FX6_whole 200 (0 : Int64) (0 : Int32) (fun _ => 0) (fun _ => 0) (fun _ => 0) (fun _ => 0) (fun _ => 0) (fun _ => 0) (fun _ => 0) (fun _ => 0) z1) (FX7_whole 200 (0 : Int32) (0 : Int64) (fun _ => 0) (fun _ => 0) (fun _ => 0) (fun _ => 0) (fun _ => 0) (fun _ => 0) (fun _ => 0) (fun _ => 0) z1) := by
  rcases in5 z1 with h | h | ⟨h, h', k, hk, rfl⟩
  · unfold FX6_whole FX7_whole
    rw [(k0 z1 (Or.inl h)).1, (k0 z1 (Or.inl h)).2.1, bd_s, bd_s, if_pos rfl, if_pos rfl]; exact SM_mk rfl rfl
  · unfold FX6_whole FX7_whole
    rw [(k0 z1 (Or.inr h)).1, (k0 z1 (Or.inr h)).2.1, bd_s, bd_s, if_pos rfl, if_pos rfl]; exact SM_mk rfl rfl
  · exact SM_dec (whole_d k hk)
theorem part_d : ∀ k, k < 5 → ∀ o, o < 5 → (((FX7_part 200 (0 : Int32) (0 : Int64) (fun _ => 0) (fun _ => 0) (fun _ => 0) (fun _ => 0) (fun _ => 0) (fun _ => 0) (fun _ => 0) (fun _ => 0) (nI k) (nI o)).map Prod.fst).isSome = true ∧ (FX6_part 200 (0 : Int64) (0 : Int32) (fun _ => 0) (fun _ => 0) (fun _ => 0) (fun _ => 0) (fun _ => 0) (fun _ => 0) (fun _ => 0) (fun _ => 0) (nI k) (nI o)).map Prod.fst = (FX7_part 200 (0 : Int32) (0 : Int64) (fun _ => 0) (fun _ => 0) (fun _ => 0) (fun _ => 0) (fun _ => 0) (fun _ => 0) (fun _ => 0) (fun _ => 0) (nI k) (nI o)).map Prod.fst) := by decide +kernel
theorem M_part (z1 z2 : Int32) : SM (FX6_part 200 (0 : Int64) (0 : Int32) (fun _ => 0) (fun _ => 0) (fun _ => 0) (fun _ => 0) (fun _ => 0) (fun _ => 0) (fun _ => 0) (fun _ => 0) z1 z2) (FX7_part 200 (0 : Int32) (0 : Int64) (fun _ => 0) (fun _ => 0) (fun _ => 0) (fun _ => 0) (fun _ => 0) (fun _ => 0) (fun _ => 0) (fun _ => 0) z1 z2) := by
  rcases in5 z1 with h | h | ⟨h, h', k, hk, rfl⟩
  · unfold FX6_part FX7_part
    rw [(k0 z1 (Or.inl h)).1, (k0 z1 (Or.inl h)).2.1, bd_s, bd_s, if_pos rfl, if_pos rfl]; exact SM_mk rfl rfl
  · unfold FX6_part FX7_part
    rw [(k0 z1 (Or.inr h)).1, (k0 z1 (Or.inr h)).2.1, bd_s, bd_s, if_pos rfl, if_pos rfl]; exact SM_mk rfl rfl
  · rcases in5 z2 with q | q | ⟨q, q', o, ho, rfl⟩
    · unfold FX6_part FX7_part
      rw [(k1 _ h h').1, (k1 _ h h').2.1, bd_s, bd_s, if_neg n10, if_neg n10, (k0 z2 (Or.inl q)).2.2.2.2, bd_s, if_pos rfl, if_pos q]; exact SM_mk rfl rfl
    · unfold FX6_part FX7_part
      rw [(k1 _ h h').1, (k1 _ h h').2.1, bd_s, bd_s, if_neg n10, if_neg n10, (k0 z2 (Or.inr q)).2.2.2.2, bd_s, if_pos rfl, if_neg q.1, if_neg (Int32.not_lt.mpr q.2)]; exact SM_mk rfl rfl
    · exact SM_dec (part_d k hk o ho)
theorem M_inflow (z1 z2 : Int32) : SM (FX6_inflow 200 gH z1 z2) (FX7_inflow 200 gH z1 z2) := by
  have e : FX6_inflow 200 gH z1 z2 = FX7_inflow 200 gH z1 z2 := rfl
  rw [e]
  unfold FX7_inflow
  rcases in5 z1 with h | h | ⟨h, h', k, hk, rfl⟩
  · rw [(k0 z1 (Or.inl h)).2.1, bd_s, if_pos rfl]; exact SM_mk rfl rfl
  · rw [(k0 z1 (Or.inr h)).2.1, bd_s, if_pos rfl]; exact SM_mk rfl rfl
  · rw [(k1 _ h h').2.1, bd_s, if_neg (by decide)]
    by_cases c1 : z2 < (-1 : Int32)
    · rw [if_pos c1]; exact SM_mk rfl rfl
    · rw [if_neg c1]
      by_cases c2 : z2 ≤ (1000000 : Int32)
      · rw [if_pos c2, if_pos (nI_in hk (by decide))]; exact SM_mk rfl rfl
      · rw [if_neg c2]; exact SM_mk rfl rfl
theorem comes_d : ∀ k, k < 5 → (((FX7_comes 200 (0 : Int32) gH (fun _ => 0) (fun _ => 0) (fun _ => 0) (fun _ => 0) (nI k)).map Prod.fst).isSome = true ∧ (FX6_comes 200 gH (fun _ => 0) (nI k)).map Prod.fst = (FX7_comes 200 (0 : Int32) gH (fun _ => 0) (fun _ => 0) (fun _ => 0) (fun _ => 0) (nI k)).map Prod.fst) := by decide +kernel
theorem M_comes (z1 : Int32) : SM (FX6_comes 200 gH (fun _ => 0) z1) (FX7_comes 200 (0 : Int32) gH (fun _ => 0) (fun _ => 0) (fun _ => 0) (fun _ => 0) z1) := by
  rcases in5 z1 with h | h | ⟨h, h', k, hk, rfl⟩
  · unfold FX6_comes FX7_comes
    rw [(k0 z1 (Or.inl h)).1, (k0 z1 (Or.inl h)).2.1, bd_s, bd_s, if_pos rfl, if_pos rfl]; exact SM_mk rfl rfl
  · unfold FX6_comes FX7_comes
    rw [(k0 z1 (Or.inr h)).1, (k0 z1 (Or.inr h)).2.1, bd_s, bd_s, if_pos rfl, if_pos rfl]; exact SM_mk rfl rfl
  · exact SM_dec (comes_d k hk)
theorem grams_d : ∀ k, k < 5 → ∀ o, o < 5 → (((FX7_grams 200 (0 : Int32) (0 : Int64) (0 : Int32) gH (fun _ => 0) (fun _ => 0) (fun _ => 0) (fun _ => 0) (fun _ => 0) (fun _ => 0) (fun _ => 0) (fun _ => 0) (fun _ => 0) (fun _ => 0) (fun _ => 0) (fun _ => 0) (fun _ => 0) (nI k) (nI o)).map Prod.fst).isSome = true ∧ (FX6_grams 200 (fun _ => 0) gH (fun _ => 0) (0 : Int32) (fun _ => 0) (0 : Int64) (fun _ => 0) (fun _ => 0) (fun _ => 0) (fun _ => 0) (fun _ => 0) (fun _ => 0) (fun _ => 0) (fun _ => 0) (fun _ => 0) (nI k) (nI o)).map Prod.fst = (FX7_grams 200 (0 : Int32) (0 : Int64) (0 : Int32) gH (fun _ => 0) (fun _ => 0) (fun _ => 0) (fun _ => 0) (fun _ => 0) (fun _ => 0) (fun _ => 0) (fun _ => 0) (fun _ => 0) (fun _ => 0) (fun _ => 0) (fun _ => 0) (fun _ => 0) (nI k) (nI o)).map Prod.fst) := by decide +kernel
theorem M_grams (z1 z2 : Int32) : SM (FX6_grams 200 (fun _ => 0) gH (fun _ => 0) (0 : Int32) (fun _ => 0) (0 : Int64) (fun _ => 0) (fun _ => 0) (fun _ => 0) (fun _ => 0) (fun _ => 0) (fun _ => 0) (fun _ => 0) (fun _ => 0) (fun _ => 0) z1 z2) (FX7_grams 200 (0 : Int32) (0 : Int64) (0 : Int32) gH (fun _ => 0) (fun _ => 0) (fun _ => 0) (fun _ => 0) (fun _ => 0) (fun _ => 0) (fun _ => 0) (fun _ => 0) (fun _ => 0) (fun _ => 0) (fun _ => 0) (fun _ => 0) (fun _ => 0) z1 z2) := by
  rcases in5 z1 with h | h | ⟨h, h', k, hk, rfl⟩
  · unfold FX6_grams FX7_grams
    rw [(k0 z1 (Or.inl h)).2.2.2.2, bd_s, if_pos rfl, if_pos h]; exact SM_mk rfl rfl
  · unfold FX6_grams FX7_grams
    rw [(k0 z1 (Or.inr h)).2.2.2.2, bd_s, if_pos rfl, if_neg h.1, if_pos h.2]; exact SM_mk rfl rfl
  · rcases in5 z2 with q | q | ⟨q, q', o, ho, rfl⟩
    · unfold FX6_grams FX7_grams
      rw [(k1 _ h h').2.2.2.2, bd_s, if_neg (by decide), (k0 z2 (Or.inl q)).1, bd_s, if_pos rfl, if_neg h, if_neg h', (k0 z2 (Or.inl q)).2.1, bd_s, if_pos rfl]; exact SM_mk rfl rfl
    · unfold FX6_grams FX7_grams
      rw [(k1 _ h h').2.2.2.2, bd_s, if_neg (by decide), (k0 z2 (Or.inr q)).1, bd_s, if_pos rfl, if_neg h, if_neg h', (k0 z2 (Or.inr q)).2.1, bd_s, if_pos rfl]; exact SM_mk rfl rfl
    · exact SM_dec (grams_d k hk o ho)
theorem purity_d : ∀ k, k < 4 → (((FX7_purity 200 (0 : Int32) (0 : Int64) (0 : Int32) gH (fun _ => 0) (fun _ => 0) (fun _ => 0) (fun _ => 0) (fun _ => 0) (fun _ => 0) (fun _ => 0) (fun _ => 0) (fun _ => 0) (fun _ => 0) (fun _ => 0) (fun _ => 0) (fun _ => 0) (fun _ => 0) (fun _ => 0) (nI k)).map Prod.fst).isSome = true ∧ (FX6_purity 200 (fun _ => 0) gH (fun _ => 0) (0 : Int32) (fun _ => 0) (0 : Int64) (fun _ => 0) (fun _ => 0) (fun _ => 0) (fun _ => 0) (fun _ => 0) (fun _ => 0) (fun _ => 0) (fun _ => 0) (fun _ => 0) (fun _ => 0) (fun _ => 0) (nI k)).map Prod.fst = (FX7_purity 200 (0 : Int32) (0 : Int64) (0 : Int32) gH (fun _ => 0) (fun _ => 0) (fun _ => 0) (fun _ => 0) (fun _ => 0) (fun _ => 0) (fun _ => 0) (fun _ => 0) (fun _ => 0) (fun _ => 0) (fun _ => 0) (fun _ => 0) (fun _ => 0) (fun _ => 0) (fun _ => 0) (nI k)).map Prod.fst) := by decide +kernel
theorem M_purity (z1 : Int32) : SM (FX6_purity 200 (fun _ => 0) gH (fun _ => 0) (0 : Int32) (fun _ => 0) (0 : Int64) (fun _ => 0) (fun _ => 0) (fun _ => 0) (fun _ => 0) (fun _ => 0) (fun _ => 0) (fun _ => 0) (fun _ => 0) (fun _ => 0) (fun _ => 0) (fun _ => 0) z1) (FX7_purity 200 (0 : Int32) (0 : Int64) (0 : Int32) gH (fun _ => 0) (fun _ => 0) (fun _ => 0) (fun _ => 0) (fun _ => 0) (fun _ => 0) (fun _ => 0) (fun _ => 0) (fun _ => 0) (fun _ => 0) (fun _ => 0) (fun _ => 0) (fun _ => 0) (fun _ => 0) (fun _ => 0) z1) := by
  rcases in4 z1 with h | h | ⟨h, h', k, hk, rfl⟩
  · unfold FX6_purity FX7_purity
    rw [(bb0 z1 (Or.inl h)).1, (bb0 z1 (Or.inl h)).2, bd_s, bd_s, if_pos rfl, if_pos rfl]; exact SM_mk rfl rfl
  · unfold FX6_purity FX7_purity
    rw [(bb0 z1 (Or.inr h)).1, (bb0 z1 (Or.inr h)).2, bd_s, bd_s, if_pos rfl, if_pos rfl]; exact SM_mk rfl rfl
  · exact SM_dec (purity_d k hk)
theorem earns_d : ∀ k, k < 4 → (((FX7_earns 200 (0 : Int32) (0 : Int64) (0 : Int32) gH (fun _ => 0) (fun _ => 0) (fun _ => 0) (fun _ => 0) (fun _ => 0) (fun _ => 0) (fun _ => 0) (fun _ => 0) (fun _ => 0) (fun _ => 0) (fun _ => 0) (fun _ => 0) (fun _ => 0) (fun _ => 0) (fun _ => 0) (fun _ => 0) (fun _ => 0) (nI k)).map Prod.fst).isSome = true ∧ (FX6_earns 200 (fun _ => 0) gH (fun _ => 0) (0 : Int32) (fun _ => 0) (0 : Int64) (fun _ => 0) (fun _ => 0) (fun _ => 0) (fun _ => 0) (fun _ => 0) (fun _ => 0) (fun _ => 0) (fun _ => 0) (fun _ => 0) (fun _ => 0) (fun _ => 0) (fun _ => 0) (fun _ => 0) (nI k)).map Prod.fst = (FX7_earns 200 (0 : Int32) (0 : Int64) (0 : Int32) gH (fun _ => 0) (fun _ => 0) (fun _ => 0) (fun _ => 0) (fun _ => 0) (fun _ => 0) (fun _ => 0) (fun _ => 0) (fun _ => 0) (fun _ => 0) (fun _ => 0) (fun _ => 0) (fun _ => 0) (fun _ => 0) (fun _ => 0) (fun _ => 0) (fun _ => 0) (nI k)).map Prod.fst) := by decide +kernel
theorem M_earns (z1 : Int32) : SM (FX6_earns 200 (fun _ => 0) gH (fun _ => 0) (0 : Int32) (fun _ => 0) (0 : Int64) (fun _ => 0) (fun _ => 0) (fun _ => 0) (fun _ => 0) (fun _ => 0) (fun _ => 0) (fun _ => 0) (fun _ => 0) (fun _ => 0) (fun _ => 0) (fun _ => 0) (fun _ => 0) (fun _ => 0) z1) (FX7_earns 200 (0 : Int32) (0 : Int64) (0 : Int32) gH (fun _ => 0) (fun _ => 0) (fun _ => 0) (fun _ => 0) (fun _ => 0) (fun _ => 0) (fun _ => 0) (fun _ => 0) (fun _ => 0) (fun _ => 0) (fun _ => 0) (fun _ => 0) (fun _ => 0) (fun _ => 0) (fun _ => 0) (fun _ => 0) (fun _ => 0) z1) := by
  rcases in4 z1 with h | h | ⟨h, h', k, hk, rfl⟩
  · unfold FX6_earns FX7_earns
    rw [(bb0 z1 (Or.inl h)).1, (bb0 z1 (Or.inl h)).2, bd_s, bd_s, if_pos rfl, if_pos rfl]; exact SM_mk rfl rfl
  · unfold FX6_earns FX7_earns
    rw [(bb0 z1 (Or.inr h)).1, (bb0 z1 (Or.inr h)).2, bd_s, bd_s, if_pos rfl, if_pos rfl]; exact SM_mk rfl rfl
  · exact SM_dec (earns_d k hk)
theorem M_cost (z1 : Int32) : SM (FX6_cost 200 (10 : Int32) z1) (FX7_cost 200 (10 : Int32) z1) := by
  unfold FX6_cost FX7_cost
  by_cases h : z1 < 0
  · simp only [if_pos h]; exact SM_mk rfl rfl
  · simp only [if_neg h]
    by_cases q : z1 ≤ (9999 : Int32)
    · simp only [if_pos q]; exact SM_mk rfl rfl
    · simp only [if_neg q]; exact SM_mk rfl rfl
theorem M_worth : SM (FX6_worth 200 (10 : Int32) (fun _ => 0) gH (fun _ => 0) (0 : Int32) (fun _ => 0) (0 : Int64) (fun _ => 0) (fun _ => 0) (fun _ => 0) (fun _ => 0) (fun _ => 0) (fun _ => 0) (fun _ => 0) (fun _ => 0) (fun _ => 0) (fun _ => 0) (fun _ => 0) (fun _ => 0) (fun _ => 0)) (FX7_worth 200 (0 : Int32) (0 : Int64) (0 : Int32) (10 : Int32) gH (fun _ => 0) (fun _ => 0) (fun _ => 0) (fun _ => 0) (fun _ => 0) (fun _ => 0) (fun _ => 0) (fun _ => 0) (fun _ => 0) (fun _ => 0) (fun _ => 0) (fun _ => 0) (fun _ => 0) (fun _ => 0) (fun _ => 0) (fun _ => 0) (fun _ => 0)) := SM_dec (by decide +kernel)
theorem M_best : SM (FX6_best 200 (10 : Int32) (fun _ => 0) gH (fun _ => 0) (fun _ => 0) (0 : Int32) (0 : Int64) (fun _ => 0) (fun _ => 0) (fun _ => 0) (fun _ => 0) (fun _ => 0) (fun _ => 0) (fun _ => 0) (fun _ => 0) (fun _ => 0) (fun _ => 0) (fun _ => 0) (fun _ => 0) (fun _ => 0) (fun _ => 0) (fun _ => 0)) (FX7_best 200 (0 : Int32) (0 : Int64) (0 : Int32) (10 : Int32) (fun _ => 0) (fun _ => 0) (fun _ => 0) gH (fun _ => 0) (fun _ => 0) (fun _ => 0) (fun _ => 0) (fun _ => 0) (fun _ => 0) (fun _ => 0) (fun _ => 0) (fun _ => 0) (fun _ => 0) (fun _ => 0) (fun _ => 0) (fun _ => 0) (fun _ => 0) (fun _ => 0)) := SM_dec (by decide +kernel)
theorem M_strike (z1 : Int32) : SM (FX6_strike 200 (0 : Int32) (fun _ => 0) (fun _ => 0) (fun _ => 0) (fun _ => 0) z1) (FX7_strike 200 (0 : Int32) (fun _ => 0) z1) := by
  unfold FX6_strike FX5_strikeOff FX7_strike
  by_cases h : z1 < 0
  · simp only [if_pos h, bd_s]; exact SM_mk rfl rfl
  · simp only [if_neg h, if_pos (Int32.not_lt.mp h), bd_s]; exact SM_mk rfl rfl
theorem brought_d : ∀ k, k < 5 → ∀ o, o < 5 → (((FX7_brought 200 (0 : Int32) (fun _ => 0) (fun _ => 0) (fun _ => 0) (fun _ => 0) (nI k) (nI o)).map Prod.fst).isSome = true ∧ (FX6_brought 200 (fun _ => 0) (nI k) (nI o)).map Prod.fst = (FX7_brought 200 (0 : Int32) (fun _ => 0) (fun _ => 0) (fun _ => 0) (fun _ => 0) (nI k) (nI o)).map Prod.fst) := by decide +kernel
theorem M_brought (z1 z2 : Int32) : SM (FX6_brought 200 (fun _ => 0) z1 z2) (FX7_brought 200 (0 : Int32) (fun _ => 0) (fun _ => 0) (fun _ => 0) (fun _ => 0) z1 z2) := by
  rcases in5 z1 with h | h | ⟨h, h', k, hk, rfl⟩
  · unfold FX6_brought FX7_brought
    rw [(k0 z1 (Or.inl h)).2.2.1, (k0 z1 (Or.inl h)).2.2.2.1, bd_s, bd_s, if_pos rfl, if_pos rfl]; exact SM_mk rfl rfl
  · unfold FX6_brought FX7_brought
    rw [(k0 z1 (Or.inr h)).2.2.1, (k0 z1 (Or.inr h)).2.2.2.1, bd_s, bd_s, if_pos rfl, if_pos rfl]; exact SM_mk rfl rfl
  · rcases in5 z2 with q | q | ⟨q, q', o, ho, rfl⟩
    · unfold FX6_brought FX7_brought
      rw [(k1 _ h h').2.2.1, (k1 _ h h').2.2.2.1, bd_s, bd_s, if_neg n10, if_neg n10, (k0 z2 (Or.inl q)).1, (k0 z2 (Or.inl q)).2.1, bd_s, bd_s, if_pos rfl, if_pos rfl]; exact SM_mk rfl rfl
    · unfold FX6_brought FX7_brought
      rw [(k1 _ h h').2.2.1, (k1 _ h h').2.2.2.1, bd_s, bd_s, if_neg n10, if_neg n10, (k0 z2 (Or.inr q)).1, (k0 z2 (Or.inr q)).2.1, bd_s, bd_s, if_pos rfl, if_pos rfl]; exact SM_mk rfl rfl
    · exact SM_dec (brought_d k hk o ho)
theorem ofAll_d : ∀ k, k < 5 → FX5_ofAll 200 (fun _ => 0) (nI k) = some (0, ()) := by decide +kernel
theorem byAll_d : ∀ k, k < 5 → FX7_broughtByAll 200 0 (fun _ => 0) (fun _ => 0) (fun _ => 0) (fun _ => 0) (nI k) = some (0, ()) := by decide +kernel
theorem M_share (z1 z2 z3 : Int32) : SM (FX6_share 200 (fun _ => 0) z1 z2 z3) (FX7_share 200 (0 : Int32) (fun _ => 0) (fun _ => 0) (fun _ => 0) (fun _ => 0) (fun _ => 0) (fun _ => 0) z1 z2 z3) := by
  rcases in5 z1 with h | h | ⟨h, h', k, hk, rfl⟩
  · unfold FX6_share FX7_share
    rw [(k0 z1 (Or.inl h)).2.2.1, (k0 z1 (Or.inl h)).2.2.2.1, bd_s, bd_s, if_pos rfl, if_pos rfl]; exact SM_mk rfl rfl
  · unfold FX6_share FX7_share
    rw [(k0 z1 (Or.inr h)).2.2.1, (k0 z1 (Or.inr h)).2.2.2.1, bd_s, bd_s, if_pos rfl, if_pos rfl]; exact SM_mk rfl rfl
  · rcases in5 z2 with q | q | ⟨q, q', o, ho, rfl⟩
    · unfold FX6_share FX7_share
      rw [(k1 _ h h').2.2.1, (k1 _ h h').2.2.2.1, bd_s, bd_s, if_neg n10, if_neg n10, (k0 z2 (Or.inl q)).1, (k0 z2 (Or.inl q)).2.1, bd_s, bd_s, if_pos rfl, if_pos rfl]; exact SM_mk rfl rfl
    · unfold FX6_share FX7_share
      rw [(k1 _ h h').2.2.1, (k1 _ h h').2.2.2.1, bd_s, bd_s, if_neg n10, if_neg n10, (k0 z2 (Or.inr q)).1, (k0 z2 (Or.inr q)).2.1, bd_s, bd_s, if_pos rfl, if_pos rfl]; exact SM_mk rfl rfl
    · unfold FX6_share FX7_share
      rw [(k1 _ h h').2.2.1, (k1 _ h h').2.2.2.1, bd_s, bd_s, if_neg n10, if_neg n10, (k1 _ q q').1, (k1 _ q q').2.1, bd_s, bd_s, if_neg n10, if_neg n10]
      by_cases c1 : z3 < 0
      · simp only [if_pos c1]; exact SM_mk rfl rfl
      · simp only [if_neg c1]
        by_cases c2 : z3 ≤ (10000000 : Int32)
        · simp only [if_pos c2]
          unfold FX5_shareOf
          rw [ofAll_d o ho, bd_s, if_neg (show ¬ 0 ≤ lg_cmp ((0 : Int64), ()).1 (1 : Int64) by decide), bd_s, byAll_d o ho, bd_s, lt1_e, if_pos (show lg_cmp (((0 : Int32), ()).1).toInt64 (0 : Int64) = 0 by decide)]
          exact SM_mk rfl rfl
        · simp only [if_neg c2]; exact SM_mk rfl rfl
theorem about_d : ∀ k, k < 14 → (((FX7_about 200 (0 : Int32) (0 : Int32) (0 : Int32) (10 : Int32) (fun _ => 0) (fun _ => 0) (nI k)).map Prod.fst).isSome = true ∧ (FX6_about 200 (10 : Int32) (0 : Int32) (fun _ => 0) (0 : Int32) (0 : Int32) (nI k)).map Prod.fst = (FX7_about 200 (0 : Int32) (0 : Int32) (0 : Int32) (10 : Int32) (fun _ => 0) (fun _ => 0) (nI k)).map Prod.fst) := by decide +kernel
theorem M_about (z1 : Int32) : SM (FX6_about 200 (10 : Int32) (0 : Int32) (fun _ => 0) (0 : Int32) (0 : Int32) z1) (FX7_about 200 (0 : Int32) (0 : Int32) (0 : Int32) (10 : Int32) (fun _ => 0) (fun _ => 0) z1) := by
  rcases pk_ix z1 (n := 14) (by decide) with h | h | ⟨k, hk, rfl⟩
  · have a0 : ¬ z1 = 0 := fun e => by rw [e] at h; exact absurd h (by decide)
    have a1 : ¬ z1 = (1 : Int32) := fun e => by rw [e] at h; exact absurd h (by decide)
    have a2 : ¬ z1 = (2 : Int32) := fun e => by rw [e] at h; exact absurd h (by decide)
    have a3 : ¬ z1 = (3 : Int32) := fun e => by rw [e] at h; exact absurd h (by decide)
    have a4 : z1 < (10 : Int32) := Int32.lt_trans h (by decide)
    unfold FX6_about FX7_about
    rw [if_neg a0, if_neg a1, if_neg a2, if_neg a3, if_pos a4, if_neg a0, if_neg a1, if_neg a2, if_neg a3, if_pos a4]; exact SM_mk rfl rfl
  · have h : (14 : Int32) ≤ z1 := h
    have a0 : ¬ z1 = 0 := fun e => by rw [e] at h; exact absurd h (by decide)
    have a1 : ¬ z1 = (1 : Int32) := fun e => by rw [e] at h; exact absurd h (by decide)
    have a2 : ¬ z1 = (2 : Int32) := fun e => by rw [e] at h; exact absurd h (by decide)
    have a3 : ¬ z1 = (3 : Int32) := fun e => by rw [e] at h; exact absurd h (by decide)
    have a4 : ¬ z1 < (10 : Int32) := fun q => absurd (Int32.lt_of_le_of_lt h q) (by decide)
    unfold FX6_about FX7_about
    rw [if_neg a0, if_neg a1, if_neg a2, if_neg a3, if_neg a4, if_pos h, if_neg a0, if_neg a1, if_neg a2, if_neg a3, if_neg a4, if_pos h]; exact SM_mk rfl rfl
  · exact SM_dec (about_d k hk)
/-! 20 lorry -/
theorem smp (z : Int32) : ∃ b : Int32, FX6_isSampled 200 z = some (b, ()) ∧ FX7_isSample 200 z = some (b, ()) := by
  unfold FX6_isSampled FX7_isSample
  by_cases h : z < 0
  · rw [if_pos h]; exact ⟨_, rfl, rfl⟩
  · rw [if_neg h]
    by_cases q : z ≤ (1000 : Int32)
    · first | (rw [if_pos q]; exact ⟨_, rfl, rfl⟩) | (rw [if_neg (Int32.not_lt.mpr q)]; exact ⟨_, rfl, rfl⟩)
    · first | (rw [if_neg q]; exact ⟨_, rfl, rfl⟩) | (rw [if_pos (Int32.not_le.mp q)]; exact ⟨_, rfl, rfl⟩)
theorem bring49 (sa : Nat → Int32) (z1 z2 : Int32) (tw : Nat) (ht : tw < 5) (x3 : Int32) (x4 : Int64) (towns : Nat → Int32) : ∀ (j i : Nat) (lo ot : Nat → Int32), i ≤ 5 → 5 < i + j → ∃ t, FX5_bring_49L 200 sa z1 z2 j 0 lo ot towns (nI tw) x3 x4 (nI i) = some (0, t) := by
  intro j
  induction j with
  | zero => intro i lo ot h1 h2; omega
  | succ j ih =>
    intro i lo ot h1 h2
    have h79 : ∀ y : Int32, i < 5 → ∃ t, FX5_bring_79 200 sa z1 z2 (FX5_bring_49L 200 sa z1 z2 j) 0 lo ot towns (nI tw) x3 x4 (nI i) y = some (0, t) := by
      intro y hlt
      unfold FX5_bring_79
      have e0 : (0 : Int32) * (5 : Int32) + nI i = nI i := by
        rw [show (0 : Int32) * (5 : Int32) = 0 from by decide]; exact Int32.zero_add _
      have e1 : nI tw * (5 : Int32) + nI i = nI (tw * 5 + i) := by
        rw [show (5 : Int32) = nI 5 from rfl, pk_mul, nI_add]
      rw [e0, e1, if_pos (nI_in (N := 300) (by omega) (by decide)), lt1_e, lt1_e, if_pos (nI_in (N := 25) (by omega) (by decide)), lt1_e, if_pos (nI_in (N := 25) (by omega) (by decide)), lt1_e, lt1_e, show nI i + (1 : Int32) = nI (i + 1) from nI_1 i]
      exact ih (i + 1) _ _ (by omega) (by omega)
    show ∃ t, FX5_bring_49 200 sa z1 z2 (FX5_bring_49L 200 sa z1 z2 j) 0 lo ot towns (nI tw) x3 x4 (nI i) = some (0, t)
    unfold FX5_bring_49
    by_cases h : i = 5
    · subst h
      rw [if_pos (by decide), if_pos (by decide)]
      exact ⟨_, rfl⟩
    · have hlt : i < 5 := by omega
      have c : ¬ (5 : Int32) ≤ nI i := nI_ge (b := 5) hlt (by decide)
      rw [if_neg c]
      by_cases c3 : (1 : Int32) ≤ x3
      · rw [if_pos c3, if_pos (nI_in hlt (by decide)), lt1_e]
        have c4 : ¬ x3.toInt64 = 0 := by
          intro e
          have e2 : x3.toInt64.toInt = (0 : Int64).toInt := by rw [e]
          rw [Int32.toInt_toInt64] at e2
          have e3 := Int32.le_iff_toInt_le.mp c3
          rw [e2] at e3
          exact absurd e3 (by decide)
        rw [if_pos c4]
        exact h79 _ hlt
      · rw [if_neg c3]
        exact h79 _ hlt
theorem bring16 (sa : Nat → Int32) (z1 z2 : Int32) (tw : Nat) (ht : tw < 5) (lo ot towns : Nat → Int32) (x2 : Int32) : ∀ (j i : Nat) (x3 : Int32), i ≤ 5 → 5 < i + j → ∃ t, FX5_bring_16L 200 sa z1 z2 j 0 lo ot towns (nI tw) x2 x3 (nI i) = some (0, t) := by
  intro j
  induction j with
  | zero => intro i x3 h1 h2; omega
  | succ j ih =>
    intro i x3 h1 h2
    show ∃ t, FX5_bring_16 200 sa z1 z2 (FX5_bring_16L 200 sa z1 z2 j) 0 lo ot towns (nI tw) x2 x3 (nI i) = some (0, t)
    unfold FX5_bring_16
    by_cases h : i = 5
    · subst h
      rw [if_pos (by decide), lt1_e]
      have h := bring49 sa z1 z2 tw ht x3 (x2.toInt64 * 1000) towns 200 0 lo ot (by omega) (by omega)
      rw [nI_0] at h
      exact h
    · have hlt : i < 5 := by omega
      have c : ¬ (5 : Int32) ≤ nI i := nI_ge (b := 5) hlt (by decide)
      rw [if_neg c, if_pos (nI_in hlt (by decide)), lt1_e, lt1_e, show nI i + (1 : Int32) = nI (i + 1) from nI_1 i]
      exact ih (i + 1) _ (by omega) (by omega)
theorem bring_ok (sa lo ot towns : Nat → Int32) (tw : Nat) (ht : tw < 5) (w : Int32) : ∃ t, FX5_bring 200 0 sa lo ot towns (nI tw) w = some (0, t) := by
  unfold FX5_bring
  rw [if_pos (by decide)]
  have h := bring16 sa (nI tw) w tw ht lo ot towns w 200 0 0 (by omega) (by omega)
  rw [nI_0] at h
  exact h
theorem M_lorry (z1 z2 z3 z4 z5 z6 z7 : Int32) : SM (FX6_lorry 200 (0 : Int32) (fun _ => 0) (fun _ => 0) (fun _ => 0) (fun _ => 0) z1 z2 z3 z4 z5 z6 z7) (FX7_lorry 200 (0 : Int32) (fun _ => 0) (fun _ => 0) (fun _ => 0) (fun _ => 0) z1 z2 z3 z4 z5 z6 z7) := by
  unfold FX6_lorry FX7_lorry
  rcases in5 z1 with h | h | ⟨h, h', k, hk, rfl⟩
  · rw [(k0 z1 (Or.inl h)).2.2.1, bd_s, if_pos rfl, if_pos h]; exact SM_mk rfl rfl
  · rw [(k0 z1 (Or.inr h)).2.2.1, bd_s, if_pos rfl, if_neg h.1, if_pos h.2]; exact SM_mk rfl rfl
  · rw [(k1 _ h h').2.2.1, bd_s, if_neg (by decide), if_neg h, if_neg h']
    by_cases c1 : z2 < (1 : Int32)
    · simp only [if_pos c1]; exact SM_mk rfl rfl
    · simp only [if_neg c1]
      by_cases c2 : z2 ≤ (20000 : Int32)
      · rw [if_pos c2, if_neg (Int32.not_lt.mpr c2)]
        obtain ⟨b3, e3, f3⟩ := smp z3
        rw [e3, f3, bd_s, bd_s]
        by_cases d3 : b3 = 0
        · simp only [if_pos d3]; exact SM_mk rfl rfl
        · simp only [if_neg d3]
          obtain ⟨b4, e4, f4⟩ := smp z4
          rw [e4, f4, bd_s, bd_s]
          by_cases d4 : b4 = 0
          · simp only [if_pos d4]; exact SM_mk rfl rfl
          · simp only [if_neg d4]
            obtain ⟨b5, e5, f5⟩ := smp z5
            rw [e5, f5, bd_s, bd_s]
            by_cases d5 : b5 = 0
            · simp only [if_pos d5]; exact SM_mk rfl rfl
            · simp only [if_neg d5]
              obtain ⟨b6, e6, f6⟩ := smp z6
              rw [e6, f6, bd_s, bd_s]
              by_cases d6 : b6 = 0
              · simp only [if_pos d6]; exact SM_mk rfl rfl
              · simp only [if_neg d6]
                obtain ⟨b7, e7, f7⟩ := smp z7
                rw [e7, f7, bd_s, bd_s]
                by_cases d7 : b7 = 0
                · simp only [if_pos d7]; exact SM_mk rfl rfl
                · rw [if_neg d7, if_neg d7, if_pos (by decide), lt1_e, if_pos (by decide), lt1_e, if_pos (by decide), lt1_e, if_pos (by decide), lt1_e, if_pos (by decide), lt1_e]
                  obtain ⟨t, et⟩ := bring_ok (upd (upd (upd (upd (upd (fun _ => 0) (0 : Int32).toNatClampNeg z3) (1 : Int32).toNatClampNeg z4) (2 : Int32).toNatClampNeg z5) (3 : Int32).toNatClampNeg z6) (4 : Int32).toNatClampNeg z7) (fun _ => 0) (fun _ => 0) (fun _ => 0) k hk z2
                  rw [et, bd_s, if_neg (by decide), if_pos (by decide), lt1_e, if_pos (by decide), lt1_e, if_pos (by decide), lt1_e, if_pos (by decide), lt1_e, if_pos (by decide), lt1_e, if_pos (by decide), lt1_e, if_pos (by decide), lt1_e, if_pos (by decide), lt1_e, lt1_e]
                  exact SM_mk rfl rfl
      · rw [if_neg c2, if_pos (Int32.not_le.mp c2)]; exact SM_mk rfl rfl
