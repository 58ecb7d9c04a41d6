theorem fill_loop (n ln : Nat) (z : Int32) (hl : ln < 2 ^ 31) : ∀ (j i : Nat) (f : Nat → Int32) (x : Int32), i ≤ ln → ln < i + j → FJ7_fill_53178_5L n ln z j f x (nI i) (nI ln) = some ((), fun t => if i ≤ t ∧ t < ln then x else f t) := by
  intro j
  induction j with
  | zero => intro i f x h1 h2; omega
  | succ j ih =>
    intro i f x h1 h2
    show FJ7_fill_53178_5 n ln z (FJ7_fill_53178_5L n ln z j) f x (nI i) (nI ln) = _
    unfold FJ7_fill_53178_5
    by_cases h : i = ln
    · subst h
      rw [if_pos (nI_le (Nat.le_refl _) hl)]
      congr 2
      funext t
      rw [if_neg (by omega)]
    · have hlt : i < ln := by omega
      rw [if_neg (nI_ge hlt hl), if_pos (nI_in hlt hl)]
      show FJ7_fill_53178_5L n ln z j (upd f (nI i).toNatClampNeg x) x (nI i + 1) (nI ln) = _
      rw [nI_clamp (by omega)]
      have e1 : nI i + (1 : Int32) = nI (i + 1) := nI_1 i
      rw [e1, ih (i + 1) _ x (by omega) (by omega)]
      congr 2
      funext t
      unfold upd
      by_cases q : t = i
      · subst q; rw [if_neg (by omega), if_pos rfl, if_pos (by omega)]
      · rw [if_neg q]
        by_cases r : i ≤ t ∧ t < ln
        · rw [if_pos r, if_pos (by omega)]
        · rw [if_neg r, if_neg (by omega)]
theorem fill_ok (n ln : Nat) (f : Nat → Int32) (x : Int32) (hl : ln < 2 ^ 31) (hn : ln < n) : FJ7_fill_53178 n ln f x = some ((), fun t => if t < ln then x else f t) := by
  show FJ7_fill_53178_5L n ln x n f x 0 (nI ln) = _
  have h := fill_loop n ln x hl n 0 f x (Nat.zero_le _) (by omega)
  rw [nI_0] at h
  rw [h]
  congr 2
  funext t
  by_cases q : t < ln
  · rw [if_pos q, if_pos ⟨Nat.zero_le _, q⟩]
  · rw [if_neg q, if_neg (fun h => q h.2)]
theorem sJ7_fill_53178 (n : Nat) (hn : n = 2200000000) (ln : Nat) (a_p0 : Nat → Int32) (z1 : Int32) (i0 : ln ≤ 1000) : OK (FJ7_fill_53178 n ln a_p0 z1) (fun u => ∀ i : Nat, ((i < ln ∧ (u.2 i).toInt = (z1).toInt) ∨ (ln ≤ i ∧ (u.2 i).toInt = (a_p0 i).toInt))) := by
  refine ⟨_, fill_ok n ln a_p0 z1 (by omega) (by omega), fun i => ?_⟩
  dsimp only
  by_cases q : i < ln
  · rw [if_pos q]; exact Or.inl ⟨q, rfl⟩
  · rw [if_neg q]; exact Or.inr ⟨by omega, rfl⟩
theorem fillL_loop (n ln : Nat) (z : Int64) (hl : ln < 2 ^ 31) : ∀ (j i : Nat) (f : Nat → Int64) (x : Int64), i ≤ ln → ln < i + j → ∃ g, FJ7_fill_d0a16_6L n ln z j f x (nI i) (nI ln) = some ((), g) := by
  intro j
  induction j with
  | zero => intro i f x h1 h2; omega
  | succ j ih =>
    intro i f x h1 h2
    show ∃ g, FJ7_fill_d0a16_6 n ln z (FJ7_fill_d0a16_6L n ln z j) f x (nI i) (nI ln) = some ((), g)
    unfold FJ7_fill_d0a16_6
    by_cases h : i = ln
    · subst h
      rw [if_pos (nI_le (Nat.le_refl _) hl)]
      exact ⟨_, rfl⟩
    · have hlt : i < ln := by omega
      rw [if_neg (nI_ge hlt hl), if_pos (nI_in hlt hl)]
      show ∃ g, FJ7_fill_d0a16_6L n ln z j (vp_updL f (nI i).toNatClampNeg x) x (nI i + 1) (nI ln) = some ((), g)
      have e1 : nI i + (1 : Int32) = nI (i + 1) := nI_1 i
      rw [e1]
      exact ih (i + 1) _ x (by omega) (by omega)
theorem sJ7_fill_d0a16 (n : Nat) (hn : n = 2200000000) (ln : Nat) (a_p0 : Nat → Int64) (z1 : Int64) (i0 : ln ≤ 1000) : OK (FJ7_fill_d0a16 n ln a_p0 z1) (fun u => True) := by
  have h := fillL_loop n ln z1 (by omega) n 0 a_p0 z1 (Nat.zero_le _) (by omega)
  rw [nI_0] at h
  obtain ⟨g, h⟩ := h
  exact ⟨_, h, trivial⟩
theorem bc_d : ∀ k, k < 31 → (match FJ6_bitCount_0f7a4 0 (nI k) with | some (r, _) => decide (0 ≤ r.toInt ∧ r.toInt ≤ 4) | none => false) = true := by decide +kernel
theorem sJ6_bitCount_0f7a4 (n : Nat) (hn : n = 2200000000) (z0 : Int32) (i0 : 0 ≤ (z0).toInt) (i1 : (z0).toInt ≤ 30) : OK (FJ6_bitCount_0f7a4 n z0) (fun u => (0 ≤ (u.1).toInt) ∧ ((u.1).toInt ≤ 4)) := by
  obtain ⟨k, hk, rfl⟩ := nI_of (x := z0) (fun q => by have q2 := lt32 q; rw [show (0 : Int32).toInt = 0 by decide] at q2; omega)
  rw [nI_toInt hk] at i1
  have h := bc_d k (by omega)
  have e : FJ6_bitCount_0f7a4 n (nI k) = FJ6_bitCount_0f7a4 0 (nI k) := rfl
  rw [e]
  split at h
  · rename_i r u heq
    exact ⟨_, heq, of_decide_eq_true h⟩
  · exact absurd h (by decide)
