/-- a load as the class has it -/
def ldW (sa : Nat → Int32) (x3 : Int32) (x4 : Int64) (i : Nat) : Int32 := if (1 : Int32) ≤ x3 then ((x4 * (sa i).toInt64) / x3.toInt64).toInt32 else 0
theorem le1_ne0 {x : Int32} (h : (1 : Int32) ≤ x) : ¬ x.toInt64 = 0 := by
  apply l64_ne0
  intro q
  rw [q] at h
  exact absurd h (by decide)
theorem ybring49 (n : Nat) (sa : Nat → Int32) (z1 z2 : Int32) (m t : Nat) (hm : m < 60) (ht : t < 5) (x3 : Int32) (x4 : Int64) (towns : Nat → Int32) : ∀ (j i : Nat) (lo ot : Nat → Int32), i ≤ 5 → 5 < i + j → FX5_bring_49L n sa z1 z2 j (nI m) lo ot towns (nI t) x3 x4 (nI i) = some (nI m, nI (m + 1), (fun q => if 5 * m + i ≤ q ∧ q < 5 * m + 5 then ldW sa x3 x4 (q - 5 * m) else lo q), (fun q => if 5 * t + i ≤ q ∧ q < 5 * t + 5 then ot q + ldW sa x3 x4 (q - 5 * t) else ot q), upd towns m (nI t)) := by
  intro j
  induction j with
  | zero => intro i lo ot h1 h2; omega
  | succ j ih =>
    intro i lo ot h1 h2
    have h79 : ∀ y : Int32, i < 5 → y = ldW sa x3 x4 i → FX5_bring_79 n sa z1 z2 (FX5_bring_49L n sa z1 z2 j) (nI m) lo ot towns (nI t) x3 x4 (nI i) y = some (nI m, nI (m + 1), (fun q => if 5 * m + i ≤ q ∧ q < 5 * m + 5 then ldW sa x3 x4 (q - 5 * m) else lo q), (fun q => if 5 * t + i ≤ q ∧ q < 5 * t + 5 then ot q + ldW sa x3 x4 (q - 5 * t) else ot q), upd towns m (nI t)) := by
      intro y hlt hy
      unfold FX5_bring_79
      have e0 : nI m * (5 : Int32) + nI i = nI (m * 5 + i) := by
        rw [show (5 : Int32) = nI 5 from rfl, pk_mul, nI_add]
      have e1 : nI t * (5 : Int32) + nI i = nI (t * 5 + i) := by
        rw [show (5 : Int32) = nI 5 from rfl, pk_mul, nI_add]
      rw [e0, e1, if_pos (nI_in (N := 300) (by omega) (by decide)), lt1_e, lt1_e, if_pos (nI_in (N := 25) (by omega) (by decide)), lt1_e, if_pos (nI_in (N := 25) (by omega) (by decide)), lt1_e, lt1_e, show nI i + (1 : Int32) = nI (i + 1) from nI_1 i, nI_clamp (by omega), nI_clamp (by omega), ih (i + 1) _ _ (by omega) (by omega)]
      have ea : (fun q => if 5 * m + (i + 1) ≤ q ∧ q < 5 * m + 5 then ldW sa x3 x4 (q - 5 * m) else upd lo (m * 5 + i) y q) = (fun q => if 5 * m + i ≤ q ∧ q < 5 * m + 5 then ldW sa x3 x4 (q - 5 * m) else lo q) := by
        funext q
        by_cases c : q = m * 5 + i
        · subst c
          rw [if_neg (by omega), pk_us, if_pos (by omega), hy, show m * 5 + i - 5 * m = i by omega]
        · rw [pk_un c]
          by_cases d : 5 * m + i ≤ q ∧ q < 5 * m + 5
          · rw [if_pos (by omega), if_pos d]
          · rw [if_neg (by omega), if_neg d]
      have eb : (fun q => if 5 * t + (i + 1) ≤ q ∧ q < 5 * t + 5 then upd ot (t * 5 + i) (ot (t * 5 + i) + y) q + ldW sa x3 x4 (q - 5 * t) else upd ot (t * 5 + i) (ot (t * 5 + i) + y) q) = (fun q => if 5 * t + i ≤ q ∧ q < 5 * t + 5 then ot q + ldW sa x3 x4 (q - 5 * t) else ot q) := by
        funext q
        by_cases c : q = t * 5 + i
        · subst c
          rw [if_neg (by omega), pk_us, if_pos (by omega), hy, show t * 5 + i - 5 * t = i by omega]
        · rw [pk_un c]
          by_cases d : 5 * t + i ≤ q ∧ q < 5 * t + 5
          · rw [if_pos (by omega), if_pos d]
          · rw [if_neg (by omega), if_neg d]
      rw [ea, eb]
    show FX5_bring_49 n sa z1 z2 (FX5_bring_49L n sa z1 z2 j) (nI m) lo ot towns (nI t) x3 x4 (nI i) = _
    unfold FX5_bring_49
    by_cases h : i = 5
    · subst h
      have c : (5 : Int32) ≤ nI 5 := by decide
      have e1 : nI m + (1 : Int32) = nI (m + 1) := nI_1 m
      rw [if_pos c, if_pos (nI_in (N := 60) hm (by decide)), lt1_e, lt1_e, nI_clamp (by omega), e1, show nI (m + 1) - (1 : Int32) = nI m from nI_pred m]
      have ea : (fun q => if 5 * m + 5 ≤ q ∧ q < 5 * m + 5 then ldW sa x3 x4 (q - 5 * m) else lo q) = lo := by
        funext q; rw [if_neg (by omega)]
      have eb : (fun q => if 5 * t + 5 ≤ q ∧ q < 5 * t + 5 then ot q + ldW sa x3 x4 (q - 5 * t) else ot q) = ot := by
        funext q; rw [if_neg (by omega)]
      rw [ea, eb]
    · have hlt : i < 5 := by omega
      have c : ¬ (5 : Int32) ≤ nI i := nI_ge (b := 5) hlt (by decide)
      rw [if_neg c]
      by_cases d : (1 : Int32) ≤ x3
      · rw [if_pos d, if_pos (nI_in (N := 5) hlt (by decide)), lt1_e, if_pos (le1_ne0 d), nI_clamp (by omega)]
        exact h79 _ hlt (by unfold ldW; rw [if_pos d])
      · rw [if_neg d]
        exact h79 _ hlt (by unfold ldW; rw [if_neg d])
theorem ybring16s (n : Nat) (sa : Nat → Int32) (z1 z2 cnt x1 x2 x3 : Int32) (lo ot towns : Nat → Int32) (j i : Nat) (hi : i < 5) : FX5_bring_16L n sa z1 z2 (j + 1) cnt lo ot towns x1 x2 x3 (nI i) = FX5_bring_16L n sa z1 z2 j cnt lo ot towns x1 x2 (x3 + sa i) (nI (i + 1)) := by
  show FX5_bring_16 n sa z1 z2 (FX5_bring_16L n sa z1 z2 j) cnt lo ot towns x1 x2 x3 (nI i) = _
  unfold FX5_bring_16
  have c : ¬ (5 : Int32) ≤ nI i := nI_ge (b := 5) hi (by decide)
  rw [if_neg c, if_pos (nI_in (N := 5) hi (by decide)), lt1_e, lt1_e, nI_clamp (by omega), show nI i + (1 : Int32) = nI (i + 1) from nI_1 i]
def sall5 (sa : Nat → Int32) : Int32 := ((((0 + sa 0) + sa 1) + sa 2) + sa 3) + sa 4
theorem ybring_ok (n : Nat) (hn : 100 ≤ n) (sa lo ot towns : Nat → Int32) (m t : Nat) (hm : m < 60) (ht : t < 5) (w : Int32) : FX5_bring n (nI m) sa lo ot towns (nI t) w = some (nI m, nI (m + 1), (fun q => if 5 * m ≤ q ∧ q < 5 * m + 5 then ldW sa (sall5 sa) (w.toInt64 * (1000 : Int64)) (q - 5 * m) else lo q), (fun q => if 5 * t ≤ q ∧ q < 5 * t + 5 then ot q + ldW sa (sall5 sa) (w.toInt64 * (1000 : Int64)) (q - 5 * t) else ot q), upd towns m (nI t)) := by
  obtain ⟨f, rfl⟩ : ∃ f, n = f + 6 := ⟨n - 6, by omega⟩
  have c : nI m < (60 : Int32) := nI_lt (b := 60) hm (by decide)
  have h0 := ybring16s (f + 6) sa (nI t) w (nI m) (nI t) w 0 lo ot towns (f + 5) 0 (by omega)
  have h1 := ybring16s (f + 6) sa (nI t) w (nI m) (nI t) w (0 + sa 0) lo ot towns (f + 4) 1 (by omega)
  have h2 := ybring16s (f + 6) sa (nI t) w (nI m) (nI t) w (0 + sa 0 + sa 1) lo ot towns (f + 3) 2 (by omega)
  have h3 := ybring16s (f + 6) sa (nI t) w (nI m) (nI t) w (0 + sa 0 + sa 1 + sa 2) lo ot towns (f + 2) 3 (by omega)
  have h4 := ybring16s (f + 6) sa (nI t) w (nI m) (nI t) w (0 + sa 0 + sa 1 + sa 2 + sa 3) lo ot towns (f + 1) 4 (by omega)
  have h5 : FX5_bring_16L (f + 6) sa (nI t) w (f + 1) (nI m) lo ot towns (nI t) w (sall5 sa) (nI 5) = FX5_bring_49L (f + 6) sa (nI t) w (f + 6) (nI m) lo ot towns (nI t) (sall5 sa) (w.toInt64 * (1000 : Int64)) 0 := by
    show FX5_bring_16 (f + 6) sa (nI t) w (FX5_bring_16L (f + 6) sa (nI t) w f) (nI m) lo ot towns (nI t) w (sall5 sa) (nI 5) = _
    unfold FX5_bring_16
    have c5 : (5 : Int32) ≤ nI 5 := by decide
    rw [if_pos c5, lt1_e]
  have h6 := ybring49 (f + 6) sa (nI t) w m t hm ht (sall5 sa) (w.toInt64 * (1000 : Int64)) towns (f + 6) 0 lo ot (by omega) (by omega)
  rw [nI_0] at h6
  unfold FX5_bring
  rw [if_pos c]
  exact h0.trans (h1.trans (h2.trans (h3.trans (h4.trans (h5.trans h6)))))
/-- the yard of the class beside that of the reference -/
def YR (cnt : Int32) (towns lo st ot : Nat → Int32) (lor : Int32) (lt w sp ms : Nat → Int32) : Prop :=
  ∃ m : Nat, m ≤ 60 ∧ cnt = nI m ∧ lor = nI m ∧
    (∀ l, l < m → towns l = lt l ∧ ∃ t : Nat, t < 5 ∧ lt l = nI t) ∧
    (∀ l, l < 60 → st l = ms l ∧ (m ≤ l → st l = 0)) ∧
    (∀ l, l < m → ∀ k, k < 5 → lo (5 * l + k) = heldV sp w l k) ∧
    (∀ l, l < m → (∃ v : Nat, v ≤ 20000 ∧ w l = nI v) ∧ ∀ k, k < 5 → ∃ v : Nat, v ≤ 1000 ∧ sp (5 * l + k) = nI v) ∧
    (∀ t, t < 5 → ∀ k, k < 5 → ot (5 * t + k) = brS lt ms sp w (nI t) k m)
def up5 (sp : Nat → Int32) (m : Nat) (z3 z4 z5 z6 z7 : Int32) : Nat → Int32 := upd (upd (upd (upd (upd sp (5 * m) z3) (5 * m + 1) z4) (5 * m + 2) z5) (5 * m + 3) z6) (5 * m + 4) z7
theorem up5_old (sp : Nat → Int32) (m : Nat) (z3 z4 z5 z6 z7 : Int32) (q : Nat) (h : q < 5 * m) : up5 sp m z3 z4 z5 z6 z7 q = sp q := by
  unfold up5
  rw [pk_un (by omega), pk_un (by omega), pk_un (by omega), pk_un (by omega), pk_un (by omega)]
theorem up5_0 (sp : Nat → Int32) (m : Nat) (z3 z4 z5 z6 z7 : Int32) : up5 sp m z3 z4 z5 z6 z7 (5 * m + 0) = z3 := by
  unfold up5
  rw [pk_un (by omega), pk_un (by omega), pk_un (by omega), pk_un (by omega)]; exact pk_us
theorem up5_1 (sp : Nat → Int32) (m : Nat) (z3 z4 z5 z6 z7 : Int32) : up5 sp m z3 z4 z5 z6 z7 (5 * m + 1) = z4 := by
  unfold up5
  rw [pk_un (by omega), pk_un (by omega), pk_un (by omega)]; exact pk_us
theorem up5_2 (sp : Nat → Int32) (m : Nat) (z3 z4 z5 z6 z7 : Int32) : up5 sp m z3 z4 z5 z6 z7 (5 * m + 2) = z5 := by
  unfold up5
  rw [pk_un (by omega), pk_un (by omega)]; exact pk_us
theorem up5_3 (sp : Nat → Int32) (m : Nat) (z3 z4 z5 z6 z7 : Int32) : up5 sp m z3 z4 z5 z6 z7 (5 * m + 3) = z6 := by
  unfold up5
  rw [pk_un (by omega)]; exact pk_us
theorem up5_4 (sp : Nat → Int32) (m : Nat) (z3 z4 z5 z6 z7 : Int32) : up5 sp m z3 z4 z5 z6 z7 (5 * m + 4) = z7 := by
  unfold up5
  exact pk_us
theorem lt5 {k : Nat} (h : k < 5) : k = 0 ∨ k = 1 ∨ k = 2 ∨ k = 3 ∨ k = 4 := by omega
/-- both loads of a new LORRY are one -/
theorem ld_held (sa sp w : Nat → Int32) (m : Nat) (z2 z3 z4 z5 z6 z7 : Int32) (a3 a4 a5 a6 a7 : Nat) (h3 : a3 ≤ 1000) (e3 : z3 = nI a3) (h4 : a4 ≤ 1000) (e4 : z4 = nI a4) (h5 : a5 ≤ 1000) (e5 : z5 = nI a5) (h6 : a6 ≤ 1000) (e6 : z6 = nI a6) (h7 : a7 ≤ 1000) (e7 : z7 = nI a7) (k : Nat) (hk : k < 5) :
    ldW (up5 sa 0 z3 z4 z5 z6 z7) (sall5 (up5 sa 0 z3 z4 z5 z6 z7)) (z2.toInt64 * (1000 : Int64)) k = heldV (up5 sp m z3 z4 z5 z6 z7) (upd w m z2) m k := by
  have es : sall5 (up5 sa 0 z3 z4 z5 z6 z7) = nI (a3 + a4 + a5 + a6 + a7) := by
    unfold sall5
    rw [show up5 sa 0 z3 z4 z5 z6 z7 0 = z3 from up5_0 sa 0 z3 z4 z5 z6 z7, show up5 sa 0 z3 z4 z5 z6 z7 1 = z4 from up5_1 sa 0 z3 z4 z5 z6 z7, show up5 sa 0 z3 z4 z5 z6 z7 2 = z5 from up5_2 sa 0 z3 z4 z5 z6 z7, show up5 sa 0 z3 z4 z5 z6 z7 3 = z6 from up5_3 sa 0 z3 z4 z5 z6 z7, show up5 sa 0 z3 z4 z5 z6 z7 4 = z7 from up5_4 sa 0 z3 z4 z5 z6 z7, Int32.zero_add, e3, e4, e5, e6, e7, nI_add, nI_add, nI_add, nI_add]
  have et : sall (up5 sp m z3 z4 z5 z6 z7) m = nI (a3 + a4 + a5 + a6 + a7) := by
    unfold sall
    rw [up5_0, up5_1, up5_2, up5_3, up5_4, Int32.zero_add, e3, e4, e5, e6, e7, nI_add, nI_add, nI_add, nI_add]
  have ek : up5 sa 0 z3 z4 z5 z6 z7 k = up5 sp m z3 z4 z5 z6 z7 (5 * m + k) := by
    rcases lt5 hk with rfl | rfl | rfl | rfl | rfl
    · exact (up5_0 sa 0 z3 z4 z5 z6 z7).trans (up5_0 sp m z3 z4 z5 z6 z7).symm
    · exact (up5_1 sa 0 z3 z4 z5 z6 z7).trans (up5_1 sp m z3 z4 z5 z6 z7).symm
    · exact (up5_2 sa 0 z3 z4 z5 z6 z7).trans (up5_2 sp m z3 z4 z5 z6 z7).symm
    · exact (up5_3 sa 0 z3 z4 z5 z6 z7).trans (up5_3 sp m z3 z4 z5 z6 z7).symm
    · exact (up5_4 sa 0 z3 z4 z5 z6 z7).trans (up5_4 sp m z3 z4 z5 z6 z7).symm
  unfold ldW heldV heldW
  rw [es, et, ek, pk_us]
  rcases Nat.eq_zero_or_pos (a3 + a4 + a5 + a6 + a7) with q | q
  · rw [q, if_neg (by decide), if_pos (by decide)]
  · have c : (1 : Int32) ≤ nI (a3 + a4 + a5 + a6 + a7) := nI_le (a := 1) q (by omega)
    rw [if_pos c, if_neg (nI_ne0 q (by omega))]
theorem heldV_old (sp w : Nat → Int32) (m : Nat) (z2 z3 z4 z5 z6 z7 : Int32) (l k : Nat) (hl : l < m) (hk : k < 5) : heldV (up5 sp m z3 z4 z5 z6 z7) (upd w m z2) l k = heldV sp w l k := by
  unfold heldV sall
  rw [up5_old _ _ _ _ _ _ _ _ (by omega), up5_old _ _ _ _ _ _ _ _ (by omega), up5_old _ _ _ _ _ _ _ _ (by omega), up5_old _ _ _ _ _ _ _ _ (by omega), up5_old _ _ _ _ _ _ _ _ (by omega), up5_old _ _ _ _ _ _ _ _ (by omega), pk_un (by omega)]
