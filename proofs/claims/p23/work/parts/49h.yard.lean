theorem ystrike32 (n : Nat) (cnt : Int32) (towns lo st : Nat → Int32) (z1 : Int32) (z t : Nat) (hz : z < 60) (ht : t < 5) (e : towns z = nI t) : ∀ (j i : Nat) (ot : Nat → Int32), i ≤ 5 → 5 < i + j → FX5_strikeOff_32L n cnt towns lo z1 j st ot (nI z) (nI i) = some ((1 : Int32), st, fun q => if 5 * t + i ≤ q ∧ q < 5 * t + 5 then ot q - lo (5 * z + (q - 5 * t)) else ot q) := by
  intro j
  induction j with
  | zero => intro i ot h1 h2; omega
  | succ j ih =>
    intro i ot h1 h2
    show FX5_strikeOff_32 n cnt towns lo z1 (FX5_strikeOff_32L n cnt towns lo z1 j) st ot (nI z) (nI i) = _
    unfold FX5_strikeOff_32
    by_cases h : i = 5
    · subst h
      have c : (5 : Int32) ≤ nI 5 := by decide
      rw [if_pos c]
      have eb : (fun q => if 5 * t + 5 ≤ q ∧ q < 5 * t + 5 then ot q - lo (5 * z + (q - 5 * t)) else ot q) = ot := by
        funext q; rw [if_neg (by omega)]
      rw [eb]
    · have hlt : i < 5 := by omega
      have c : ¬ (5 : Int32) ≤ nI i := nI_ge (b := 5) hlt (by decide)
      have e0 : nI t * (5 : Int32) + nI i = nI (t * 5 + i) := by
        rw [show (5 : Int32) = nI 5 from rfl, pk_mul, nI_add]
      have e1 : nI z * (5 : Int32) + nI i = nI (z * 5 + i) := by
        rw [show (5 : Int32) = nI 5 from rfl, pk_mul, nI_add]
      rw [if_neg c, if_pos (nI_in (N := 60) hz (by decide)), nI_clamp (n := z) (by omega), e, lt1_e, e0, e1, if_pos (nI_in (N := 25) (by omega) (by decide)), if_pos (nI_in (N := 300) (by omega) (by decide)), lt1_e, if_pos (nI_in (N := 25) (by omega) (by decide)), lt1_e, lt1_e, nI_clamp (n := t * 5 + i) (by omega), nI_clamp (n := z * 5 + i) (by omega), show nI i + (1 : Int32) = nI (i + 1) from nI_1 i, ih (i + 1) _ (by omega) (by omega)]
      have eb : (fun q => if 5 * t + (i + 1) ≤ q ∧ q < 5 * t + 5 then upd ot (t * 5 + i) (ot (t * 5 + i) - lo (z * 5 + i)) q - lo (5 * z + (q - 5 * t)) else upd ot (t * 5 + i) (ot (t * 5 + i) - lo (z * 5 + i)) q) = (fun q => if 5 * t + i ≤ q ∧ q < 5 * t + 5 then ot q - lo (5 * z + (q - 5 * t)) else ot q) := by
        funext q
        by_cases d : q = t * 5 + i
        · subst d
          rw [if_neg (by omega), pk_us, if_pos (by omega), show 5 * z + (t * 5 + i - 5 * t) = z * 5 + i by omega]
        · rw [pk_un d]
          by_cases f : 5 * t + i ≤ q ∧ q < 5 * t + 5
          · rw [if_pos (by omega), if_pos f]
          · rw [if_neg (by omega), if_neg f]
      rw [eb]
theorem J_strike (n : Nat) (hn : 100 ≤ n) {cnt : Int32} {towns lo st ot : Nat → Int32} {lor : Int32} {lt w sp ms : Nat → Int32} (z1 : Int32) (h : YR cnt towns lo st ot lor lt w sp ms) {u : Int32 × (Nat → Int32) × (Nat → Int32)} {v : Int32 × (Nat → Int32)} (e6 : FX6_strike n cnt st ot towns lo z1 = some u) (e7 : FX7_strike n lor ms z1 = some v) : u.1 = v.1 ∧ YR cnt towns lo u.2.1 u.2.2 lor lt w sp v.2 := by
  unfold FX6_strike FX5_strikeOff at e6
  unfold FX7_strike at e7
  by_cases c : z1 < 0
  · rw [if_pos c, bd_s] at e6
    rw [if_pos c] at e7
    injection e6 with e6; injection e7 with e7; subst e6; subst e7
    exact ⟨rfl, h⟩
  rw [if_neg c] at e6 e7
  obtain ⟨m, hm, rfl, rfl, hT, hS, hL, hW, hO⟩ := id h
  by_cases c1 : nI m ≤ z1
  · rw [if_pos c1, bd_s] at e6
    rw [if_pos c1] at e7
    injection e6 with e6; injection e7 with e7; subst e6; subst e7
    exact ⟨rfl, h⟩
  rw [if_neg c1] at e6 e7
  obtain ⟨z, hz1, rfl⟩ := nI_of c
  have hz : z < m := by
    rcases Nat.lt_or_ge z m with q | q
    · exact q
    · exact absurd (nI_le q hz1) c1
  rw [if_pos (nI_in (N := 60) (by omega) (by decide)), nI_clamp (n := z) (by omega)] at e6 e7
  have es : st z = ms z := (hS z (by omega)).1
  by_cases c2 : ms z = 0
  · have c3 : st z = 0 := es.trans c2
    rw [if_pos c2, if_pos (nI_in2 (N := 60) (c := z) (by omega) (by decide)), lt1_e] at e7
    obtain ⟨hT1, t, ht, hT2⟩ := hT z hz
    have hl := ystrike32 n (nI m) towns lo (upd st z (vp_nar .boolean (1 : Int32))) (nI z) z t (by omega) ht (hT1.trans hT2) n 0 ot (by omega) (by omega)
    rw [nI_0] at hl
    rw [if_pos c3, if_pos (nI_in2 (N := 60) (c := z) (by omega) (by decide)), lt1_e, hl, bd_s] at e6
    injection e6 with e6; injection e7 with e7; subst e6; subst e7
    refine ⟨rfl, m, hm, rfl, rfl, hT, ?_, hL, hW, ?_⟩
    · intro l hl2
      show upd st z (vp_nar .boolean (1 : Int32)) l = upd ms z (vp_nar .boolean (1 : Int32)) l ∧ (m ≤ l → upd st z (vp_nar .boolean (1 : Int32)) l = 0)
      by_cases q : l = z
      · subst q
        rw [pk_us, pk_us]
        exact ⟨rfl, fun d => by omega⟩
      · rw [pk_un q, pk_un q]; exact hS l hl2
    · intro t' ht' k hk
      show (if 5 * t + 0 ≤ 5 * t' + k ∧ 5 * t' + k < 5 * t + 5 then ot (5 * t' + k) - lo (5 * z + (5 * t' + k - 5 * t)) else ot (5 * t' + k)) = brS lt (upd ms z (vp_nar .boolean (1 : Int32))) sp w (nI t') k m
      rw [brS_strike lt ms sp w (nI t') _ k z vb1 c2 m hz, ← hO t' ht' k hk, hT2]
      by_cases q : t' = t
      · subst q
        rw [if_pos (by omega), if_pos rfl, show 5 * t' + k - 5 * t' = k by omega, hL z hz k hk]
      · rw [if_neg (by omega), if_neg (fun d => q ((nI_eq (by omega) (by omega)).mp d).symm), i32_sub0]
  · have c3 : ¬ st z = 0 := fun q => c2 (es.symm.trans q)
    rw [if_neg c3, bd_s] at e6
    rw [if_neg c2] at e7
    injection e6 with e6; injection e7 with e7; subst e6; subst e7
    exact ⟨rfl, h⟩
theorem J_brought (n : Nat) (hn : 100 ≤ n) {cnt : Int32} {towns lo st ot : Nat → Int32} {lor : Int32} {lt w sp ms : Nat → Int32} (z1 z2 : Int32) (h : YR cnt towns lo st ot lor lt w sp ms) {u v : Int32 × Unit} (e6 : FX6_brought n ot z1 z2 = some u) (e7 : FX7_brought n lor lt ms sp w z1 z2 = some v) : u.1 = v.1 := by
  unfold FX6_brought at e6
  unfold FX7_brought at e7
  rcases yin5 z1 with c | ⟨c, c', t, ht, rfl⟩
  · rw [(yk0 n z1 c).2.2.1, bd_s, if_pos rfl] at e6
    rw [(yk0 n z1 c).2.2.2, bd_s, if_pos rfl] at e7
    injection e6 with e6; injection e7 with e7; subst e6; subst e7
    rfl
  rw [(yk1 n _ c c').2.2.1, bd_s, if_neg (by decide)] at e6
  rw [(yk1 n _ c c').2.2.2, bd_s, if_neg (by decide)] at e7
  rcases yin5 z2 with d | ⟨d, d', k, hk, rfl⟩
  · rw [(yk0 n z2 d).1, bd_s, if_pos rfl] at e6
    rw [(yk0 n z2 d).2.1, bd_s, if_pos rfl] at e7
    injection e6 with e6; injection e7 with e7; subst e6; subst e7
    rfl
  rw [(yk1 n _ d d').1, bd_s, if_neg (by decide)] at e6
  rw [(yk1 n _ d d').2.1, bd_s, if_neg (by decide)] at e7
  obtain ⟨m, hm, rfl, rfl, hT, hS, hL, hW, hO⟩ := id h
  have e0 : nI t * (5 : Int32) + nI k = nI (t * 5 + k) := by
    rw [show (5 : Int32) = nI 5 from rfl, pk_mul, nI_add]
  rw [e0, if_pos (nI_in (N := 25) (by omega) (by decide)), nI_clamp (by omega), show t * 5 + k = 5 * t + k by omega, hO t ht k hk] at e6
  rw [brBy_ok n hn lt ms sp w (nI t) k m hk hm, bd_s] at e7
  injection e6 with e6; injection e7 with e7; subst e6; subst e7
  rfl
