theorem J_bad {cnt : Int32} {towns lo st ot : Nat → Int32} {lor : Int32} {lt w sp ms sa : Nat → Int32} {u : Int32 × Int32 × (Nat → Int32) × (Nat → Int32) × (Nat → Int32) × (Nat → Int32)} {v : Int32 × Int32 × (Nat → Int32) × (Nat → Int32) × (Nat → Int32) × (Nat → Int32)} (h : YR cnt towns lo st ot lor lt w sp ms) (e6 : some ((-1 : Int32), cnt, sa, lo, ot, towns) = some u) (e7 : some ((-1 : Int32), lor, lt, w, sp, ms) = some v) : u.1 = v.1 ∧ YR u.2.1 u.2.2.2.2.2 u.2.2.2.1 st u.2.2.2.2.1 v.2.1 v.2.2.1 v.2.2.2.1 v.2.2.2.2.1 v.2.2.2.2.2 := by
  injection e6 with e6
  injection e7 with e7
  subst e6
  subst e7
  exact ⟨rfl, h⟩
theorem vb0 : vp_nar .boolean (0 : Int32) = 0 := by decide
theorem vb1 : ¬ vp_nar .boolean (1 : Int32) = 0 := by decide
/-- a new LORRY keeps the yards alike -/
theorem YR_new {towns lo st ot lt w sp ms : Nat → Int32} (m t : Nat) (hm : m < 60) (ht : t < 5) (sa : Nat → Int32) (z2 z3 z4 z5 z6 z7 : Int32) (a2 a3 a4 a5 a6 a7 : Nat) (h2 : a2 ≤ 20000) (e2 : z2 = nI a2) (h3 : a3 ≤ 1000) (e3 : z3 = nI a3) (h4 : a4 ≤ 1000) (e4 : z4 = nI a4) (h5 : a5 ≤ 1000) (e5 : z5 = nI a5) (h6 : a6 ≤ 1000) (e6 : z6 = nI a6) (h7 : a7 ≤ 1000) (e7 : z7 = nI a7)
    (hT : ∀ l, l < m → towns l = lt l ∧ ∃ t : Nat, t < 5 ∧ lt l = nI t) (hS : ∀ l, l < 60 → st l = ms l ∧ (m ≤ l → st l = 0))
    (hL : ∀ l, l < m → ∀ k, k < 5 → lo (5 * l + k) = heldV sp w l k)
    (hW : ∀ l, l < m → (∃ v : Nat, v ≤ 20000 ∧ w l = nI v) ∧ ∀ k, k < 5 → ∃ v : Nat, v ≤ 1000 ∧ sp (5 * l + k) = nI v)
    (hO : ∀ t, t < 5 → ∀ k, k < 5 → ot (5 * t + k) = brS lt ms sp w (nI t) k m) :
    YR (nI (m + 1)) (upd towns m (nI t)) (fun q => if 5 * m ≤ q ∧ q < 5 * m + 5 then ldW (up5 sa 0 z3 z4 z5 z6 z7) (sall5 (up5 sa 0 z3 z4 z5 z6 z7)) (z2.toInt64 * (1000 : Int64)) (q - 5 * m) else lo q) st (fun q => if 5 * t ≤ q ∧ q < 5 * t + 5 then ot q + ldW (up5 sa 0 z3 z4 z5 z6 z7) (sall5 (up5 sa 0 z3 z4 z5 z6 z7)) (z2.toInt64 * (1000 : Int64)) (q - 5 * t) else ot q) (nI (m + 1)) (upd lt m (nI t)) (upd w m z2) (up5 sp m z3 z4 z5 z6 z7) (upd ms m 0) := by
  refine ⟨m + 1, by omega, rfl, rfl, ?_, ?_, ?_, ?_, ?_⟩
  · intro l hl
    by_cases q : l = m
    · subst q
      rw [pk_us, pk_us]; exact ⟨rfl, t, ht, rfl⟩
    · rw [pk_un q, pk_un q]; exact hT l (by omega)
  · intro l hl
    by_cases q : l = m
    · subst q
      rw [pk_us]; exact ⟨(hS l hl).2 (Nat.le_refl _), fun h => by omega⟩
    · rw [pk_un q]; exact ⟨(hS l hl).1, fun h => (hS l hl).2 (by omega)⟩
  · intro l hl k hk
    by_cases q : l = m
    · subst q
      show (if 5 * l ≤ 5 * l + k ∧ 5 * l + k < 5 * l + 5 then _ else _) = _
      rw [if_pos (by omega), show 5 * l + k - 5 * l = k by omega]
      exact ld_held sa sp w l z2 z3 z4 z5 z6 z7 a3 a4 a5 a6 a7 h3 e3 h4 e4 h5 e5 h6 e6 h7 e7 k hk
    · show (if 5 * m ≤ 5 * l + k ∧ 5 * l + k < 5 * m + 5 then _ else _) = _
      rw [if_neg (by omega), heldV_old _ _ _ _ _ _ _ _ _ l k (by omega) hk]
      exact hL l (by omega) k hk
  · intro l hl
    by_cases q : l = m
    · subst q
      rw [pk_us]
      refine ⟨⟨a2, h2, e2⟩, fun k hk => ?_⟩
      rcases lt5 hk with rfl | rfl | rfl | rfl | rfl
      · rw [up5_0]; exact ⟨a3, h3, e3⟩
      · rw [up5_1]; exact ⟨a4, h4, e4⟩
      · rw [up5_2]; exact ⟨a5, h5, e5⟩
      · rw [up5_3]; exact ⟨a6, h6, e6⟩
      · rw [up5_4]; exact ⟨a7, h7, e7⟩
    · rw [pk_un q]
      refine ⟨(hW l (by omega)).1, fun k hk => ?_⟩
      rw [up5_old _ _ _ _ _ _ _ _ (by omega)]
      exact (hW l (by omega)).2 k hk
  · intro t' ht' k hk
    have ec : brS (upd lt m (nI t)) (upd ms m 0) (up5 sp m z3 z4 z5 z6 z7) (upd w m z2) (nI t') k m = brS lt ms sp w (nI t') k m := by
      apply brS_congr
      intro l hl
      exact ⟨pk_un (by omega), pk_un (by omega), heldV_old _ _ _ _ _ _ _ _ _ l k hl hk⟩
    rw [brS_s, ec, pk_us, pk_us, ← hO t' ht' k hk]
    show (if 5 * t ≤ 5 * t' + k ∧ 5 * t' + k < 5 * t + 5 then _ else _) = _
    by_cases q : t' = t
    · subst q
      rw [if_pos (by omega), if_pos ⟨rfl, rfl⟩, show 5 * t' + k - 5 * t' = k by omega, ld_held sa sp w m z2 z3 z4 z5 z6 z7 a3 a4 a5 a6 a7 h3 e3 h4 e4 h5 e5 h6 e6 h7 e7 k hk]
    · rw [if_neg (by omega), if_neg (fun d => q ((nI_eq (by omega) (by omega)).mp d.1).symm), i32_add0]
set_option maxHeartbeats 4000000 in
theorem J_lorry (n : Nat) (hn : 100 ≤ n) {cnt : Int32} {towns lo st ot : Nat → Int32} {lor : Int32} {lt w sp ms : Nat → Int32} (sa : Nat → Int32) (z1 z2 z3 z4 z5 z6 z7 : Int32) (h : YR cnt towns lo st ot lor lt w sp ms) {u : Int32 × Int32 × (Nat → Int32) × (Nat → Int32) × (Nat → Int32) × (Nat → Int32)} {v : Int32 × Int32 × (Nat → Int32) × (Nat → Int32) × (Nat → Int32) × (Nat → Int32)} (e6 : FX6_lorry n cnt sa lo ot towns z1 z2 z3 z4 z5 z6 z7 = some u) (e7 : FX7_lorry n lor lt w sp ms z1 z2 z3 z4 z5 z6 z7 = some v) : u.1 = v.1 ∧ YR u.2.1 u.2.2.2.2.2 u.2.2.2.1 st u.2.2.2.2.1 v.2.1 v.2.2.1 v.2.2.2.1 v.2.2.2.2.1 v.2.2.2.2.2 := by
  unfold FX6_lorry at e6
  unfold FX7_lorry at e7
  rcases yin5 z1 with c | ⟨c, c', t, ht, rfl⟩
  · rw [(yk0 n z1 c).2.2.1, bd_s, if_pos rfl] at e6
    rcases c with c | ⟨c, c'⟩
    · rw [if_pos c] at e7; exact J_bad h e6 e7
    · rw [if_neg c, if_pos c'] at e7; exact J_bad h e6 e7
  rw [(yk1 n _ c c').2.2.1, bd_s, if_neg (by decide)] at e6
  rw [if_neg c, if_neg c'] at e7
  by_cases c1 : z2 < (1 : Int32)
  · rw [if_pos c1] at e6 e7; exact J_bad h e6 e7
  rw [if_neg c1] at e6 e7
  by_cases c2 : z2 ≤ (20000 : Int32)
  case neg => rw [if_neg c2] at e6; rw [if_pos (Int32.not_le.mp c2)] at e7; exact J_bad h e6 e7
  rw [if_pos c2] at e6
  rw [if_neg (Int32.not_lt.mpr c2)] at e7
  rcases ysmp n z3 with ⟨s6, s7⟩ | ⟨s6, s7, a3, h3, q3⟩
  · rw [s6, bd_s, if_pos rfl] at e6; rw [s7, bd_s, if_pos rfl] at e7; exact J_bad h e6 e7
  rw [s6, bd_s, if_neg (by decide)] at e6
  rw [s7, bd_s, if_neg (by decide)] at e7
  rcases ysmp n z4 with ⟨s6, s7⟩ | ⟨s6, s7, a4, h4, q4⟩
  · rw [s6, bd_s, if_pos rfl] at e6; rw [s7, bd_s, if_pos rfl] at e7; exact J_bad h e6 e7
  rw [s6, bd_s, if_neg (by decide)] at e6
  rw [s7, bd_s, if_neg (by decide)] at e7
  rcases ysmp n z5 with ⟨s6, s7⟩ | ⟨s6, s7, a5, h5, q5⟩
  · rw [s6, bd_s, if_pos rfl] at e6; rw [s7, bd_s, if_pos rfl] at e7; exact J_bad h e6 e7
  rw [s6, bd_s, if_neg (by decide)] at e6
  rw [s7, bd_s, if_neg (by decide)] at e7
  rcases ysmp n z6 with ⟨s6, s7⟩ | ⟨s6, s7, a6, h6, q6⟩
  · rw [s6, bd_s, if_pos rfl] at e6; rw [s7, bd_s, if_pos rfl] at e7; exact J_bad h e6 e7
  rw [s6, bd_s, if_neg (by decide)] at e6
  rw [s7, bd_s, if_neg (by decide)] at e7
  rcases ysmp n z7 with ⟨s6, s7⟩ | ⟨s6, s7, a7, h7, q7⟩
  · rw [s6, bd_s, if_pos rfl] at e6; rw [s7, bd_s, if_pos rfl] at e7; exact J_bad h e6 e7
  rw [s6, bd_s, if_neg (by decide), if_pos (by decide), lt1_e, if_pos (by decide), lt1_e, if_pos (by decide), lt1_e, if_pos (by decide), lt1_e, if_pos (by decide), lt1_e] at e6
  rw [s7, bd_s, if_neg (by decide)] at e7
  have ef : upd (upd (upd (upd (upd sa (0 : Int32).toNatClampNeg z3) (1 : Int32).toNatClampNeg z4) (2 : Int32).toNatClampNeg z5) (3 : Int32).toNatClampNeg z6) (4 : Int32).toNatClampNeg z7 = up5 sa 0 z3 z4 z5 z6 z7 := by
    rw [show (0 : Int32).toNatClampNeg = 0 by decide, show (1 : Int32).toNatClampNeg = 1 by decide, show (2 : Int32).toNatClampNeg = 2 by decide, show (3 : Int32).toNatClampNeg = 3 by decide, show (4 : Int32).toNatClampNeg = 4 by decide]
    rfl
  rw [ef] at e6
  obtain ⟨a2, h2, q2⟩ := nI_of2 (M := 20000) (n := 20000) (by decide) (fun q => c1 (Int32.lt_trans q (by decide))) c2
  obtain ⟨m, hm, rfl, rfl, hT, hS, hL, hW, hO⟩ := id h
  by_cases c60 : m = 60
  · subst c60
    have eb : FX5_bring n (nI 60) (up5 sa 0 z3 z4 z5 z6 z7) lo ot towns (nI t) z2 = some ((-1 : Int32), nI 60, lo, ot, towns) := by
      unfold FX5_bring
      rw [if_neg (by decide)]
    rw [eb, bd_s] at e6
    rw [if_pos (by decide)] at e7
    exact J_bad h e6 e7
  · have hm' : m < 60 := by omega
    rw [ybring_ok n hn _ lo ot towns m t hm' ht z2, bd_s] at e6
    have d60 : ¬ nI m = (60 : Int32) := fun q => c60 ((nI_eq (b := 60) (by omega) (by decide)).mp q)
    have m5 : (5 : Int32) * nI m = nI (5 * m) := by rw [show (5 : Int32) = nI 5 from rfl, pk_mul]
    have b1 : nI (5 * m) + (1 : Int32) = nI (5 * m + 1) := nI_add (5 * m) 1
    have b2 : nI (5 * m) + (2 : Int32) = nI (5 * m + 2) := nI_add (5 * m) 2
    have b3 : nI (5 * m) + (3 : Int32) = nI (5 * m + 3) := nI_add (5 * m) 3
    have b4 : nI (5 * m) + (4 : Int32) = nI (5 * m + 4) := nI_add (5 * m) 4
    have i60 := nI_in (N := 60) hm' (by decide)
    rw [if_neg d60, m5, b1, b2, b3, b4, if_pos i60, lt1_e, if_pos i60, lt1_e, if_pos (nI_in (N := 300) (c := 5 * m) (by omega) (by decide)), lt1_e, if_pos (nI_in (N := 300) (c := 5 * m + 1) (by omega) (by decide)), lt1_e, if_pos (nI_in (N := 300) (c := 5 * m + 2) (by omega) (by decide)), lt1_e, if_pos (nI_in (N := 300) (c := 5 * m + 3) (by omega) (by decide)), lt1_e, if_pos (nI_in (N := 300) (c := 5 * m + 4) (by omega) (by decide)), lt1_e, if_pos i60, lt1_e, lt1_e, nI_clamp (n := m) (by omega), nI_clamp (n := 5 * m) (by omega), nI_clamp (n := 5 * m + 1) (by omega), nI_clamp (n := 5 * m + 2) (by omega), nI_clamp (n := 5 * m + 3) (by omega), nI_clamp (n := 5 * m + 4) (by omega), show nI m + (1 : Int32) = nI (m + 1) from nI_1 m, show nI (m + 1) - (1 : Int32) = nI m from nI_pred m, vb0] at e7
    injection e6 with e6
    injection e7 with e7
    subst e6
    subst e7
    exact ⟨rfl, YR_new m t hm' ht sa z2 z3 z4 z5 z6 z7 a2 a3 a4 a5 a6 a7 h2 q2 h3 q3 h4 q4 h5 q5 h6 q6 h7 q7 hT hS hL hW hO⟩
