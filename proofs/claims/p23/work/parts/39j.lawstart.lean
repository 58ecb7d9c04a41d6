set_option maxHeartbeats 4000000 in
/-- the start: what the tables and the Statement give -/
theorem law_start {p : Program} {e : Env} {s : State} {m : MethodId} {below : List Frame} {meth : Method} {c : Code} (l : Launch) {b L : Nat} {xs : Nat → Int32} (n : Nat) (hO : FL_law n L xs = some (1, ())) (C0 : lw_At p s m meth c b L xs) : W p l e room_1 s m #[Value.ref b] below meth c s.heap [] 0 0 (lw_Z below #[Value.ref b] s) (entryFrame m ([Value.ref b] : List Value).toArray 4) := by
  obtain ⟨hx, hb, hr, hml, hown, hts, hX, hbl, hlocks, hgv⟩ := id C0
  have ha : ∀ w ∈ AL, w.before #[Value.ref b] s = true := fun w h => hts w (AL_tbl h)
  obtain ⟨c0, iS0, hKn0⟩ := u_known (C := RX0) (T := TX0) (N := 5) (n := 5) ha inAX0 (ha _ w_1_163)
  obtain ⟨c1, iS1, hKn1⟩ := u_known (C := RX1) (T := TX1) (N := 2) (n := 2) ha inAX1 (ha _ w_1_189)
  obtain ⟨c2, iS2, hKn2⟩ := u_known (C := RX2) (T := TX2) (N := 9) (n := 9) ha inAX2 (ha _ w_1_22)
  obtain ⟨c3, iS3, hKn3⟩ := u_known (C := RX3) (T := TX3) (N := 12) (n := 12) ha inAX3 (ha _ w_1_75)
  obtain ⟨c4, iS4, hKn4⟩ := u_known (C := RX4) (T := TX4) (N := 8) (n := 8) ha inAX4 (ha _ w_1_81)
  obtain ⟨c5, iS5, hKn5⟩ := u_known (C := RX5) (T := TX5) (N := 6) (n := 6) ha inAX5 (ha _ w_1_203)
  obtain ⟨c6, iS6, hKn6⟩ := u_known (C := RX6) (T := TX6) (N := 12) (n := 12) ha inAX6 (ha _ w_1_14)
  obtain ⟨c7, iS7, hKn7⟩ := u_known (C := RX7) (T := TX7) (N := 45) (n := 45) ha inAX7 (ha _ w_3_138)
  obtain ⟨D, hKc⟩ : ∃ D : va_G, ∀ (k : Nat) (q : vw_C), classes[k]? = some q → u_Kn s q.1 q.2.1 q.2.2 (D.1 k) (D.2 k) := by
    refine ⟨(fun k => if k = 0 then c0 else if k = 1 then c1 else if k = 2 then c2 else if k = 3 then c3 else if k = 4 then c4 else if k = 5 then c5 else if k = 6 then c6 else c7, fun k => if k = 0 then iS0 else if k = 1 then iS1 else if k = 2 then iS2 else if k = 3 then iS3 else if k = 4 then iS4 else if k = 5 then iS5 else if k = 6 then iS6 else iS7), ?_⟩
    intro k q hq
    match k, hq with
    | 0, hq => cases hq; exact hKn0
    | 1, hq => cases hq; exact hKn1
    | 2, hq => cases hq; exact hKn2
    | 3, hq => cases hq; exact hKn3
    | 4, hq => cases hq; exact hKn4
    | 5, hq => cases hq; exact hKn5
    | 6, hq => cases hq; exact hKn6
    | 7, hq => cases hq; exact hKn7
    | k + 8, hq => simp [classes] at hq
  obtain ⟨cB, hB⟩ := arrK (ha _ w_1_117) (by simp)
  obtain ⟨cI, hI⟩ := arrK (ha _ w_1_73) (by simp)
  obtain ⟨cJ, hJ⟩ := arrK (ha _ w_1_161) (by simp)
  obtain ⟨cZ, hZ⟩ := arrK (ha _ w_1_230) (by simp)
  have hK : va_K D classes (tys4 cB cI cJ cZ) s := by
    refine ⟨hKc, fun k q h => ?_⟩
    match k, h with
    | 0, h => cases h; exact hB
    | 1, h => cases h; exact hI
    | 2, h => cases h; exact hJ
    | 3, h => cases h; exact hZ
    | k + 4, h => simp [tys4] at h
  have hNW : NW s := by
    intro w hw
    have h1 := hts w (List.mem_filter.mp hw).1
    have h2 : isNest w = true := (List.mem_filter.mp hw).2
    cases w <;> first | exact va_Nw.of rfl h1 | (simp [isNest] at h2)
  have hs := flat_of_before _ hgv
  obtain ⟨A, hAe⟩ : ∃ A : Nat → Prop, A = fun q : Nat => s.heap.size ≤ q := ⟨_, rfl⟩
  have hnA : ∀ a : Nat, a < s.heap.size → ¬ A a := by rw [hAe]; exact fun a h => Nat.not_le.mpr h
  obtain ⟨rz, hrz, hT⟩ := va_Tof (tm := .static "SortWorks$Tape" "RESERVED" "[J") (ty := .long) (N := 7) (f := resv) (A := A) (by decide) (hs _ (by decide +kernel)) (va_eqt (z := 7) (hs _ (by decide +kernel))) (fun j hj => by
    match j, hj with
    | 0, _ => exact va_eqtl (z := 1970170228) (hs _ (by decide +kernel))
    | 1, _ => exact va_eqtl (z := 7955827) (hs _ (by decide +kernel))
    | 2, _ => exact va_eqtl (z := 28271) (hs _ (by decide +kernel))
    | 3, _ => exact va_eqtl (z := 7562612) (hs _ (by decide +kernel))
    | 4, _ => exact va_eqtl (z := 444300616805) (hs _ (by decide +kernel))
    | 5, _ => exact va_eqtl (z := 1650551909) (hs _ (by decide +kernel))
    | 6, _ => exact va_eqtl (z := 125779836236645) (hs _ (by decide +kernel))
    | j + 7, hj => exact absurd hj (by omega)) hnA
  have hZ : va_Z RX4 "RESERVED" "[J" (.ref rz) A s s.heap := va_Zof (hts _ w_2_72) (ha _ w_1_4) hrz hnA
  exact law_walk (n := n) ⟨hx, hb, hr, hml, hown, ha, hX, hbl, hlocks, hAe, ⟨hK, hNW, hZ, hT⟩, rfl⟩ hO
