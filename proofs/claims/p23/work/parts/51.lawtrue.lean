theorem law_true {L : Nat} {xs : Nat → Int32} (hL : L ≤ 4096) : FL_law 2200000000 L xs = some (1, ()) := by
  obtain ⟨u, e, h⟩ := sL_law 2200000000 rfl L xs (by omega)
  rw [e]
  obtain ⟨a, b⟩ := u
  have h2 : a.toInt = (1 : Int32).toInt := h
  rw [Int32.toInt_inj.mp h2]
