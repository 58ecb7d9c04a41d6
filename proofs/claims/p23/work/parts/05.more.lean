theorem nz0 : narrow .boolean (.int (0 : Int32)) = .int 0 := rfl
theorem nz1 : narrow .boolean (.int (1 : Int32)) = .int 1 := rfl
theorem v_or {args : Array Value} {f s : State} {o : Option Outcome} {ix : List Nat} {a b : Cond} (h : Cond.value args f o s ix (.or a b) = some true) : Cond.value args f o s ix a = some true ∨ Cond.value args f o s ix b = some true := by
  simp only [Cond.value] at h
  split at h
  · exact Or.inr h
  · exact Or.inl h
theorem v_and {args : Array Value} {f s : State} {o : Option Outcome} {ix : List Nat} {a b : Cond} (h : Cond.value args f o s ix (.and a b) = some true) : Cond.value args f o s ix a = some true ∧ Cond.value args f o s ix b = some true := by
  simp only [Cond.value] at h
  split at h
  · exact ⟨by assumption, h⟩
  · rename_i hne
    exact absurd h hne
section VML
variable {p : Program} {l : Launch} {e : Env} {R : Room} {s : State} {m : MethodId} {args : Array Value} {below : List Frame} {meth : Method} {c : Code} {cells slots : Nat} {T : State} {locs : List Loc}
theorem mathMinL (X : Stand p l e R s m args below meth c T locs cells slots) (hexec : p.tables.exec = Jvm.exec) {own : String} {index : Nat} (hown : s.vm.findClass own = some m.cls)
    (hlink : (Cond.methodLink own index Lib.MathLoose.min_long.x).before args s = true) (hstat : (Cond.static Lib.MathLoose.min_long.x).before args s = true) (hinit : (Cond.initialized "java/lang/Math").before args s = true)
    (hcode : (Cond.code Lib.MathLoose.min_long.x Lib.MathLoose.min_long.code 4 (some .long)).before args s = true)
    {g : JFrame} (hg : g.method = m) (hsize : g.locals.size = c.maxLocals) {a b : Int64} {rest : List Value} (hstack : g.stack = .long b :: .long a :: rest) (hdg : decode c.code g.pc = .ok (.invokestatic index, 3))
    (hframes : 1 ≤ R.frames) (hlocals : 2 * g.monitorRoom + (rest.map fun v => v.category).sum + 15 ≤ R.locals) (hcells : cells ≤ R.cells) (hslots : slots ≤ R.slots) :
    ∃ vm', Stand p l e R s m args below meth c (T.setVm vm') locs cells slots ∧
      ∀ target, Steps p.tables e below ((T.setVm vm').setTop { g with pc := g.pc + 3, stack := .long (if b < a then b else a) :: rest }) target → Steps p.tables e below (T.setTop g) target := by
  obtain ⟨v, T', X', ⟨first, t, hpost⟩, hstep⟩ := X.staticByContractV hexec hown hlink hstat hinit hcode (by decide)
    (Lib.MathLoose.min_long l)
    rfl rfl rfl rfl
    (fun args' first o s₂ h => by
      cases o with
      | returned r => exact ⟨r, rfl⟩
      | threw y =>
        exfalso
        have h' : Cond.value args' first (some (.threw y)) s₂ [] Lib.MathLoose.min_long.spec.post = some true := by simpa [Cond.after, Cond.holds] using h
        have no : ¬ Cond.value args' first (some (.threw y)) s₂ [] .returned = some true := by simp [Cond.value]
        rcases v_or h' with q | q
        · exact no (v_and (v_and q).2).1
        · rcases v_or (v_and q).2 with q | q
          · exact no (v_and (v_and q).2).1
          · exact no (v_and (v_and q).2).1)
    hg hsize (argsL := [.long a, .long b]) (rest := rest)
    (fun sig hs => by
      have h : parseMethodDescriptor "(JJ)J" = some { parameters := [.long, .long], returnType := some .long } := by decide +kernel
      rw [show Lib.MathLoose.min_long.x.desc = "(JJ)J" from rfl, h] at hs
      rw [← Option.some.inj hs]; rfl)
    hstack hdg
    (fun vm' hW => by
      simp only [Lib.MathLoose.min_long.spec, Cond.before_and, Bool.and_eq_true]
      refine ⟨?_, rfl, rfl, rfl⟩
      have q := hcode
      rw [← Cond.code_setVm hW.alike] at q
      simp only [Cond.before, Cond.holds, Cond.value, State.methodNamed?, State.vm_setVm] at q ⊢
      exact q)
    (by show 0 + 1 ≤ R.frames; omega) (by show 2 * g.monitorRoom + (rest.map fun v => v.category).sum + (4 + 11) + 0 ≤ R.locals; omega) (by show cells + 0 ≤ R.cells; omega) (by show slots + 0 ≤ R.slots; omega)
  refine ⟨T', X', fun target h => hstep target ?_⟩
  by_cases h1 : b < a
  · obtain rfl : v = some (.long b) := by
      rcases v with _ | w
      · simp [Lib.MathLoose.min_long.spec, Cond.after, Cond.holds, Cond.value, Term.eval, h1] at hpost
      · cases w <;> simp [Lib.MathLoose.min_long.spec, Cond.after, Cond.holds, Cond.value, Term.eval, h1] at hpost
        rename_i r
        by_cases hr : r = b <;> simp [hr] at hpost ⊢
    rw [if_pos h1] at h; exact h
  · obtain rfl : v = some (.long a) := by
      by_cases h2 : a = b
      · subst h2
        rcases v with _ | w
        · simp [Lib.MathLoose.min_long.spec, Cond.after, Cond.holds, Cond.value, Term.eval] at hpost
        · cases w <;> simp [Lib.MathLoose.min_long.spec, Cond.after, Cond.holds, Cond.value, Term.eval] at hpost
          rename_i r
          by_cases hr : r = a <;> simp [hr] at hpost ⊢
      · rcases v with _ | w
        · simp [Lib.MathLoose.min_long.spec, Cond.after, Cond.holds, Cond.value, Term.eval, h1, h2] at hpost
        · cases w <;> simp [Lib.MathLoose.min_long.spec, Cond.after, Cond.holds, Cond.value, Term.eval, h1, h2] at hpost
          rename_i r
          by_cases hr : r = a <;> simp [hr] at hpost ⊢
    rw [if_neg h1] at h; exact h
end VML
section VMM
variable {p : Program} {l : Launch} {e : Env} {R : Room} {s : State} {m : MethodId} {args : Array Value} {below : List Frame} {meth : Method} {c : Code} {H : Heap} {locs : List Loc} {cells slots : Nat} {Q : State → Prop}
variable {pc : Nat} {ls : Array Slot} {rest : List Value}
theorem va_mminl {cc : ByteArray} (hexec : p.tables.exec = Jvm.exec) (hb : c.code = cc) (hml : c.maxLocals = ls.size) {own : String} {index : Nat} (hown : s.vm.findClass own = some m.cls) (hlink : (Cond.methodLink own index Lib.MathLoose.min_long.x).before args s = true) (hstat : (Cond.static Lib.MathLoose.min_long.x).before args s = true) (hini : (Cond.initialized "java/lang/Math").before args s = true) (hcode : (Cond.code Lib.MathLoose.min_long.x Lib.MathLoose.min_long.code 4 (some .long)).before args s = true)
    (hframes : 1 ≤ R.frames) (hlocals : (rest.map fun v => v.category).sum + 15 ≤ R.locals) (hc : cells ≤ R.cells) (hs : slots ≤ R.slots) {x y : Int64} (hdg : decode cc pc = .ok (.invokestatic index, 3))
    (kk : W p l e R s m args below meth c H locs cells slots Q (F0 m (pc + 3) ls (.long (if y < x then y else x) :: rest))) : W p l e R s m args below meth c H locs cells slots Q (F0 m pc ls (.long y :: .long x :: rest)) := by
  intro T hT X
  obtain ⟨vm', X', st⟩ := mathMinL X hexec hown hlink hstat hini hcode (g := F0 m pc ls (.long y :: .long x :: rest)) rfl (by rw [hml]) (a := x) (b := y) (rest := rest) rfl (by rw [hb]; exact hdg) hframes (by show 2 * 0 + _ + 15 ≤ _; omega) hc hs
  obtain ⟨t, a1, b1⟩ := kk (T.setVm vm') hT X'
  exact ⟨t, st t a1, b1⟩
end VMM
