theorem sX6_init (n : Nat) (hn : n = 2200000000) : OK (FX6_init n) (fun u => ∀ i : Nat, (i < 5) → ((u.2 i).toInt = -1)) := by
  unfold FX6_init
  rw [show FX2_init n = some ((), ()) from rfl, bd_s, show FX3_init n = some ((), ()) from rfl, bd_s, show FX0_init n = some ((), ()) from rfl, bd_s, show FX1_init n = some ((), ()) from rfl, bd_s, show FX5_init n = some ((), ()) from rfl, bd_s, fill_ok n 5 _ _ (by decide) (by omega), bd_s]
  refine OK_some (fun i hi => ?_)
  show ((if i < 5 then (-1 : Int32) else 0)).toInt = -1
  rw [if_pos hi]; decide
theorem init7_loop (n : Nat) : ∀ (j i : Nat) (f : Nat → Int32), i ≤ 5 → 5 < i + j → FX7_init_247L n j f (nI i) = some ((), fun t => if i ≤ t ∧ t < 5 then -1 else f t) := by
  intro j
  induction j with
  | zero => intro i f h1 h2; omega
  | succ j ih =>
    intro i f h1 h2
    show FX7_init_247 n (FX7_init_247L n j) f (nI i) = _
    unfold FX7_init_247
    by_cases h : i = 5
    · subst h
      rw [if_pos (by decide)]
      congr 2
      funext t
      rw [if_neg (by omega)]
    · have hlt : i < 5 := by omega
      have c : ¬ (5 : Int32) ≤ nI i := nI_ge (b := 5) hlt (by decide)
      rw [if_neg c, if_pos (nI_in hlt (by decide)), lt1_e, lt1_e, nI_clamp (by omega)]
      have e1 : nI i + (1 : Int32) = nI (i + 1) := nI_1 i
      rw [e1, ih (i + 1) _ (by omega) (by omega)]
      congr 2
      funext t
      unfold upd
      by_cases q : t = i
      · subst q; rw [if_neg (by omega), if_pos rfl, if_pos (by omega)]
      · rw [if_neg q]
        by_cases r : i ≤ t ∧ t < 5
        · rw [if_pos r, if_pos (by omega)]
        · rw [if_neg r, if_neg (by omega)]
theorem sX7_init (n : Nat) (hn : n = 2200000000) : OK (FX7_init n) (fun u => ∀ i : Nat, (i < 5) → ((u.2 i).toInt = -1)) := by
  unfold FX7_init
  have h := init7_loop n n 0 (fun _ => 0) (by omega) (by omega)
  rw [nI_0] at h
  rw [h]
  refine OK_some (fun i hi => ?_)
  show ((if 0 ≤ i ∧ i < 5 then (-1 : Int32) else 0)).toInt = -1
  rw [if_pos ⟨Nat.zero_le _, hi⟩]; decide
