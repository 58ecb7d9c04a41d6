theorem dX0_init_0 : decode cX0_init 0 = .ok (.aload_n 0, 1) := by decide +kernel
theorem dX0_init_1 : decode cX0_init 1 = .ok (.invokespecial 3, 3) := by decide +kernel
theorem dX0_init_4 : decode cX0_init 4 = .ok (.aload_n 0, 1) := by decide +kernel
theorem dX0_init_5 : decode cX0_init 5 = .ok (.iconst 5, 1) := by decide +kernel
theorem dX0_init_6 : decode cX0_init 6 = .ok (.newarray .long, 2) := by decide +kernel
theorem dX0_init_8 : decode cX0_init 8 = .ok (.putfield 9, 3) := by decide +kernel
theorem dX0_init_11 : decode cX0_init 11 = .ok (.aload_n 0, 1) := by decide +kernel
theorem dX0_init_12 : decode cX0_init 12 = .ok (.bipush 25, 2) := by decide +kernel
theorem dX0_init_14 : decode cX0_init 14 = .ok (.newarray .int, 2) := by decide +kernel
theorem dX0_init_16 : decode cX0_init 16 = .ok (.putfield 15, 3) := by decide +kernel
theorem dX0_init_19 : decode cX0_init 19 = .ok (.aload_n 0, 1) := by decide +kernel
theorem dX0_init_20 : decode cX0_init 20 = .ok (.bipush 25, 2) := by decide +kernel
theorem dX0_init_22 : decode cX0_init 22 = .ok (.newarray .int, 2) := by decide +kernel
theorem dX0_init_24 : decode cX0_init 24 = .ok (.putfield 19, 3) := by decide +kernel
theorem dX0_init_27 : decode cX0_init 27 = .ok (.aload_n 0, 1) := by decide +kernel
theorem dX0_init_28 : decode cX0_init 28 = .ok (.bipush 32, 2) := by decide +kernel
theorem dX0_init_30 : decode cX0_init 30 = .ok (.newarray .long, 2) := by decide +kernel
theorem dX0_init_32 : decode cX0_init 32 = .ok (.putfield 22, 3) := by decide +kernel
theorem dX0_init_35 : decode cX0_init 35 = .ok (.return_, 1) := by decide +kernel
abbrev rmX0_init : Room := { frames := 1, cells := 4, slots := 87, locals := 12 }
theorem cb_X0_init : CBn yX0_init 0 := ⟨by decide +kernel, by decide +kernel, by decide +kernel⟩
def FX0_init (n : Nat) : Option (Unit × Unit) := some ((), ())
set_option maxHeartbeats 4000000 in
set_option maxRecDepth 100000 in
theorem kX0_init (l : Launch) (D : va_G) (cB cI cJ cZ : ClassId) (rz n sz : Nat) (h_t : Nat) (hN : FX0_init n ≠ none) : Met l yX0_init (Cond.code yX0_init cX0_init 1 none :: AL) rmX0_init (PW D cB cI cJ cZ rz [.ref h_t] [(h_t, .inr (0, [.long (0 : Int64), .null, .null, .null, .null]))] sz) (QN D (FX0_init n) (fun u q => [(h_t, .inr (0, [.long (0 : Int64), .ref (q.getD 0 0), .ref (q.getD 1 0), .ref (q.getD 2 0), .ref (q.getD 3 0)])), ((q.getD 0 0), .inl (cJ, 5, .inr (.inl (fun _ => 0)))), ((q.getD 1 0), .inl (cI, 25, .inl (fun _ => 0))), ((q.getD 2 0), .inl (cI, 25, .inl (fun _ => 0))), ((q.getD 3 0), .inl (cJ, 32, .inr (.inl (fun _ => 0))))]) 4 (va_A [(h_t, .inr (0, [.long (0 : Int64), .null, .null, .null, .null]))] sz)) 4 87 (va_A [(h_t, .inr (0, [.long (0 : Int64), .null, .null, .null, .null]))] sz) := by
  obtain ⟨O, hF⟩ : ∃ O, FX0_init n = O := ⟨_, rfl⟩
  rw [hF] at hN ⊢
  refine enterN (cc := cX0_init) (nL := 1) (by decide) (Nat.le_of_ble_eq_true rfl) ?_
  intro p e s m below meth c A Q X hA hE hnm hsz hP hD hS hret ls hl
  obtain ⟨hx, hb, hml, hown0, ha⟩ := id X
  have hown : s.vm.findClass RX0 = some m.cls := hown0
  have hK := hE.1
  have hl : lv_has ls 1 [(0, .ref h_t)] := hl
  have hX : CallFix p m c cX0_init 1 s ([.ref h_t] : List Value).toArray AL RX0 := X
  have X := hX
  unfold FX0_init at hF
  obtain ⟨H, hH⟩ : ∃ H, H = s.heap := ⟨_, rfl⟩
  obtain ⟨locs, hlo⟩ : ∃ locs : List Loc, locs = [] := ⟨_, rfl⟩
  have hS : va_S A s.heap H locs := by rw [hH, hlo]; exact hS
  rw [← hH] at hP
  have goal : W p l e rmX0_init s m ([.ref h_t] : List Value).toArray below meth c H locs 0 0 Q (F0 m 0 ls []) := by
    refine lv_aload_n hx hb dX0_init_0 rfl (lv_at hl 0 rfl) ?_
    refine W.objInit hx hb hown (ha _ w_1_167) (ha _ w_1_19) (ha _ w_1_20) rfl (by rw [hml]; exact hl.1) rfl dX0_init_1 (Nat.le_of_ble_eq_true rfl) (Nat.le_of_ble_eq_true rfl) ?_
    refine W.eq (g2 := F0 m 4 ls []) rfl ?_
    refine lv_aload_n hx hb dX0_init_4 rfl (lv_at hl 0 rfl) ?_
    refine lv_iconst (v := 5) hx hb dX0_init_5 (by decide) ?_
    refine nw_l (N' := 5) hx hb (ha _ w_1_161) hK hP hD hS hA (by decide) (by decide) (by decide) (Nat.le_of_ble_eq_true rfl) (Nat.le_of_ble_eq_true rfl) (c2 := 1) (s2 := 5) rfl rfl dX0_init_6 (fun q_1 H hP hD hS => ?_)
    have hP : va_P D classes [(h_t, .inr (0, [.long (0 : Int64), .null, .null, .null, .null])), (q_1, .inl (cJ, 5, .inr (.inl (fun _ => 0))))] H := hP
    have hD : va_D A [(h_t, .inr (0, [.long (0 : Int64), .null, .null, .null, .null])), (q_1, .inl (cJ, 5, .inr (.inl (fun _ => 0))))] := hD
    refine ptF (C := RX0) (T := TX0) (N := 5) (ci := 0) (v := .ref q_1) (W2 := [(h_t, .inr (0, [.long (0 : Int64), .ref q_1, .null, .null, .null])), (q_1, .inl (cJ, 5, .inr (.inl (fun _ => 0))))]) hx hb ha inAX0 tyX0 tyX0_ok nmX0 hown hK hP hD hS 0 rfl rfl 1 (by decide) (ha _ w_1_171) rfl rfl hnm rfl rfl rfl (Nat.le_of_ble_eq_true rfl) dX0_init_8 rfl (fun H locs hP hD hS => ?_)
    refine lv_aload_n hx hb dX0_init_11 rfl (lv_at hl 0 rfl) ?_
    refine lv_bipush (v := 25) hx hb dX0_init_12 (by decide) ?_
    refine nw_i (N' := 25) hx hb (ha _ w_1_73) hK hP hD hS hA (by decide) (by decide) (by decide) (Nat.le_of_ble_eq_true rfl) (Nat.le_of_ble_eq_true rfl) (c2 := 2) (s2 := 30) rfl rfl dX0_init_14 (fun q_2 H hP hD hS => ?_)
    have hP : va_P D classes [(h_t, .inr (0, [.long (0 : Int64), .ref q_1, .null, .null, .null])), (q_1, .inl (cJ, 5, .inr (.inl (fun _ => 0)))), (q_2, .inl (cI, 25, .inl (fun _ => 0)))] H := hP
    have hD : va_D A [(h_t, .inr (0, [.long (0 : Int64), .ref q_1, .null, .null, .null])), (q_1, .inl (cJ, 5, .inr (.inl (fun _ => 0)))), (q_2, .inl (cI, 25, .inl (fun _ => 0)))] := hD
    refine ptF (C := RX0) (T := TX0) (N := 5) (ci := 0) (v := .ref q_2) (W2 := [(h_t, .inr (0, [.long (0 : Int64), .ref q_1, .ref q_2, .null, .null])), (q_1, .inl (cJ, 5, .inr (.inl (fun _ => 0)))), (q_2, .inl (cI, 25, .inl (fun _ => 0)))]) hx hb ha inAX0 tyX0 tyX0_ok nmX0 hown hK hP hD hS 0 rfl rfl 2 (by decide) (ha _ w_1_174) rfl rfl hnm rfl rfl rfl (Nat.le_of_ble_eq_true rfl) dX0_init_16 rfl (fun H locs hP hD hS => ?_)
    refine lv_aload_n hx hb dX0_init_19 rfl (lv_at hl 0 rfl) ?_
    refine lv_bipush (v := 25) hx hb dX0_init_20 (by decide) ?_
    refine nw_i (N' := 25) hx hb (ha _ w_1_73) hK hP hD hS hA (by decide) (by decide) (by decide) (Nat.le_of_ble_eq_true rfl) (Nat.le_of_ble_eq_true rfl) (c2 := 3) (s2 := 55) rfl rfl dX0_init_22 (fun q_3 H hP hD hS => ?_)
    have hP : va_P D classes [(h_t, .inr (0, [.long (0 : Int64), .ref q_1, .ref q_2, .null, .null])), (q_1, .inl (cJ, 5, .inr (.inl (fun _ => 0)))), (q_2, .inl (cI, 25, .inl (fun _ => 0))), (q_3, .inl (cI, 25, .inl (fun _ => 0)))] H := hP
    have hD : va_D A [(h_t, .inr (0, [.long (0 : Int64), .ref q_1, .ref q_2, .null, .null])), (q_1, .inl (cJ, 5, .inr (.inl (fun _ => 0)))), (q_2, .inl (cI, 25, .inl (fun _ => 0))), (q_3, .inl (cI, 25, .inl (fun _ => 0)))] := hD
    refine ptF (C := RX0) (T := TX0) (N := 5) (ci := 0) (v := .ref q_3) (W2 := [(h_t, .inr (0, [.long (0 : Int64), .ref q_1, .ref q_2, .ref q_3, .null])), (q_1, .inl (cJ, 5, .inr (.inl (fun _ => 0)))), (q_2, .inl (cI, 25, .inl (fun _ => 0))), (q_3, .inl (cI, 25, .inl (fun _ => 0)))]) hx hb ha inAX0 tyX0 tyX0_ok nmX0 hown hK hP hD hS 0 rfl rfl 3 (by decide) (ha _ w_1_175) rfl rfl hnm rfl rfl rfl (Nat.le_of_ble_eq_true rfl) dX0_init_24 rfl (fun H locs hP hD hS => ?_)
    refine lv_aload_n hx hb dX0_init_27 rfl (lv_at hl 0 rfl) ?_
    refine lv_bipush (v := 32) hx hb dX0_init_28 (by decide) ?_
    refine nw_l (N' := 32) hx hb (ha _ w_1_161) hK hP hD hS hA (by decide) (by decide) (by decide) (Nat.le_of_ble_eq_true rfl) (Nat.le_of_ble_eq_true rfl) (c2 := 4) (s2 := 87) rfl rfl dX0_init_30 (fun q_4 H hP hD hS => ?_)
    have hP : va_P D classes [(h_t, .inr (0, [.long (0 : Int64), .ref q_1, .ref q_2, .ref q_3, .null])), (q_1, .inl (cJ, 5, .inr (.inl (fun _ => 0)))), (q_2, .inl (cI, 25, .inl (fun _ => 0))), (q_3, .inl (cI, 25, .inl (fun _ => 0))), (q_4, .inl (cJ, 32, .inr (.inl (fun _ => 0))))] H := hP
    have hD : va_D A [(h_t, .inr (0, [.long (0 : Int64), .ref q_1, .ref q_2, .ref q_3, .null])), (q_1, .inl (cJ, 5, .inr (.inl (fun _ => 0)))), (q_2, .inl (cI, 25, .inl (fun _ => 0))), (q_3, .inl (cI, 25, .inl (fun _ => 0))), (q_4, .inl (cJ, 32, .inr (.inl (fun _ => 0))))] := hD
    refine ptF (C := RX0) (T := TX0) (N := 5) (ci := 0) (v := .ref q_4) (W2 := [(h_t, .inr (0, [.long (0 : Int64), .ref q_1, .ref q_2, .ref q_3, .ref q_4])), (q_1, .inl (cJ, 5, .inr (.inl (fun _ => 0)))), (q_2, .inl (cI, 25, .inl (fun _ => 0))), (q_3, .inl (cI, 25, .inl (fun _ => 0))), (q_4, .inl (cJ, 32, .inr (.inl (fun _ => 0))))]) hx hb ha inAX0 tyX0 tyX0_ok nmX0 hown hK hP hD hS 0 rfl rfl 4 (by decide) (ha _ w_1_176) rfl rfl hnm rfl rfl rfl (Nat.le_of_ble_eq_true rfl) dX0_init_32 rfl (fun H locs hP hD hS => ?_)
    exact hret ((), ()) [q_1, q_2, q_3, q_4] H locs ls _ hF rfl hP hD hS dX0_init_35
  rw [hH, hlo] at goal
  exact goal
theorem dJ7_fill_d0a16_0 : decode cJ7_fill_d0a16 0 = .ok (.iconst 0, 1) := by decide +kernel
theorem dJ7_fill_d0a16_1 : decode cJ7_fill_d0a16 1 = .ok (.istore_n 3, 1) := by decide +kernel
theorem dJ7_fill_d0a16_2 : decode cJ7_fill_d0a16 2 = .ok (.aload_n 0, 1) := by decide +kernel
theorem dJ7_fill_d0a16_3 : decode cJ7_fill_d0a16 3 = .ok (.arraylength, 1) := by decide +kernel
theorem dJ7_fill_d0a16_4 : decode cJ7_fill_d0a16 4 = .ok (.istore 4, 2) := by decide +kernel
theorem dJ7_fill_d0a16_6 : decode cJ7_fill_d0a16 6 = .ok (.iload_n 3, 1) := by decide +kernel
theorem dJ7_fill_d0a16_7 : decode cJ7_fill_d0a16 7 = .ok (.iload 4, 2) := by decide +kernel
theorem dJ7_fill_d0a16_9 : decode cJ7_fill_d0a16 9 = .ok (.if_icmp .ge 13, 3) := by decide +kernel
theorem dJ7_fill_d0a16_12 : decode cJ7_fill_d0a16 12 = .ok (.aload_n 0, 1) := by decide +kernel
theorem dJ7_fill_d0a16_13 : decode cJ7_fill_d0a16 13 = .ok (.iload_n 3, 1) := by decide +kernel
theorem dJ7_fill_d0a16_14 : decode cJ7_fill_d0a16 14 = .ok (.lload_n 1, 1) := by decide +kernel
theorem dJ7_fill_d0a16_15 : decode cJ7_fill_d0a16 15 = .ok (.lastore, 1) := by decide +kernel
theorem dJ7_fill_d0a16_16 : decode cJ7_fill_d0a16 16 = .ok (.iinc 3 1, 3) := by decide +kernel
theorem dJ7_fill_d0a16_19 : decode cJ7_fill_d0a16 19 = .ok (.goto (-13), 3) := by decide +kernel
theorem dJ7_fill_d0a16_22 : decode cJ7_fill_d0a16 22 = .ok (.return_, 1) := by decide +kernel
abbrev rmJ7_fill_d0a16 : Room := { frames := 0, cells := 0, slots := 0, locals := 0 }
theorem cb_J7_fill_d0a16 : CBn yJ7_fill_d0a16 2 := ⟨by decide +kernel, by decide +kernel, by decide +kernel⟩
def FJ7_fill_d0a16_6 (n : Nat) (ln : Nat) (z1 : Int64) (k6 : (Nat → Int64) → Int64 → Int32 → Int32 → Option (Unit × (Nat → Int64))) (a_p0 : Nat → Int64) (x1 : Int64) (x3 : Int32) (x4 : Int32) : Option (Unit × (Nat → Int64)) := if x4 ≤ x3 then (some ((), a_p0)) else (if ¬ (x3 < 0 ∨ ln ≤ (x3).toNatClampNeg) then (lt1 (vp_updL a_p0 (x3).toNatClampNeg x1) (fun f_4 => lt1 (x3 + (1 : Int32)) (fun x_5 => k6 f_4 x1 x_5 x4))) else none)
def FJ7_fill_d0a16_6L (n : Nat) (ln : Nat) (z1 : Int64) (j : Nat) : (Nat → Int64) → Int64 → Int32 → Int32 → Option (Unit × (Nat → Int64)) := lpR (FJ7_fill_d0a16_6 n ln z1) (fun _ _ _ _ => none) j
def FJ7_fill_d0a16 (n : Nat) (ln : Nat) (a_p0 : Nat → Int64) (z1 : Int64) : Option (Unit × (Nat → Int64)) := lt1 (Int32.ofNat ln) (fun x_1 => FJ7_fill_d0a16_6L n ln z1 n a_p0 z1 (0 : Int32) x_1)
set_option maxHeartbeats 4000000 in
set_option maxRecDepth 100000 in
theorem kJ7_fill_d0a16 (l : Launch) (D : va_G) (cB cI cJ cZ : ClassId) (rz n sz : Nat) (ln : Nat) (h_p0 : Nat) (a_p0 : Nat → Int64) (z1 : Int64) (hN : FJ7_fill_d0a16 n ln a_p0 z1 ≠ none) : Met l yJ7_fill_d0a16 (Cond.code yJ7_fill_d0a16 cJ7_fill_d0a16 5 none :: AL) rmJ7_fill_d0a16 (PW D cB cI cJ cZ rz [.ref h_p0, .long z1] [(h_p0, .inl (cJ, ln, .inr (.inl a_p0)))] sz) (QV D (FJ7_fill_d0a16 n ln a_p0 z1) (fun u => [(h_p0, .inl (cJ, ln, .inr (.inl u.2)))]) (va_A [(h_p0, .inl (cJ, ln, .inr (.inl a_p0)))] sz)) 0 0 (va_A [(h_p0, .inl (cJ, ln, .inr (.inl a_p0)))] sz) := by
  obtain ⟨O, hF⟩ : ∃ O, FJ7_fill_d0a16 n ln a_p0 z1 = O := ⟨_, rfl⟩
  rw [hF] at hN ⊢
  refine enterV (cc := cJ7_fill_d0a16) (nL := 5) (by decide) (Nat.le_of_ble_eq_true rfl) ?_
  intro p e s m below meth c A Q X hA hE hnm hsz hP hD hS hret ls hl
  obtain ⟨hx, hb, hml, hown0, ha⟩ := id X
  have hown : s.vm.findClass RJ7 = some m.cls := hown0
  have hK := hE.1
  have hl : lv_has ls 5 [(0, .ref h_p0), (1, .long z1)] := hl
  have hX : CallFix p m c cJ7_fill_d0a16 5 s ([.ref h_p0, .long z1] : List Value).toArray AL RJ7 := X
  have X := hX
  have L6 : ∀ (k6 : (Nat → Int64) → Int64 → Int32 → Int32 → Option (Unit × (Nat → Int64))) (ih6 : ∀ (a_p0 : Nat → Int64) (x1 : Int64) (x3 : Int32) (x4 : Int32) (H : Heap) (locs : List Loc) (ls : Array Slot), k6 a_p0 x1 x3 x4 = O → va_P D classes [(h_p0, .inl (cJ, ln, .inr (.inl a_p0)))] H → va_D A [(h_p0, .inl (cJ, ln, .inr (.inl a_p0)))] → va_S A s.heap H locs → lv_has ls 5 [(0, .ref h_p0), (1, .long x1), (3, .int x3), (4, .int x4)] → W p l e rmJ7_fill_d0a16 s m ([.ref h_p0, .long z1] : List Value).toArray below meth c H locs 0 0 Q (F0 m 6 ls [])), ∀ (a_p0 : Nat → Int64) (x1 : Int64) (x3 : Int32) (x4 : Int32) (H : Heap) (locs : List Loc) (ls : Array Slot), FJ7_fill_d0a16_6 n ln z1 k6 a_p0 x1 x3 x4 = O → va_P D classes [(h_p0, .inl (cJ, ln, .inr (.inl a_p0)))] H → va_D A [(h_p0, .inl (cJ, ln, .inr (.inl a_p0)))] → va_S A s.heap H locs → lv_has ls 5 [(0, .ref h_p0), (1, .long x1), (3, .int x3), (4, .int x4)] → W p l e rmJ7_fill_d0a16 s m ([.ref h_p0, .long z1] : List Value).toArray below meth c H locs 0 0 Q (F0 m 6 ls []) := by
    intro k6 ih6 a_p0 x1 x3 x4 H locs ls hF hP hD hS hl
    unfold FJ7_fill_d0a16_6 at hF
    refine lv_iload_n hx hb dJ7_fill_d0a16_6 rfl (lv_at hl 2 rfl) ?_
    refine lv_iload hx hb dJ7_fill_d0a16_7 (lv_at hl 3 rfl) ?_
    refine lv_icmp_ge (tgt := 22) hx hb dJ7_fill_d0a16_9 (by decide) (fun c_2 => ?_) (fun c_2 => ?_)
    · replace hF := ifT c_2 hF
      exact hret ((), a_p0) H locs ls _ hF hP hD hS dJ7_fill_d0a16_22
    · replace hF := ifF c_2 hF
      refine lv_aload_n hx hb dJ7_fill_d0a16_12 rfl (lv_at hl 0 rfl) ?_
      refine lv_iload_n hx hb dJ7_fill_d0a16_13 rfl (lv_at hl 2 rfl) ?_
      refine lv_lload_n hx hb dJ7_fill_d0a16_14 rfl (lv_at hl 1 rfl) ?_
      replace hF := ckP hN hF
      obtain ⟨c_3, hF⟩ := hF
      obtain ⟨f_4, ef_4⟩ : ∃ g : Nat → Int64, g = vp_updL a_p0 (x3).toNatClampNeg x1 := ⟨_, rfl⟩
      replace hF := ltP ef_4 hF
      refine st_l (g := f_4) (W2 := [(h_p0, .inl (cJ, ln, .inr (.inl f_4)))]) hx hb hK hP hD hS 0 rfl c_3 ef_4 dJ7_fill_d0a16_15 rfl (fun H locs hP hD hS => ?_)
      obtain ⟨x_5, ex_5⟩ : ∃ y : Int32, y = x3 + (1 : Int32) := ⟨_, rfl⟩
      replace hF := ltP ex_5 hF
      refine lv_iinc (v := x_5) (lv' := [(3, .int x_5), (0, .ref h_p0), (1, .long x1), (4, .int x4)]) hx hb dJ7_fill_d0a16_16 hl (k := 2) rfl (by rw [ex_5]; rfl) (by decide) rfl (fun ls hl => ?_)
      refine lv_goto (tgt := 6) hx hb dJ7_fill_d0a16_19 (by decide) ?_
      exact ih6 f_4 x1 x_5 x4 H locs ls hF hP hD hS (lv_sub hl [1, 2, 0, 3] rfl)
  have Lc6 : ∀ (j : Nat), ∀ (a_p0 : Nat → Int64) (x1 : Int64) (x3 : Int32) (x4 : Int32) (H : Heap) (locs : List Loc) (ls : Array Slot), FJ7_fill_d0a16_6L n ln z1 j a_p0 x1 x3 x4 = O → va_P D classes [(h_p0, .inl (cJ, ln, .inr (.inl a_p0)))] H → va_D A [(h_p0, .inl (cJ, ln, .inr (.inl a_p0)))] → va_S A s.heap H locs → lv_has ls 5 [(0, .ref h_p0), (1, .long x1), (3, .int x3), (4, .int x4)] → W p l e rmJ7_fill_d0a16 s m ([.ref h_p0, .long z1] : List Value).toArray below meth c H locs 0 0 Q (F0 m 6 ls []) := by
    intro j
    induction j with
    | zero => intro _ _ _ _ H locs ls hF; exact absurd hF.symm hN
    | succ j ih => exact L6 (FJ7_fill_d0a16_6L n ln z1 j) ih
  unfold FJ7_fill_d0a16 at hF
  obtain ⟨H, hH⟩ : ∃ H, H = s.heap := ⟨_, rfl⟩
  obtain ⟨locs, hlo⟩ : ∃ locs : List Loc, locs = [] := ⟨_, rfl⟩
  have hS : va_S A s.heap H locs := by rw [hH, hlo]; exact hS
  rw [← hH] at hP
  have goal : W p l e rmJ7_fill_d0a16 s m ([.ref h_p0, .long z1] : List Value).toArray below meth c H locs 0 0 Q (F0 m 0 ls []) := by
    refine lv_iconst (v := 0) hx hb dJ7_fill_d0a16_0 (by decide) ?_
    refine lv_istore_n (lv' := [(3, .int (0 : Int32)), (0, .ref h_p0), (1, .long z1)]) hx hb dJ7_fill_d0a16_1 rfl hl (by decide) rfl (fun ls hl => ?_)
    refine lv_aload_n hx hb dJ7_fill_d0a16_2 rfl (lv_at hl 1 rfl) ?_
    refine va_alen (v := (Int32.ofNat ln)) hx hb hK hP 0 2 rfl rfl rfl dJ7_fill_d0a16_3 ?_
    refine lv_topi (fun x_1 ex_1 => ?_)
    replace hF := ltP ex_1 hF
    refine lv_istore (lv' := [(4, .int x_1), (3, .int (0 : Int32)), (0, .ref h_p0), (1, .long z1)]) hx hb dJ7_fill_d0a16_4 hl (by decide) rfl (fun ls hl => ?_)
    exact Lc6 n a_p0 z1 (0 : Int32) x_1 H locs ls hF hP hD hS (lv_sub hl [2, 3, 1, 0] rfl)
  rw [hH, hlo] at goal
  exact goal
theorem dJ7_fill_53178_0 : decode cJ7_fill_53178 0 = .ok (.iconst 0, 1) := by decide +kernel
theorem dJ7_fill_53178_1 : decode cJ7_fill_53178 1 = .ok (.istore_n 2, 1) := by decide +kernel
theorem dJ7_fill_53178_2 : decode cJ7_fill_53178 2 = .ok (.aload_n 0, 1) := by decide +kernel
theorem dJ7_fill_53178_3 : decode cJ7_fill_53178 3 = .ok (.arraylength, 1) := by decide +kernel
theorem dJ7_fill_53178_4 : decode cJ7_fill_53178 4 = .ok (.istore_n 3, 1) := by decide +kernel
theorem dJ7_fill_53178_5 : decode cJ7_fill_53178 5 = .ok (.iload_n 2, 1) := by decide +kernel
theorem dJ7_fill_53178_6 : decode cJ7_fill_53178 6 = .ok (.iload_n 3, 1) := by decide +kernel
theorem dJ7_fill_53178_7 : decode cJ7_fill_53178 7 = .ok (.if_icmp .ge 13, 3) := by decide +kernel
theorem dJ7_fill_53178_10 : decode cJ7_fill_53178 10 = .ok (.aload_n 0, 1) := by decide +kernel
theorem dJ7_fill_53178_11 : decode cJ7_fill_53178 11 = .ok (.iload_n 2, 1) := by decide +kernel
theorem dJ7_fill_53178_12 : decode cJ7_fill_53178 12 = .ok (.iload_n 1, 1) := by decide +kernel
theorem dJ7_fill_53178_13 : decode cJ7_fill_53178 13 = .ok (.iastore, 1) := by decide +kernel
theorem dJ7_fill_53178_14 : decode cJ7_fill_53178 14 = .ok (.iinc 2 1, 3) := by decide +kernel
theorem dJ7_fill_53178_17 : decode cJ7_fill_53178 17 = .ok (.goto (-12), 3) := by decide +kernel
theorem dJ7_fill_53178_20 : decode cJ7_fill_53178 20 = .ok (.return_, 1) := by decide +kernel
abbrev rmJ7_fill_53178 : Room := { frames := 0, cells := 0, slots := 0, locals := 0 }
theorem cb_J7_fill_53178 : CBn yJ7_fill_53178 2 := ⟨by decide +kernel, by decide +kernel, by decide +kernel⟩
def FJ7_fill_53178_5 (n : Nat) (ln : Nat) (z1 : Int32) (k5 : (Nat → Int32) → Int32 → Int32 → Int32 → Option (Unit × (Nat → Int32))) (a_p0 : Nat → Int32) (x1 : Int32) (x2 : Int32) (x3 : Int32) : Option (Unit × (Nat → Int32)) := if x3 ≤ x2 then (some ((), a_p0)) else (if ¬ (x2 < 0 ∨ ln ≤ (x2).toNatClampNeg) then (lt1 (upd a_p0 (x2).toNatClampNeg x1) (fun f_4 => lt1 (x2 + (1 : Int32)) (fun x_5 => k5 f_4 x1 x_5 x3))) else none)
def FJ7_fill_53178_5L (n : Nat) (ln : Nat) (z1 : Int32) (j : Nat) : (Nat → Int32) → Int32 → Int32 → Int32 → Option (Unit × (Nat → Int32)) := lpR (FJ7_fill_53178_5 n ln z1) (fun _ _ _ _ => none) j
def FJ7_fill_53178 (n : Nat) (ln : Nat) (a_p0 : Nat → Int32) (z1 : Int32) : Option (Unit × (Nat → Int32)) := lt1 (Int32.ofNat ln) (fun x_1 => FJ7_fill_53178_5L n ln z1 n a_p0 z1 (0 : Int32) x_1)
set_option maxHeartbeats 4000000 in
set_option maxRecDepth 100000 in
theorem kJ7_fill_53178 (l : Launch) (D : va_G) (cB cI cJ cZ : ClassId) (rz n sz : Nat) (ln : Nat) (h_p0 : Nat) (a_p0 : Nat → Int32) (z1 : Int32) (hN : FJ7_fill_53178 n ln a_p0 z1 ≠ none) : Met l yJ7_fill_53178 (Cond.code yJ7_fill_53178 cJ7_fill_53178 4 none :: AL) rmJ7_fill_53178 (PW D cB cI cJ cZ rz [.ref h_p0, .int z1] [(h_p0, .inl (cI, ln, .inl a_p0))] sz) (QV D (FJ7_fill_53178 n ln a_p0 z1) (fun u => [(h_p0, .inl (cI, ln, .inl u.2))]) (va_A [(h_p0, .inl (cI, ln, .inl a_p0))] sz)) 0 0 (va_A [(h_p0, .inl (cI, ln, .inl a_p0))] sz) := by
  obtain ⟨O, hF⟩ : ∃ O, FJ7_fill_53178 n ln a_p0 z1 = O := ⟨_, rfl⟩
  rw [hF] at hN ⊢
  refine enterV (cc := cJ7_fill_53178) (nL := 4) (by decide) (Nat.le_of_ble_eq_true rfl) ?_
  intro p e s m below meth c A Q X hA hE hnm hsz hP hD hS hret ls hl
  obtain ⟨hx, hb, hml, hown0, ha⟩ := id X
  have hown : s.vm.findClass RJ7 = some m.cls := hown0
  have hK := hE.1
  have hl : lv_has ls 4 [(0, .ref h_p0), (1, .int z1)] := hl
  have hX : CallFix p m c cJ7_fill_53178 4 s ([.ref h_p0, .int z1] : List Value).toArray AL RJ7 := X
  have X := hX
  have L5 : ∀ (k5 : (Nat → Int32) → Int32 → Int32 → Int32 → Option (Unit × (Nat → Int32))) (ih5 : ∀ (a_p0 : Nat → Int32) (x1 : Int32) (x2 : Int32) (x3 : Int32) (H : Heap) (locs : List Loc) (ls : Array Slot), k5 a_p0 x1 x2 x3 = O → va_P D classes [(h_p0, .inl (cI, ln, .inl a_p0))] H → va_D A [(h_p0, .inl (cI, ln, .inl a_p0))] → va_S A s.heap H locs → lv_has ls 4 [(0, .ref h_p0), (1, .int x1), (2, .int x2), (3, .int x3)] → W p l e rmJ7_fill_53178 s m ([.ref h_p0, .int z1] : List Value).toArray below meth c H locs 0 0 Q (F0 m 5 ls [])), ∀ (a_p0 : Nat → Int32) (x1 : Int32) (x2 : Int32) (x3 : Int32) (H : Heap) (locs : List Loc) (ls : Array Slot), FJ7_fill_53178_5 n ln z1 k5 a_p0 x1 x2 x3 = O → va_P D classes [(h_p0, .inl (cI, ln, .inl a_p0))] H → va_D A [(h_p0, .inl (cI, ln, .inl a_p0))] → va_S A s.heap H locs → lv_has ls 4 [(0, .ref h_p0), (1, .int x1), (2, .int x2), (3, .int x3)] → W p l e rmJ7_fill_53178 s m ([.ref h_p0, .int z1] : List Value).toArray below meth c H locs 0 0 Q (F0 m 5 ls []) := by
    intro k5 ih5 a_p0 x1 x2 x3 H locs ls hF hP hD hS hl
    unfold FJ7_fill_53178_5 at hF
    refine lv_iload_n hx hb dJ7_fill_53178_5 rfl (lv_at hl 2 rfl) ?_
    refine lv_iload_n hx hb dJ7_fill_53178_6 rfl (lv_at hl 3 rfl) ?_
    refine lv_icmp_ge (tgt := 20) hx hb dJ7_fill_53178_7 (by decide) (fun c_2 => ?_) (fun c_2 => ?_)
    · replace hF := ifT c_2 hF
      exact hret ((), a_p0) H locs ls _ hF hP hD hS dJ7_fill_53178_20
    · replace hF := ifF c_2 hF
      refine lv_aload_n hx hb dJ7_fill_53178_10 rfl (lv_at hl 0 rfl) ?_
      refine lv_iload_n hx hb dJ7_fill_53178_11 rfl (lv_at hl 2 rfl) ?_
      refine lv_iload_n hx hb dJ7_fill_53178_12 rfl (lv_at hl 1 rfl) ?_
      replace hF := ckP hN hF
      obtain ⟨c_3, hF⟩ := hF
      obtain ⟨f_4, ef_4⟩ : ∃ g : Nat → Int32, g = upd a_p0 (x2).toNatClampNeg x1 := ⟨_, rfl⟩
      replace hF := ltP ef_4 hF
      refine st_i (g := f_4) (W2 := [(h_p0, .inl (cI, ln, .inl f_4))]) hx hb hK hP hD hS 0 rfl c_3 ef_4 dJ7_fill_53178_13 rfl (fun H locs hP hD hS => ?_)
      obtain ⟨x_5, ex_5⟩ : ∃ y : Int32, y = x2 + (1 : Int32) := ⟨_, rfl⟩
      replace hF := ltP ex_5 hF
      refine lv_iinc (v := x_5) (lv' := [(2, .int x_5), (0, .ref h_p0), (1, .int x1), (3, .int x3)]) hx hb dJ7_fill_53178_14 hl (k := 2) rfl (by rw [ex_5]; rfl) (by decide) rfl (fun ls hl => ?_)
      refine lv_goto (tgt := 5) hx hb dJ7_fill_53178_17 (by decide) ?_
      exact ih5 f_4 x1 x_5 x3 H locs ls hF hP hD hS (lv_sub hl [1, 2, 0, 3] rfl)
  have Lc5 : ∀ (j : Nat), ∀ (a_p0 : Nat → Int32) (x1 : Int32) (x2 : Int32) (x3 : Int32) (H : Heap) (locs : List Loc) (ls : Array Slot), FJ7_fill_53178_5L n ln z1 j a_p0 x1 x2 x3 = O → va_P D classes [(h_p0, .inl (cI, ln, .inl a_p0))] H → va_D A [(h_p0, .inl (cI, ln, .inl a_p0))] → va_S A s.heap H locs → lv_has ls 4 [(0, .ref h_p0), (1, .int x1), (2, .int x2), (3, .int x3)] → W p l e rmJ7_fill_53178 s m ([.ref h_p0, .int z1] : List Value).toArray below meth c H locs 0 0 Q (F0 m 5 ls []) := by
    intro j
    induction j with
    | zero => intro _ _ _ _ H locs ls hF; exact absurd hF.symm hN
    | succ j ih => exact L5 (FJ7_fill_53178_5L n ln z1 j) ih
  unfold FJ7_fill_53178 at hF
  obtain ⟨H, hH⟩ : ∃ H, H = s.heap := ⟨_, rfl⟩
  obtain ⟨locs, hlo⟩ : ∃ locs : List Loc, locs = [] := ⟨_, rfl⟩
  have hS : va_S A s.heap H locs := by rw [hH, hlo]; exact hS
  rw [← hH] at hP
  have goal : W p l e rmJ7_fill_53178 s m ([.ref h_p0, .int z1] : List Value).toArray below meth c H locs 0 0 Q (F0 m 0 ls []) := by
    refine lv_iconst (v := 0) hx hb dJ7_fill_53178_0 (by decide) ?_
    refine lv_istore_n (lv' := [(2, .int (0 : Int32)), (0, .ref h_p0), (1, .int z1)]) hx hb dJ7_fill_53178_1 rfl hl (by decide) rfl (fun ls hl => ?_)
    refine lv_aload_n hx hb dJ7_fill_53178_2 rfl (lv_at hl 1 rfl) ?_
    refine va_alen (v := (Int32.ofNat ln)) hx hb hK hP 0 1 rfl rfl rfl dJ7_fill_53178_3 ?_
    refine lv_topi (fun x_1 ex_1 => ?_)
    replace hF := ltP ex_1 hF
    refine lv_istore_n (lv' := [(3, .int x_1), (2, .int (0 : Int32)), (0, .ref h_p0), (1, .int z1)]) hx hb dJ7_fill_53178_4 rfl hl (by decide) rfl (fun ls hl => ?_)
    exact Lc5 n a_p0 z1 (0 : Int32) x_1 H locs ls hF hP hD hS (lv_sub hl [2, 3, 1, 0] rfl)
  rw [hH, hlo] at goal
  exact goal
theorem dX2_byYes_0 : decode cX2_byYes 0 = .ok (.aload_n 0, 1) := by decide +kernel
theorem dX2_byYes_1 : decode cX2_byYes 1 = .ok (.getfield 21, 3) := by decide +kernel
theorem dX2_byYes_4 : decode cX2_byYes 4 = .ok (.iload_n 1, 1) := by decide +kernel
theorem dX2_byYes_5 : decode cX2_byYes 5 = .ok (.iconst 3, 1) := by decide +kernel
theorem dX2_byYes_6 : decode cX2_byYes 6 = .ok (.imul, 1) := by decide +kernel
theorem dX2_byYes_7 : decode cX2_byYes 7 = .ok (.iload_n 2, 1) := by decide +kernel
theorem dX2_byYes_8 : decode cX2_byYes 8 = .ok (.iadd, 1) := by decide +kernel
theorem dX2_byYes_9 : decode cX2_byYes 9 = .ok (.iconst 5, 1) := by decide +kernel
theorem dX2_byYes_10 : decode cX2_byYes 10 = .ok (.imul, 1) := by decide +kernel
theorem dX2_byYes_11 : decode cX2_byYes 11 = .ok (.iload_n 3, 1) := by decide +kernel
theorem dX2_byYes_12 : decode cX2_byYes 12 = .ok (.iadd, 1) := by decide +kernel
theorem dX2_byYes_13 : decode cX2_byYes 13 = .ok (.iaload, 1) := by decide +kernel
theorem dX2_byYes_14 : decode cX2_byYes 14 = .ok (.ireturn, 1) := by decide +kernel
abbrev rmX2_byYes : Room := { frames := 0, cells := 0, slots := 0, locals := 0 }
theorem cb_X2_byYes : CBn yX2_byYes 3 := ⟨by decide +kernel, by decide +kernel, by decide +kernel⟩
def FX2_byYes (n : Nat) (a_percents : Nat → Int32) (z1 : Int32) (z2 : Int32) (z3 : Int32) : Option (Int32 × Unit) := if ¬ (((((z1 * (3 : Int32)) + z2) * (5 : Int32)) + z3) < 0 ∨ 75 ≤ (((((z1 * (3 : Int32)) + z2) * (5 : Int32)) + z3)).toNatClampNeg) then (some ((a_percents (((((z1 * (3 : Int32)) + z2) * (5 : Int32)) + z3)).toNatClampNeg), ())) else none
set_option maxHeartbeats 4000000 in
set_option maxRecDepth 100000 in
theorem kX2_byYes (l : Launch) (D : va_G) (cB cI cJ cZ : ClassId) (rz n sz : Nat) (h_t : Nat) (h_percents : Nat) (h_settings : Nat) (h_yesLeads : Nat) (h_noLeads : Nat) (h_grades : Nat) (h_gradeKinds : Nat) (h_gradePurities : Nat) (h_gradePrices : Nat) (v_units : Int32) (a_percents : Nat → Int32) (z1 : Int32) (z2 : Int32) (z3 : Int32) (hN : FX2_byYes n a_percents z1 z2 z3 ≠ none) : Met l yX2_byYes (Cond.code yX2_byYes cX2_byYes 4 (some .int) :: AL) rmX2_byYes (PW D cB cI cJ cZ rz [.ref h_t, .int z1, .int z2, .int z3] [(h_t, .inr (2, [.int v_units, .ref h_settings, .ref h_yesLeads, .ref h_noLeads, .ref h_percents, .ref h_grades, .ref h_gradeKinds, .ref h_gradePurities, .ref h_gradePrices])), (h_percents, .inl (cI, 75, .inl a_percents))] sz) (QI D (FX2_byYes n a_percents z1 z2 z3) (fun u => [(h_t, .inr (2, [.int v_units, .ref h_settings, .ref h_yesLeads, .ref h_noLeads, .ref h_percents, .ref h_grades, .ref h_gradeKinds, .ref h_gradePurities, .ref h_gradePrices])), (h_percents, .inl (cI, 75, .inl a_percents))]) (va_A [(h_t, .inr (2, [.int v_units, .ref h_settings, .ref h_yesLeads, .ref h_noLeads, .ref h_percents, .ref h_grades, .ref h_gradeKinds, .ref h_gradePurities, .ref h_gradePrices])), (h_percents, .inl (cI, 75, .inl a_percents))] sz)) 0 0 (va_A [(h_t, .inr (2, [.int v_units, .ref h_settings, .ref h_yesLeads, .ref h_noLeads, .ref h_percents, .ref h_grades, .ref h_gradeKinds, .ref h_gradePurities, .ref h_gradePrices])), (h_percents, .inl (cI, 75, .inl a_percents))] sz) := by
  obtain ⟨O, hF⟩ : ∃ O, FX2_byYes n a_percents z1 z2 z3 = O := ⟨_, rfl⟩
  rw [hF] at hN ⊢
  refine enterI (cc := cX2_byYes) (nL := 4) (by decide) (Nat.le_of_ble_eq_true rfl) ?_
  intro p e s m below meth c A Q X hA hE hnm hsz hP hD hS hret ls hl
  obtain ⟨hx, hb, hml, hown0, ha⟩ := id X
  have hown : s.vm.findClass RX2 = some m.cls := hown0
  have hK := hE.1
  have hl : lv_has ls 4 [(0, .ref h_t), (1, .int z1), (2, .int z2), (3, .int z3)] := hl
  have hX : CallFix p m c cX2_byYes 4 s ([.ref h_t, .int z1, .int z2, .int z3] : List Value).toArray AL RX2 := X
  have X := hX
  unfold FX2_byYes at hF
  obtain ⟨H, hH⟩ : ∃ H, H = s.heap := ⟨_, rfl⟩
  obtain ⟨locs, hlo⟩ : ∃ locs : List Loc, locs = [] := ⟨_, rfl⟩
  have hS : va_S A s.heap H locs := by rw [hH, hlo]; exact hS
  rw [← hH] at hP
  have goal : W p l e rmX2_byYes s m ([.ref h_t, .int z1, .int z2, .int z3] : List Value).toArray below meth c H locs 0 0 Q (F0 m 0 ls []) := by
    refine lv_aload_n hx hb dX2_byYes_0 rfl (lv_at hl 0 rfl) ?_
    refine va_get (D := D) (ci := 2) (C := RX2) (T := TX2) (N := 9) hx hb ha inAX2 hown hK hP 0 rfl rfl 4 (by decide) (ha _ w_1_42) (fun _ h9 => h9) rfl dX2_byYes_1 ?_
    refine lv_iload_n hx hb dX2_byYes_4 rfl (lv_at hl 1 rfl) ?_
    refine lv_iconst (v := 3) hx hb dX2_byYes_5 (by decide) ?_
    refine lv_imul hx hb dX2_byYes_6 ?_
    refine lv_iload_n hx hb dX2_byYes_7 rfl (lv_at hl 2 rfl) ?_
    refine lv_iadd hx hb dX2_byYes_8 ?_
    refine lv_iconst (v := 5) hx hb dX2_byYes_9 (by decide) ?_
    refine lv_imul hx hb dX2_byYes_10 ?_
    refine lv_iload_n hx hb dX2_byYes_11 rfl (lv_at hl 3 rfl) ?_
    refine lv_iadd hx hb dX2_byYes_12 ?_
    replace hF := ckP hN hF
    obtain ⟨c_1, hF⟩ := hF
    refine ld_i hx hb hK hP 1 rfl c_1 dX2_byYes_13 ?_
    exact hret ((a_percents (((((z1 * (3 : Int32)) + z2) * (5 : Int32)) + z3)).toNatClampNeg), ()) H locs ls _ hF hP hD hS dX2_byYes_14
  rw [hH, hlo] at goal
  exact goal
theorem dX0_send_0 : decode cX0_send 0 = .ok (.iload_n 2, 1) := by decide +kernel
theorem dX0_send_1 : decode cX0_send 1 = .ok (.bipush 20, 2) := by decide +kernel
theorem dX0_send_3 : decode cX0_send 3 = .ok (.if_icmp .lt 20, 3) := by decide +kernel
theorem dX0_send_6 : decode cX0_send 6 = .ok (.aload_n 0, 1) := by decide +kernel
theorem dX0_send_7 : decode cX0_send 7 = .ok (.getfield 19, 3) := by decide +kernel
theorem dX0_send_10 : decode cX0_send 10 = .ok (.iload_n 1, 1) := by decide +kernel
theorem dX0_send_11 : decode cX0_send 11 = .ok (.iconst 5, 1) := by decide +kernel
theorem dX0_send_12 : decode cX0_send 12 = .ok (.imul, 1) := by decide +kernel
theorem dX0_send_13 : decode cX0_send 13 = .ok (.iconst 4, 1) := by decide +kernel
theorem dX0_send_14 : decode cX0_send 14 = .ok (.iadd, 1) := by decide +kernel
theorem dX0_send_15 : decode cX0_send 15 = .ok (.dup2, 1) := by decide +kernel
theorem dX0_send_16 : decode cX0_send 16 = .ok (.iaload, 1) := by decide +kernel
theorem dX0_send_17 : decode cX0_send 17 = .ok (.iload_n 3, 1) := by decide +kernel
theorem dX0_send_18 : decode cX0_send 18 = .ok (.iadd, 1) := by decide +kernel
theorem dX0_send_19 : decode cX0_send 19 = .ok (.iastore, 1) := by decide +kernel
theorem dX0_send_20 : decode cX0_send 20 = .ok (.goto 43, 3) := by decide +kernel
theorem dX0_send_23 : decode cX0_send 23 = .ok (.iload_n 2, 1) := by decide +kernel
theorem dX0_send_24 : decode cX0_send 24 = .ok (.bipush 10, 2) := by decide +kernel
theorem dX0_send_26 : decode cX0_send 26 = .ok (.if_icmp .lt 23, 3) := by decide +kernel
theorem dX0_send_29 : decode cX0_send 29 = .ok (.aload_n 0, 1) := by decide +kernel
theorem dX0_send_30 : decode cX0_send 30 = .ok (.getfield 19, 3) := by decide +kernel
theorem dX0_send_33 : decode cX0_send 33 = .ok (.iload_n 1, 1) := by decide +kernel
theorem dX0_send_34 : decode cX0_send 34 = .ok (.iconst 5, 1) := by decide +kernel
theorem dX0_send_35 : decode cX0_send 35 = .ok (.imul, 1) := by decide +kernel
theorem dX0_send_36 : decode cX0_send 36 = .ok (.iload_n 2, 1) := by decide +kernel
theorem dX0_send_37 : decode cX0_send 37 = .ok (.iadd, 1) := by decide +kernel
theorem dX0_send_38 : decode cX0_send 38 = .ok (.bipush 10, 2) := by decide +kernel
theorem dX0_send_40 : decode cX0_send 40 = .ok (.isub, 1) := by decide +kernel
theorem dX0_send_41 : decode cX0_send 41 = .ok (.dup2, 1) := by decide +kernel
theorem dX0_send_42 : decode cX0_send 42 = .ok (.iaload, 1) := by decide +kernel
theorem dX0_send_43 : decode cX0_send 43 = .ok (.iload_n 3, 1) := by decide +kernel
theorem dX0_send_44 : decode cX0_send 44 = .ok (.iadd, 1) := by decide +kernel
theorem dX0_send_45 : decode cX0_send 45 = .ok (.iastore, 1) := by decide +kernel
theorem dX0_send_46 : decode cX0_send 46 = .ok (.goto 17, 3) := by decide +kernel
theorem dX0_send_49 : decode cX0_send 49 = .ok (.aload_n 0, 1) := by decide +kernel
theorem dX0_send_50 : decode cX0_send 50 = .ok (.getfield 15, 3) := by decide +kernel
theorem dX0_send_53 : decode cX0_send 53 = .ok (.iload_n 1, 1) := by decide +kernel
theorem dX0_send_54 : decode cX0_send 54 = .ok (.iconst 5, 1) := by decide +kernel
theorem dX0_send_55 : decode cX0_send 55 = .ok (.imul, 1) := by decide +kernel
theorem dX0_send_56 : decode cX0_send 56 = .ok (.iload_n 2, 1) := by decide +kernel
theorem dX0_send_57 : decode cX0_send 57 = .ok (.iadd, 1) := by decide +kernel
theorem dX0_send_58 : decode cX0_send 58 = .ok (.dup2, 1) := by decide +kernel
theorem dX0_send_59 : decode cX0_send 59 = .ok (.iaload, 1) := by decide +kernel
theorem dX0_send_60 : decode cX0_send 60 = .ok (.iload_n 3, 1) := by decide +kernel
theorem dX0_send_61 : decode cX0_send 61 = .ok (.isub, 1) := by decide +kernel
theorem dX0_send_62 : decode cX0_send 62 = .ok (.iastore, 1) := by decide +kernel
theorem dX0_send_63 : decode cX0_send 63 = .ok (.return_, 1) := by decide +kernel
abbrev rmX0_send : Room := { frames := 0, cells := 0, slots := 0, locals := 0 }
theorem cb_X0_send : CBn yX0_send 3 := ⟨by decide +kernel, by decide +kernel, by decide +kernel⟩
def FX0_send (n : Nat) (a_outs : Nat → Int32) (a_rows : Nat → Int32) (z1 : Int32) (z2 : Int32) (z3 : Int32) : Option (Unit × (Nat → Int32) × (Nat → Int32)) := if z2 < (20 : Int32) then (if z2 < (10 : Int32) then (lt1 ((z1 * (5 : Int32)) + z2) (fun x_3 => if ¬ (x_3 < 0 ∨ 25 ≤ (x_3).toNatClampNeg) then (lt1 ((a_rows (x_3).toNatClampNeg) - z3) (fun x_5 => if ¬ (x_3 < 0 ∨ 25 ≤ (x_3).toNatClampNeg) then (lt1 (upd a_rows (x_3).toNatClampNeg x_5) (fun f_7 => some ((), a_outs, f_7))) else none)) else none)) else (lt1 (((z1 * (5 : Int32)) + z2) - (10 : Int32)) (fun x_8 => if ¬ (x_8 < 0 ∨ 25 ≤ (x_8).toNatClampNeg) then (lt1 ((a_outs (x_8).toNatClampNeg) + z3) (fun x_10 => if ¬ (x_8 < 0 ∨ 25 ≤ (x_8).toNatClampNeg) then (lt1 (upd a_outs (x_8).toNatClampNeg x_10) (fun f_12 => some ((), f_12, a_rows))) else none)) else none))) else (lt1 ((z1 * (5 : Int32)) + (4 : Int32)) (fun x_13 => if ¬ (x_13 < 0 ∨ 25 ≤ (x_13).toNatClampNeg) then (lt1 ((a_outs (x_13).toNatClampNeg) + z3) (fun x_15 => if ¬ (x_13 < 0 ∨ 25 ≤ (x_13).toNatClampNeg) then (lt1 (upd a_outs (x_13).toNatClampNeg x_15) (fun f_17 => some ((), f_17, a_rows))) else none)) else none))
set_option maxHeartbeats 4000000 in
set_option maxRecDepth 100000 in
theorem kX0_send (l : Launch) (D : va_G) (cB cI cJ cZ : ClassId) (rz n sz : Nat) (h_t : Nat) (h_outs : Nat) (h_rows : Nat) (h_parts : Nat) (h_minors : Nat) (v_wholeOfAll : Int64) (a_outs : Nat → Int32) (a_rows : Nat → Int32) (z1 : Int32) (z2 : Int32) (z3 : Int32) (hN : FX0_send n a_outs a_rows z1 z2 z3 ≠ none) : Met l yX0_send (Cond.code yX0_send cX0_send 4 none :: AL) rmX0_send (PW D cB cI cJ cZ rz [.ref h_t, .int z1, .int z2, .int z3] [(h_t, .inr (0, [.long v_wholeOfAll, .ref h_parts, .ref h_rows, .ref h_outs, .ref h_minors])), (h_outs, .inl (cI, 25, .inl a_outs)), (h_rows, .inl (cI, 25, .inl a_rows))] sz) (QV D (FX0_send n a_outs a_rows z1 z2 z3) (fun u => [(h_t, .inr (0, [.long v_wholeOfAll, .ref h_parts, .ref h_rows, .ref h_outs, .ref h_minors])), (h_outs, .inl (cI, 25, .inl u.2.1)), (h_rows, .inl (cI, 25, .inl u.2.2))]) (va_A [(h_t, .inr (0, [.long v_wholeOfAll, .ref h_parts, .ref h_rows, .ref h_outs, .ref h_minors])), (h_outs, .inl (cI, 25, .inl a_outs)), (h_rows, .inl (cI, 25, .inl a_rows))] sz)) 0 0 (va_A [(h_t, .inr (0, [.long v_wholeOfAll, .ref h_parts, .ref h_rows, .ref h_outs, .ref h_minors])), (h_outs, .inl (cI, 25, .inl a_outs)), (h_rows, .inl (cI, 25, .inl a_rows))] sz) := by
  obtain ⟨O, hF⟩ : ∃ O, FX0_send n a_outs a_rows z1 z2 z3 = O := ⟨_, rfl⟩
  rw [hF] at hN ⊢
  refine enterV (cc := cX0_send) (nL := 4) (by decide) (Nat.le_of_ble_eq_true rfl) ?_
  intro p e s m below meth c A Q X hA hE hnm hsz hP hD hS hret ls hl
  obtain ⟨hx, hb, hml, hown0, ha⟩ := id X
  have hown : s.vm.findClass RX0 = some m.cls := hown0
  have hK := hE.1
  have hl : lv_has ls 4 [(0, .ref h_t), (1, .int z1), (2, .int z2), (3, .int z3)] := hl
  have hX : CallFix p m c cX0_send 4 s ([.ref h_t, .int z1, .int z2, .int z3] : List Value).toArray AL RX0 := X
  have X := hX
  unfold FX0_send at hF
  obtain ⟨H, hH⟩ : ∃ H, H = s.heap := ⟨_, rfl⟩
  obtain ⟨locs, hlo⟩ : ∃ locs : List Loc, locs = [] := ⟨_, rfl⟩
  have hS : va_S A s.heap H locs := by rw [hH, hlo]; exact hS
  rw [← hH] at hP
  have goal : W p l e rmX0_send s m ([.ref h_t, .int z1, .int z2, .int z3] : List Value).toArray below meth c H locs 0 0 Q (F0 m 0 ls []) := by
    refine lv_iload_n hx hb dX0_send_0 rfl (lv_at hl 2 rfl) ?_
    refine lv_bipush (v := 20) hx hb dX0_send_1 (by decide) ?_
    refine lv_icmp_lt (tgt := 23) hx hb dX0_send_3 (by decide) (fun c_1 => ?_) (fun c_1 => ?_)
    · replace hF := ifT c_1 hF
      refine lv_iload_n hx hb dX0_send_23 rfl (lv_at hl 2 rfl) ?_
      refine lv_bipush (v := 10) hx hb dX0_send_24 (by decide) ?_
      refine lv_icmp_lt (tgt := 49) hx hb dX0_send_26 (by decide) (fun c_2 => ?_) (fun c_2 => ?_)
      · replace hF := ifT c_2 hF
        refine lv_aload_n hx hb dX0_send_49 rfl (lv_at hl 0 rfl) ?_
        refine va_get (D := D) (ci := 0) (C := RX0) (T := TX0) (N := 5) hx hb ha inAX0 hown hK hP 0 rfl rfl 2 (by decide) (ha _ w_1_174) (fun _ h9 => h9) rfl dX0_send_50 ?_
        refine lv_iload_n hx hb dX0_send_53 rfl (lv_at hl 1 rfl) ?_
        refine lv_iconst (v := 5) hx hb dX0_send_54 (by decide) ?_
        refine lv_imul hx hb dX0_send_55 ?_
        refine lv_iload_n hx hb dX0_send_56 rfl (lv_at hl 2 rfl) ?_
        refine lv_iadd hx hb dX0_send_57 ?_
        refine lv_topi (fun x_3 ex_3 => ?_)
        replace hF := ltP ex_3 hF
        refine lv_dup2_11 hx hb dX0_send_58 rfl rfl ?_
        replace hF := ckP hN hF
        obtain ⟨c_4, hF⟩ := hF
        refine ld_i hx hb hK hP 2 rfl c_4 dX0_send_59 ?_
        refine lv_iload_n hx hb dX0_send_60 rfl (lv_at hl 3 rfl) ?_
        refine lv_isub hx hb dX0_send_61 ?_
        refine lv_topi (fun x_5 ex_5 => ?_)
        replace hF := ltP ex_5 hF
        replace hF := ckP hN hF
        obtain ⟨c_6, hF⟩ := hF
        obtain ⟨f_7, ef_7⟩ : ∃ g : Nat → Int32, g = upd a_rows (x_3).toNatClampNeg x_5 := ⟨_, rfl⟩
        replace hF := ltP ef_7 hF
        refine st_i (g := f_7) (W2 := [(h_t, .inr (0, [.long v_wholeOfAll, .ref h_parts, .ref h_rows, .ref h_outs, .ref h_minors])), (h_outs, .inl (cI, 25, .inl a_outs)), (h_rows, .inl (cI, 25, .inl f_7))]) hx hb hK hP hD hS 2 rfl c_6 ef_7 dX0_send_62 rfl (fun H locs hP hD hS => ?_)
        exact hret ((), a_outs, f_7) H locs ls _ hF hP hD hS dX0_send_63
      · replace hF := ifF c_2 hF
        refine lv_aload_n hx hb dX0_send_29 rfl (lv_at hl 0 rfl) ?_
        refine va_get (D := D) (ci := 0) (C := RX0) (T := TX0) (N := 5) hx hb ha inAX0 hown hK hP 0 rfl rfl 3 (by decide) (ha _ w_1_175) (fun _ h9 => h9) rfl dX0_send_30 ?_
        refine lv_iload_n hx hb dX0_send_33 rfl (lv_at hl 1 rfl) ?_
        refine lv_iconst (v := 5) hx hb dX0_send_34 (by decide) ?_
        refine lv_imul hx hb dX0_send_35 ?_
        refine lv_iload_n hx hb dX0_send_36 rfl (lv_at hl 2 rfl) ?_
        refine lv_iadd hx hb dX0_send_37 ?_
        refine lv_bipush (v := 10) hx hb dX0_send_38 (by decide) ?_
        refine lv_isub hx hb dX0_send_40 ?_
        refine lv_topi (fun x_8 ex_8 => ?_)
        replace hF := ltP ex_8 hF
        refine lv_dup2_11 hx hb dX0_send_41 rfl rfl ?_
        replace hF := ckP hN hF
        obtain ⟨c_9, hF⟩ := hF
        refine ld_i hx hb hK hP 1 rfl c_9 dX0_send_42 ?_
        refine lv_iload_n hx hb dX0_send_43 rfl (lv_at hl 3 rfl) ?_
        refine lv_iadd hx hb dX0_send_44 ?_
        refine lv_topi (fun x_10 ex_10 => ?_)
        replace hF := ltP ex_10 hF
        replace hF := ckP hN hF
        obtain ⟨c_11, hF⟩ := hF
        obtain ⟨f_12, ef_12⟩ : ∃ g : Nat → Int32, g = upd a_outs (x_8).toNatClampNeg x_10 := ⟨_, rfl⟩
        replace hF := ltP ef_12 hF
        refine st_i (g := f_12) (W2 := [(h_t, .inr (0, [.long v_wholeOfAll, .ref h_parts, .ref h_rows, .ref h_outs, .ref h_minors])), (h_outs, .inl (cI, 25, .inl f_12)), (h_rows, .inl (cI, 25, .inl a_rows))]) hx hb hK hP hD hS 1 rfl c_11 ef_12 dX0_send_45 rfl (fun H locs hP hD hS => ?_)
        refine lv_goto (tgt := 63) hx hb dX0_send_46 (by decide) ?_
        exact hret ((), f_12, a_rows) H locs ls _ hF hP hD hS dX0_send_63
    · replace hF := ifF c_1 hF
      refine lv_aload_n hx hb dX0_send_6 rfl (lv_at hl 0 rfl) ?_
      refine va_get (D := D) (ci := 0) (C := RX0) (T := TX0) (N := 5) hx hb ha inAX0 hown hK hP 0 rfl rfl 3 (by decide) (ha _ w_1_175) (fun _ h9 => h9) rfl dX0_send_7 ?_
      refine lv_iload_n hx hb dX0_send_10 rfl (lv_at hl 1 rfl) ?_
      refine lv_iconst (v := 5) hx hb dX0_send_11 (by decide) ?_
      refine lv_imul hx hb dX0_send_12 ?_
      refine lv_iconst (v := 4) hx hb dX0_send_13 (by decide) ?_
      refine lv_iadd hx hb dX0_send_14 ?_
      refine lv_topi (fun x_13 ex_13 => ?_)
      replace hF := ltP ex_13 hF
      refine lv_dup2_11 hx hb dX0_send_15 rfl rfl ?_
      replace hF := ckP hN hF
      obtain ⟨c_14, hF⟩ := hF
      refine ld_i hx hb hK hP 1 rfl c_14 dX0_send_16 ?_
      refine lv_iload_n hx hb dX0_send_17 rfl (lv_at hl 3 rfl) ?_
      refine lv_iadd hx hb dX0_send_18 ?_
      refine lv_topi (fun x_15 ex_15 => ?_)
      replace hF := ltP ex_15 hF
      replace hF := ckP hN hF
      obtain ⟨c_16, hF⟩ := hF
      obtain ⟨f_17, ef_17⟩ : ∃ g : Nat → Int32, g = upd a_outs (x_13).toNatClampNeg x_15 := ⟨_, rfl⟩
      replace hF := ltP ef_17 hF
      refine st_i (g := f_17) (W2 := [(h_t, .inr (0, [.long v_wholeOfAll, .ref h_parts, .ref h_rows, .ref h_outs, .ref h_minors])), (h_outs, .inl (cI, 25, .inl f_17)), (h_rows, .inl (cI, 25, .inl a_rows))]) hx hb hK hP hD hS 1 rfl c_16 ef_17 dX0_send_19 rfl (fun H locs hP hD hS => ?_)
      refine lv_goto (tgt := 63) hx hb dX0_send_20 (by decide) ?_
      exact hret ((), f_17, a_rows) H locs ls _ hF hP hD hS dX0_send_63
  rw [hH, hlo] at goal
  exact goal
theorem dX0_layRows_0 : decode cX0_layRows 0 = .ok (.aload_n 0, 1) := by decide +kernel
theorem dX0_layRows_1 : decode cX0_layRows 1 = .ok (.getfield 15, 3) := by decide +kernel
theorem dX0_layRows_4 : decode cX0_layRows 4 = .ok (.iconst 0, 1) := by decide +kernel
theorem dX0_layRows_5 : decode cX0_layRows 5 = .ok (.invokestatic 53, 3) := by decide +kernel
theorem dX0_layRows_8 : decode cX0_layRows 8 = .ok (.aload_n 0, 1) := by decide +kernel
theorem dX0_layRows_9 : decode cX0_layRows 9 = .ok (.getfield 19, 3) := by decide +kernel
theorem dX0_layRows_12 : decode cX0_layRows 12 = .ok (.iconst 0, 1) := by decide +kernel
theorem dX0_layRows_13 : decode cX0_layRows 13 = .ok (.invokestatic 53, 3) := by decide +kernel
theorem dX0_layRows_16 : decode cX0_layRows 16 = .ok (.iconst 0, 1) := by decide +kernel
theorem dX0_layRows_17 : decode cX0_layRows 17 = .ok (.istore 4, 2) := by decide +kernel
theorem dX0_layRows_19 : decode cX0_layRows 19 = .ok (.iload 4, 2) := by decide +kernel
theorem dX0_layRows_21 : decode cX0_layRows 21 = .ok (.aload_n 1, 1) := by decide +kernel
theorem dX0_layRows_22 : decode cX0_layRows 22 = .ok (.getfield 31, 3) := by decide +kernel
theorem dX0_layRows_25 : decode cX0_layRows 25 = .ok (.if_icmp .ge 72, 3) := by decide +kernel
theorem dX0_layRows_28 : decode cX0_layRows 28 = .ok (.aload_n 1, 1) := by decide +kernel
theorem dX0_layRows_29 : decode cX0_layRows 29 = .ok (.iload 4, 2) := by decide +kernel
theorem dX0_layRows_31 : decode cX0_layRows 31 = .ok (.aload_n 2, 1) := by decide +kernel
theorem dX0_layRows_32 : decode cX0_layRows 32 = .ok (.iload 4, 2) := by decide +kernel
theorem dX0_layRows_34 : decode cX0_layRows 34 = .ok (.iaload, 1) := by decide +kernel
theorem dX0_layRows_35 : decode cX0_layRows 35 = .ok (.iload_n 3, 1) := by decide +kernel
theorem dX0_layRows_36 : decode cX0_layRows 36 = .ok (.invokevirtual 56, 3) := by decide +kernel
theorem dX0_layRows_39 : decode cX0_layRows 39 = .ok (.istore 5, 2) := by decide +kernel
theorem dX0_layRows_41 : decode cX0_layRows 41 = .ok (.aload_n 0, 1) := by decide +kernel
theorem dX0_layRows_42 : decode cX0_layRows 42 = .ok (.getfield 15, 3) := by decide +kernel
theorem dX0_layRows_45 : decode cX0_layRows 45 = .ok (.iload 4, 2) := by decide +kernel
theorem dX0_layRows_47 : decode cX0_layRows 47 = .ok (.iconst 5, 1) := by decide +kernel
theorem dX0_layRows_48 : decode cX0_layRows 48 = .ok (.imul, 1) := by decide +kernel
theorem dX0_layRows_49 : decode cX0_layRows 49 = .ok (.iload 4, 2) := by decide +kernel
theorem dX0_layRows_51 : decode cX0_layRows 51 = .ok (.iadd, 1) := by decide +kernel
theorem dX0_layRows_52 : decode cX0_layRows 52 = .ok (.dup2, 1) := by decide +kernel
theorem dX0_layRows_53 : decode cX0_layRows 53 = .ok (.iaload, 1) := by decide +kernel
theorem dX0_layRows_54 : decode cX0_layRows 54 = .ok (.bipush 100, 2) := by decide +kernel
theorem dX0_layRows_56 : decode cX0_layRows 56 = .ok (.iadd, 1) := by decide +kernel
theorem dX0_layRows_57 : decode cX0_layRows 57 = .ok (.iastore, 1) := by decide +kernel
theorem dX0_layRows_58 : decode cX0_layRows 58 = .ok (.aload_n 0, 1) := by decide +kernel
theorem dX0_layRows_59 : decode cX0_layRows 59 = .ok (.iload 4, 2) := by decide +kernel
theorem dX0_layRows_61 : decode cX0_layRows 61 = .ok (.aload_n 1, 1) := by decide +kernel
theorem dX0_layRows_62 : decode cX0_layRows 62 = .ok (.getfield 60, 3) := by decide +kernel
theorem dX0_layRows_65 : decode cX0_layRows 65 = .ok (.iload 4, 2) := by decide +kernel
theorem dX0_layRows_67 : decode cX0_layRows 67 = .ok (.iaload, 1) := by decide +kernel
theorem dX0_layRows_68 : decode cX0_layRows 68 = .ok (.iload 5, 2) := by decide +kernel
theorem dX0_layRows_70 : decode cX0_layRows 70 = .ok (.invokevirtual 63, 3) := by decide +kernel
theorem dX0_layRows_73 : decode cX0_layRows 73 = .ok (.aload_n 0, 1) := by decide +kernel
theorem dX0_layRows_74 : decode cX0_layRows 74 = .ok (.iload 4, 2) := by decide +kernel
theorem dX0_layRows_76 : decode cX0_layRows 76 = .ok (.aload_n 1, 1) := by decide +kernel
theorem dX0_layRows_77 : decode cX0_layRows 77 = .ok (.getfield 67, 3) := by decide +kernel
theorem dX0_layRows_80 : decode cX0_layRows 80 = .ok (.iload 4, 2) := by decide +kernel
theorem dX0_layRows_82 : decode cX0_layRows 82 = .ok (.iaload, 1) := by decide +kernel
theorem dX0_layRows_83 : decode cX0_layRows 83 = .ok (.bipush 100, 2) := by decide +kernel
theorem dX0_layRows_85 : decode cX0_layRows 85 = .ok (.iload 5, 2) := by decide +kernel
theorem dX0_layRows_87 : decode cX0_layRows 87 = .ok (.isub, 1) := by decide +kernel
theorem dX0_layRows_88 : decode cX0_layRows 88 = .ok (.invokevirtual 63, 3) := by decide +kernel
theorem dX0_layRows_91 : decode cX0_layRows 91 = .ok (.iinc 4 1, 3) := by decide +kernel
theorem dX0_layRows_94 : decode cX0_layRows 94 = .ok (.goto (-75), 3) := by decide +kernel
theorem dX0_layRows_97 : decode cX0_layRows 97 = .ok (.return_, 1) := by decide +kernel
abbrev rmX0_layRows : Room := { frames := 1, cells := 0, slots := 0, locals := 23 }
theorem cb_X0_layRows : CBn yX0_layRows 3 := ⟨by decide +kernel, by decide +kernel, by decide +kernel⟩
def FX0_layRows_19 (n : Nat) (v_p0_units : Int32) (a_p1 : Nat → Int32) (a_p0_percents : Nat → Int32) (a_p0_yesLeads : Nat → Int32) (a_p0_noLeads : Nat → Int32) (z3 : Int32) (k19 : (Nat → Int32) → (Nat → Int32) → Int32 → Int32 → Option (Unit × (Nat → Int32) × (Nat → Int32))) (a_rows : Nat → Int32) (a_outs : Nat → Int32) (x3 : Int32) (x4 : Int32) : Option (Unit × (Nat → Int32) × (Nat → Int32)) := if v_p0_units ≤ x4 then (some ((), a_rows, a_outs)) else (if ¬ (x4 < 0 ∨ 5 ≤ (x4).toNatClampNeg) then (bd (FX2_byYes n a_p0_percents x4 (a_p1 (x4).toNatClampNeg) x3) (fun u_8 => lt1 ((x4 * (5 : Int32)) + x4) (fun x_9 => if ¬ (x_9 < 0 ∨ 25 ≤ (x_9).toNatClampNeg) then (lt1 ((a_rows (x_9).toNatClampNeg) + (100 : Int32)) (fun x_11 => if ¬ (x_9 < 0 ∨ 25 ≤ (x_9).toNatClampNeg) then (lt1 (upd a_rows (x_9).toNatClampNeg x_11) (fun f_13 => if ¬ (x4 < 0 ∨ 5 ≤ (x4).toNatClampNeg) then (bd (FX0_send n a_outs f_13 x4 (a_p0_yesLeads (x4).toNatClampNeg) u_8.1) (fun u_16 => if ¬ (x4 < 0 ∨ 5 ≤ (x4).toNatClampNeg) then (bd (FX0_send n u_16.2.1 u_16.2.2 x4 (a_p0_noLeads (x4).toNatClampNeg) ((100 : Int32) - u_8.1)) (fun u_19 => lt1 (x4 + (1 : Int32)) (fun x_20 => k19 u_19.2.2 u_19.2.1 x3 x_20))) else none)) else none)) else none)) else none))) else none)
def FX0_layRows_19L (n : Nat) (v_p0_units : Int32) (a_p1 : Nat → Int32) (a_p0_percents : Nat → Int32) (a_p0_yesLeads : Nat → Int32) (a_p0_noLeads : Nat → Int32) (z3 : Int32) (j : Nat) : (Nat → Int32) → (Nat → Int32) → Int32 → Int32 → Option (Unit × (Nat → Int32) × (Nat → Int32)) := lpR (FX0_layRows_19 n v_p0_units a_p1 a_p0_percents a_p0_yesLeads a_p0_noLeads z3) (fun _ _ _ _ => none) j
def FX0_layRows (n : Nat) (v_p0_units : Int32) (a_p1 : Nat → Int32) (a_rows : Nat → Int32) (a_outs : Nat → Int32) (a_p0_percents : Nat → Int32) (a_p0_yesLeads : Nat → Int32) (a_p0_noLeads : Nat → Int32) (z3 : Int32) : Option (Unit × (Nat → Int32) × (Nat → Int32)) := bd (FJ7_fill_53178 n 25 a_rows (0 : Int32)) (fun u_2 => bd (FJ7_fill_53178 n 25 a_outs (0 : Int32)) (fun u_4 => FX0_layRows_19L n v_p0_units a_p1 a_p0_percents a_p0_yesLeads a_p0_noLeads z3 n u_2.2 u_4.2 z3 (0 : Int32)))
set_option maxHeartbeats 4000000 in
set_option maxRecDepth 100000 in
theorem kX0_layRows (l : Launch) (D : va_G) (cB cI cJ cZ : ClassId) (rz n sz : Nat) (h_t : Nat) (h_p0 : Nat) (h_p1 : Nat) (h_rows : Nat) (h_outs : Nat) (h_p0_percents : Nat) (h_p0_yesLeads : Nat) (h_p0_noLeads : Nat) (h_parts : Nat) (h_minors : Nat) (h_p0_settings : Nat) (h_p0_grades : Nat) (h_p0_gradeKinds : Nat) (h_p0_gradePurities : Nat) (h_p0_gradePrices : Nat) (v_wholeOfAll : Int64) (v_p0_units : Int32) (a_p1 : Nat → Int32) (a_rows : Nat → Int32) (a_outs : Nat → Int32) (a_p0_percents : Nat → Int32) (a_p0_yesLeads : Nat → Int32) (a_p0_noLeads : Nat → Int32) (z3 : Int32) (hN : FX0_layRows n v_p0_units a_p1 a_rows a_outs a_p0_percents a_p0_yesLeads a_p0_noLeads z3 ≠ none) : Met l yX0_layRows (Cond.code yX0_layRows cX0_layRows 6 none :: AL) rmX0_layRows (PW D cB cI cJ cZ rz [.ref h_t, .ref h_p0, .ref h_p1, .int z3] [(h_t, .inr (0, [.long v_wholeOfAll, .ref h_parts, .ref h_rows, .ref h_outs, .ref h_minors])), (h_p0, .inr (2, [.int v_p0_units, .ref h_p0_settings, .ref h_p0_yesLeads, .ref h_p0_noLeads, .ref h_p0_percents, .ref h_p0_grades, .ref h_p0_gradeKinds, .ref h_p0_gradePurities, .ref h_p0_gradePrices])), (h_p1, .inl (cI, 5, .inl a_p1)), (h_rows, .inl (cI, 25, .inl a_rows)), (h_outs, .inl (cI, 25, .inl a_outs)), (h_p0_percents, .inl (cI, 75, .inl a_p0_percents)), (h_p0_yesLeads, .inl (cI, 5, .inl a_p0_yesLeads)), (h_p0_noLeads, .inl (cI, 5, .inl a_p0_noLeads))] sz) (QV D (FX0_layRows n v_p0_units a_p1 a_rows a_outs a_p0_percents a_p0_yesLeads a_p0_noLeads z3) (fun u => [(h_t, .inr (0, [.long v_wholeOfAll, .ref h_parts, .ref h_rows, .ref h_outs, .ref h_minors])), (h_p0, .inr (2, [.int v_p0_units, .ref h_p0_settings, .ref h_p0_yesLeads, .ref h_p0_noLeads, .ref h_p0_percents, .ref h_p0_grades, .ref h_p0_gradeKinds, .ref h_p0_gradePurities, .ref h_p0_gradePrices])), (h_p1, .inl (cI, 5, .inl a_p1)), (h_rows, .inl (cI, 25, .inl u.2.1)), (h_outs, .inl (cI, 25, .inl u.2.2)), (h_p0_percents, .inl (cI, 75, .inl a_p0_percents)), (h_p0_yesLeads, .inl (cI, 5, .inl a_p0_yesLeads)), (h_p0_noLeads, .inl (cI, 5, .inl a_p0_noLeads))]) (va_A [(h_t, .inr (0, [.long v_wholeOfAll, .ref h_parts, .ref h_rows, .ref h_outs, .ref h_minors])), (h_p0, .inr (2, [.int v_p0_units, .ref h_p0_settings, .ref h_p0_yesLeads, .ref h_p0_noLeads, .ref h_p0_percents, .ref h_p0_grades, .ref h_p0_gradeKinds, .ref h_p0_gradePurities, .ref h_p0_gradePrices])), (h_p1, .inl (cI, 5, .inl a_p1)), (h_rows, .inl (cI, 25, .inl a_rows)), (h_outs, .inl (cI, 25, .inl a_outs)), (h_p0_percents, .inl (cI, 75, .inl a_p0_percents)), (h_p0_yesLeads, .inl (cI, 5, .inl a_p0_yesLeads)), (h_p0_noLeads, .inl (cI, 5, .inl a_p0_noLeads))] sz)) 0 0 (va_A [(h_t, .inr (0, [.long v_wholeOfAll, .ref h_parts, .ref h_rows, .ref h_outs, .ref h_minors])), (h_p0, .inr (2, [.int v_p0_units, .ref h_p0_settings, .ref h_p0_yesLeads, .ref h_p0_noLeads, .ref h_p0_percents, .ref h_p0_grades, .ref h_p0_gradeKinds, .ref h_p0_gradePurities, .ref h_p0_gradePrices])), (h_p1, .inl (cI, 5, .inl a_p1)), (h_rows, .inl (cI, 25, .inl a_rows)), (h_outs, .inl (cI, 25, .inl a_outs)), (h_p0_percents, .inl (cI, 75, .inl a_p0_percents)), (h_p0_yesLeads, .inl (cI, 5, .inl a_p0_yesLeads)), (h_p0_noLeads, .inl (cI, 5, .inl a_p0_noLeads))] sz) := by
  obtain ⟨O, hF⟩ : ∃ O, FX0_layRows n v_p0_units a_p1 a_rows a_outs a_p0_percents a_p0_yesLeads a_p0_noLeads z3 = O := ⟨_, rfl⟩
  rw [hF] at hN ⊢
  refine enterV (cc := cX0_layRows) (nL := 6) (by decide) (Nat.le_of_ble_eq_true rfl) ?_
  intro p e s m below meth c A Q X hA hE hnm hsz hP hD hS hret ls hl
  obtain ⟨hx, hb, hml, hown0, ha⟩ := id X
  have hown : s.vm.findClass RX0 = some m.cls := hown0
  have hK := hE.1
  have hl : lv_has ls 6 [(0, .ref h_t), (1, .ref h_p0), (2, .ref h_p1), (3, .int z3)] := hl
  have hX : CallFix p m c cX0_layRows 6 s ([.ref h_t, .ref h_p0, .ref h_p1, .int z3] : List Value).toArray AL RX0 := X
  have X := hX
  have L19 : ∀ (k19 : (Nat → Int32) → (Nat → Int32) → Int32 → Int32 → Option (Unit × (Nat → Int32) × (Nat → Int32))) (ih19 : ∀ (a_rows : Nat → Int32) (a_outs : Nat → Int32) (x3 : Int32) (x4 : Int32) (H : Heap) (locs : List Loc) (ls : Array Slot), k19 a_rows a_outs x3 x4 = O → va_P D classes [(h_t, .inr (0, [.long v_wholeOfAll, .ref h_parts, .ref h_rows, .ref h_outs, .ref h_minors])), (h_p0, .inr (2, [.int v_p0_units, .ref h_p0_settings, .ref h_p0_yesLeads, .ref h_p0_noLeads, .ref h_p0_percents, .ref h_p0_grades, .ref h_p0_gradeKinds, .ref h_p0_gradePurities, .ref h_p0_gradePrices])), (h_p1, .inl (cI, 5, .inl a_p1)), (h_rows, .inl (cI, 25, .inl a_rows)), (h_outs, .inl (cI, 25, .inl a_outs)), (h_p0_percents, .inl (cI, 75, .inl a_p0_percents)), (h_p0_yesLeads, .inl (cI, 5, .inl a_p0_yesLeads)), (h_p0_noLeads, .inl (cI, 5, .inl a_p0_noLeads))] H → va_D A [(h_t, .inr (0, [.long v_wholeOfAll, .ref h_parts, .ref h_rows, .ref h_outs, .ref h_minors])), (h_p0, .inr (2, [.int v_p0_units, .ref h_p0_settings, .ref h_p0_yesLeads, .ref h_p0_noLeads, .ref h_p0_percents, .ref h_p0_grades, .ref h_p0_gradeKinds, .ref h_p0_gradePurities, .ref h_p0_gradePrices])), (h_p1, .inl (cI, 5, .inl a_p1)), (h_rows, .inl (cI, 25, .inl a_rows)), (h_outs, .inl (cI, 25, .inl a_outs)), (h_p0_percents, .inl (cI, 75, .inl a_p0_percents)), (h_p0_yesLeads, .inl (cI, 5, .inl a_p0_yesLeads)), (h_p0_noLeads, .inl (cI, 5, .inl a_p0_noLeads))] → va_S A s.heap H locs → lv_has ls 6 [(0, .ref h_t), (1, .ref h_p0), (2, .ref h_p1), (3, .int x3), (4, .int x4)] → W p l e rmX0_layRows s m ([.ref h_t, .ref h_p0, .ref h_p1, .int z3] : List Value).toArray below meth c H locs 0 0 Q (F0 m 19 ls [])), ∀ (a_rows : Nat → Int32) (a_outs : Nat → Int32) (x3 : Int32) (x4 : Int32) (H : Heap) (locs : List Loc) (ls : Array Slot), FX0_layRows_19 n v_p0_units a_p1 a_p0_percents a_p0_yesLeads a_p0_noLeads z3 k19 a_rows a_outs x3 x4 = O → va_P D classes [(h_t, .inr (0, [.long v_wholeOfAll, .ref h_parts, .ref h_rows, .ref h_outs, .ref h_minors])), (h_p0, .inr (2, [.int v_p0_units, .ref h_p0_settings, .ref h_p0_yesLeads, .ref h_p0_noLeads, .ref h_p0_percents, .ref h_p0_grades, .ref h_p0_gradeKinds, .ref h_p0_gradePurities, .ref h_p0_gradePrices])), (h_p1, .inl (cI, 5, .inl a_p1)), (h_rows, .inl (cI, 25, .inl a_rows)), (h_outs, .inl (cI, 25, .inl a_outs)), (h_p0_percents, .inl (cI, 75, .inl a_p0_percents)), (h_p0_yesLeads, .inl (cI, 5, .inl a_p0_yesLeads)), (h_p0_noLeads, .inl (cI, 5, .inl a_p0_noLeads))] H → va_D A [(h_t, .inr (0, [.long v_wholeOfAll, .ref h_parts, .ref h_rows, .ref h_outs, .ref h_minors])), (h_p0, .inr (2, [.int v_p0_units, .ref h_p0_settings, .ref h_p0_yesLeads, .ref h_p0_noLeads, .ref h_p0_percents, .ref h_p0_grades, .ref h_p0_gradeKinds, .ref h_p0_gradePurities, .ref h_p0_gradePrices])), (h_p1, .inl (cI, 5, .inl a_p1)), (h_rows, .inl (cI, 25, .inl a_rows)), (h_outs, .inl (cI, 25, .inl a_outs)), (h_p0_percents, .inl (cI, 75, .inl a_p0_percents)), (h_p0_yesLeads, .inl (cI, 5, .inl a_p0_yesLeads)), (h_p0_noLeads, .inl (cI, 5, .inl a_p0_noLeads))] → va_S A s.heap H locs → lv_has ls 6 [(0, .ref h_t), (1, .ref h_p0), (2, .ref h_p1), (3, .int x3), (4, .int x4)] → W p l e rmX0_layRows s m ([.ref h_t, .ref h_p0, .ref h_p1, .int z3] : List Value).toArray below meth c H locs 0 0 Q (F0 m 19 ls []) := by
    intro k19 ih19 a_rows a_outs x3 x4 H locs ls hF hP hD hS hl
    unfold FX0_layRows_19 at hF
    refine lv_iload hx hb dX0_layRows_19 (lv_at hl 4 rfl) ?_
    refine lv_aload_n hx hb dX0_layRows_21 rfl (lv_at hl 1 rfl) ?_
    refine va_getN (D := D) (ci := 2) (C := RX2) (T := TX2) (N := 9) hx hb ha inAX2 hown hK hP 1 rfl rfl 0 (by decide) (va_Nw.use rfl (hE.2.1 _ w_1_28)) (fun _ h9 => h9) rfl dX0_layRows_22 ?_
    refine lv_icmp_ge (tgt := 97) hx hb dX0_layRows_25 (by decide) (fun c_5 => ?_) (fun c_5 => ?_)
    · replace hF := ifT c_5 hF
      exact hret ((), a_rows, a_outs) H locs ls _ hF hP hD hS dX0_layRows_97
    · replace hF := ifF c_5 hF
      refine lv_aload_n hx hb dX0_layRows_28 rfl (lv_at hl 1 rfl) ?_
      refine lv_iload hx hb dX0_layRows_29 (lv_at hl 4 rfl) ?_
      refine lv_aload_n hx hb dX0_layRows_31 rfl (lv_at hl 2 rfl) ?_
      refine lv_iload hx hb dX0_layRows_32 (lv_at hl 4 rfl) ?_
      replace hF := ckP hN hF
      obtain ⟨c_6, hF⟩ := hF
      refine ld_i hx hb hK hP 2 rfl c_6 dX0_layRows_34 ?_
      refine lv_iload_n hx hb dX0_layRows_35 rfl (lv_at hl 3 rfl) ?_
      have hn_7 := bdN hN hF
      refine callVNI (As := [.int x4, .int (a_p1 (x4).toNatClampNeg), .int x3]) (rest := []) (wr := [(h_t, .inr (0, [.long v_wholeOfAll, .ref h_parts, .ref h_rows, .ref h_outs, .ref h_minors])), (h_p1, .inl (cI, 5, .inl a_p1)), (h_rows, .inl (cI, 25, .inl a_rows)), (h_outs, .inl (cI, 25, .inl a_outs)), (h_p0_yesLeads, .inl (cI, 5, .inl a_p0_yesLeads)), (h_p0_noLeads, .inl (cI, 5, .inl a_p0_noLeads))]) (W2 := fun u_8 => [(h_t, .inr (0, [.long v_wholeOfAll, .ref h_parts, .ref h_rows, .ref h_outs, .ref h_minors])), (h_p0, .inr (2, [.int v_p0_units, .ref h_p0_settings, .ref h_p0_yesLeads, .ref h_p0_noLeads, .ref h_p0_percents, .ref h_p0_grades, .ref h_p0_gradeKinds, .ref h_p0_gradePurities, .ref h_p0_gradePrices])), (h_p1, .inl (cI, 5, .inl a_p1)), (h_rows, .inl (cI, 25, .inl a_rows)), (h_outs, .inl (cI, 25, .inl a_outs)), (h_p0_percents, .inl (cI, 75, .inl a_p0_percents)), (h_p0_yesLeads, .inl (cI, 5, .inl a_p0_yesLeads)), (h_p0_noLeads, .inl (cI, 5, .inl a_p0_noLeads))]) X hE hP hD hS hA (kX2_byYes l D cB cI cJ cZ rz n H.size h_p0 h_p0_percents h_p0_settings h_p0_yesLeads h_p0_noLeads h_p0_grades h_p0_gradeKinds h_p0_gradePurities h_p0_gradePrices v_p0_units a_p0_percents x4 (a_p1 (x4).toNatClampNeg) x3 hn_7) w_2_199 w_2_176 ws_25 w_1_2 w_2_177 cb_X2_byYes rfl rfl ⟨Nat.le_of_ble_eq_true rfl, Nat.le_of_ble_eq_true rfl⟩ rfl hl.1 rfl (Nat.le_of_ble_eq_true rfl) dX0_layRows_36 ⟨Nat.le_of_ble_eq_true rfl, Nat.le_of_ble_eq_true rfl⟩ (c2 := 0) (s2 := 0) rfl rfl (k0 := 1) rfl rfl [1, 5] [0, 2, 3, 4, 6, 7] [0, 6, 1, 2, 3, 7, 4, 5] rfl rfl (by decide) (by decide) (by decide) (by decide) (fun _ => rfl) (fun u_8 H locs hG hP hD hS => ?_)
      replace hF := bdQ hG hF
      refine lv_istore (lv' := [(5, .int u_8.1), (0, .ref h_t), (1, .ref h_p0), (2, .ref h_p1), (3, .int x3), (4, .int x4)]) hx hb dX0_layRows_39 hl (by decide) rfl (fun ls hl => ?_)
      refine lv_aload_n hx hb dX0_layRows_41 rfl (lv_at hl 1 rfl) ?_
      refine va_get (D := D) (ci := 0) (C := RX0) (T := TX0) (N := 5) hx hb ha inAX0 hown hK hP 0 rfl rfl 2 (by decide) (ha _ w_1_174) (fun _ h9 => h9) rfl dX0_layRows_42 ?_
      refine lv_iload hx hb dX0_layRows_45 (lv_at hl 5 rfl) ?_
      refine lv_iconst (v := 5) hx hb dX0_layRows_47 (by decide) ?_
      refine lv_imul hx hb dX0_layRows_48 ?_
      refine lv_iload hx hb dX0_layRows_49 (lv_at hl 5 rfl) ?_
      refine lv_iadd hx hb dX0_layRows_51 ?_
      refine lv_topi (fun x_9 ex_9 => ?_)
      replace hF := ltP ex_9 hF
      refine lv_dup2_11 hx hb dX0_layRows_52 rfl rfl ?_
      replace hF := ckP hN hF
      obtain ⟨c_10, hF⟩ := hF
      refine ld_i hx hb hK hP 3 rfl c_10 dX0_layRows_53 ?_
      refine lv_bipush (v := 100) hx hb dX0_layRows_54 (by decide) ?_
      refine lv_iadd hx hb dX0_layRows_56 ?_
      refine lv_topi (fun x_11 ex_11 => ?_)
      replace hF := ltP ex_11 hF
      replace hF := ckP hN hF
      obtain ⟨c_12, hF⟩ := hF
      obtain ⟨f_13, ef_13⟩ : ∃ g : Nat → Int32, g = upd a_rows (x_9).toNatClampNeg x_11 := ⟨_, rfl⟩
      replace hF := ltP ef_13 hF
      refine st_i (g := f_13) (W2 := [(h_t, .inr (0, [.long v_wholeOfAll, .ref h_parts, .ref h_rows, .ref h_outs, .ref h_minors])), (h_p0, .inr (2, [.int v_p0_units, .ref h_p0_settings, .ref h_p0_yesLeads, .ref h_p0_noLeads, .ref h_p0_percents, .ref h_p0_grades, .ref h_p0_gradeKinds, .ref h_p0_gradePurities, .ref h_p0_gradePrices])), (h_p1, .inl (cI, 5, .inl a_p1)), (h_rows, .inl (cI, 25, .inl f_13)), (h_outs, .inl (cI, 25, .inl a_outs)), (h_p0_percents, .inl (cI, 75, .inl a_p0_percents)), (h_p0_yesLeads, .inl (cI, 5, .inl a_p0_yesLeads)), (h_p0_noLeads, .inl (cI, 5, .inl a_p0_noLeads))]) hx hb hK hP hD hS 3 rfl c_12 ef_13 dX0_layRows_57 rfl (fun H locs hP hD hS => ?_)
      refine lv_aload_n hx hb dX0_layRows_58 rfl (lv_at hl 1 rfl) ?_
      refine lv_iload hx hb dX0_layRows_59 (lv_at hl 5 rfl) ?_
      refine lv_aload_n hx hb dX0_layRows_61 rfl (lv_at hl 2 rfl) ?_
      refine va_getN (D := D) (ci := 2) (C := RX2) (T := TX2) (N := 9) hx hb ha inAX2 hown hK hP 1 rfl rfl 2 (by decide) (va_Nw.use rfl (hE.2.1 _ w_1_35)) (fun _ h9 => h9) rfl dX0_layRows_62 ?_
      refine lv_iload hx hb dX0_layRows_65 (lv_at hl 5 rfl) ?_
      replace hF := ckP hN hF
      obtain ⟨c_14, hF⟩ := hF
      refine ld_i hx hb hK hP 6 rfl c_14 dX0_layRows_67 ?_
      refine lv_iload hx hb dX0_layRows_68 (lv_at hl 0 rfl) ?_
      have hn_15 := bdN hN hF
      refine callVV (As := [.int x4, .int (a_p0_yesLeads (x4).toNatClampNeg), .int u_8.1]) (rest := []) (wr := [(h_p0, .inr (2, [.int v_p0_units, .ref h_p0_settings, .ref h_p0_yesLeads, .ref h_p0_noLeads, .ref h_p0_percents, .ref h_p0_grades, .ref h_p0_gradeKinds, .ref h_p0_gradePurities, .ref h_p0_gradePrices])), (h_p1, .inl (cI, 5, .inl a_p1)), (h_p0_percents, .inl (cI, 75, .inl a_p0_percents)), (h_p0_yesLeads, .inl (cI, 5, .inl a_p0_yesLeads)), (h_p0_noLeads, .inl (cI, 5, .inl a_p0_noLeads))]) (W2 := fun u_16 => [(h_t, .inr (0, [.long v_wholeOfAll, .ref h_parts, .ref h_rows, .ref h_outs, .ref h_minors])), (h_p0, .inr (2, [.int v_p0_units, .ref h_p0_settings, .ref h_p0_yesLeads, .ref h_p0_noLeads, .ref h_p0_percents, .ref h_p0_grades, .ref h_p0_gradeKinds, .ref h_p0_gradePurities, .ref h_p0_gradePrices])), (h_p1, .inl (cI, 5, .inl a_p1)), (h_rows, .inl (cI, 25, .inl u_16.2.2)), (h_outs, .inl (cI, 25, .inl u_16.2.1)), (h_p0_percents, .inl (cI, 75, .inl a_p0_percents)), (h_p0_yesLeads, .inl (cI, 5, .inl a_p0_yesLeads)), (h_p0_noLeads, .inl (cI, 5, .inl a_p0_noLeads))]) X hE hP hD hS hA (kX0_send l D cB cI cJ cZ rz n H.size h_t h_outs h_rows h_parts h_minors v_wholeOfAll a_outs f_13 x4 (a_p0_yesLeads (x4).toNatClampNeg) u_8.1 hn_15) w_2_200 w_2_202 ws_28 w_1_5 w_2_203 cb_X0_send rfl rfl ⟨Nat.le_of_ble_eq_true rfl, Nat.le_of_ble_eq_true rfl⟩ rfl hl.1 rfl (Nat.le_of_ble_eq_true rfl) dX0_layRows_70 ⟨Nat.le_of_ble_eq_true rfl, Nat.le_of_ble_eq_true rfl⟩ (c2 := 0) (s2 := 0) rfl rfl (k0 := 0) rfl rfl [0, 4, 3] [1, 2, 5, 6, 7] [5, 0, 1, 7, 6, 2, 3, 4] rfl rfl (by decide) (by decide) (by decide) (by decide) (fun _ => rfl) (fun u_16 H locs hG hP hD hS => ?_)
      replace hF := bdQ hG hF
      refine lv_aload_n hx hb dX0_layRows_73 rfl (lv_at hl 1 rfl) ?_
      refine lv_iload hx hb dX0_layRows_74 (lv_at hl 5 rfl) ?_
      refine lv_aload_n hx hb dX0_layRows_76 rfl (lv_at hl 2 rfl) ?_
      refine va_getN (D := D) (ci := 2) (C := RX2) (T := TX2) (N := 9) hx hb ha inAX2 hown hK hP 1 rfl rfl 3 (by decide) (va_Nw.use rfl (hE.2.1 _ w_1_39)) (fun _ h9 => h9) rfl dX0_layRows_77 ?_
      refine lv_iload hx hb dX0_layRows_80 (lv_at hl 5 rfl) ?_
      replace hF := ckP hN hF
      obtain ⟨c_17, hF⟩ := hF
      refine ld_i hx hb hK hP 7 rfl c_17 dX0_layRows_82 ?_
      refine lv_bipush (v := 100) hx hb dX0_layRows_83 (by decide) ?_
      refine lv_iload hx hb dX0_layRows_85 (lv_at hl 0 rfl) ?_
      refine lv_isub hx hb dX0_layRows_87 ?_
      have hn_18 := bdN hN hF
      refine callVV (As := [.int x4, .int (a_p0_noLeads (x4).toNatClampNeg), .int ((100 : Int32) - u_8.1)]) (rest := []) (wr := [(h_p0, .inr (2, [.int v_p0_units, .ref h_p0_settings, .ref h_p0_yesLeads, .ref h_p0_noLeads, .ref h_p0_percents, .ref h_p0_grades, .ref h_p0_gradeKinds, .ref h_p0_gradePurities, .ref h_p0_gradePrices])), (h_p1, .inl (cI, 5, .inl a_p1)), (h_p0_percents, .inl (cI, 75, .inl a_p0_percents)), (h_p0_yesLeads, .inl (cI, 5, .inl a_p0_yesLeads)), (h_p0_noLeads, .inl (cI, 5, .inl a_p0_noLeads))]) (W2 := fun u_19 => [(h_t, .inr (0, [.long v_wholeOfAll, .ref h_parts, .ref h_rows, .ref h_outs, .ref h_minors])), (h_p0, .inr (2, [.int v_p0_units, .ref h_p0_settings, .ref h_p0_yesLeads, .ref h_p0_noLeads, .ref h_p0_percents, .ref h_p0_grades, .ref h_p0_gradeKinds, .ref h_p0_gradePurities, .ref h_p0_gradePrices])), (h_p1, .inl (cI, 5, .inl a_p1)), (h_rows, .inl (cI, 25, .inl u_19.2.2)), (h_outs, .inl (cI, 25, .inl u_19.2.1)), (h_p0_percents, .inl (cI, 75, .inl a_p0_percents)), (h_p0_yesLeads, .inl (cI, 5, .inl a_p0_yesLeads)), (h_p0_noLeads, .inl (cI, 5, .inl a_p0_noLeads))]) X hE hP hD hS hA (kX0_send l D cB cI cJ cZ rz n H.size h_t h_outs h_rows h_parts h_minors v_wholeOfAll u_16.2.1 u_16.2.2 x4 (a_p0_noLeads (x4).toNatClampNeg) ((100 : Int32) - u_8.1) hn_18) w_2_200 w_2_202 ws_28 w_1_5 w_2_203 cb_X0_send rfl rfl ⟨Nat.le_of_ble_eq_true rfl, Nat.le_of_ble_eq_true rfl⟩ rfl hl.1 rfl (Nat.le_of_ble_eq_true rfl) dX0_layRows_88 ⟨Nat.le_of_ble_eq_true rfl, Nat.le_of_ble_eq_true rfl⟩ (c2 := 0) (s2 := 0) rfl rfl (k0 := 0) rfl rfl [0, 4, 3] [1, 2, 5, 6, 7] [5, 0, 1, 7, 6, 2, 3, 4] rfl rfl (by decide) (by decide) (by decide) (by decide) (fun _ => rfl) (fun u_19 H locs hG hP hD hS => ?_)
      replace hF := bdQ hG hF
      obtain ⟨x_20, ex_20⟩ : ∃ y : Int32, y = x4 + (1 : Int32) := ⟨_, rfl⟩
      replace hF := ltP ex_20 hF
      refine lv_iinc (v := x_20) (lv' := [(4, .int x_20), (5, .int u_8.1), (0, .ref h_t), (1, .ref h_p0), (2, .ref h_p1), (3, .int x3)]) hx hb dX0_layRows_91 hl (k := 5) rfl (by rw [ex_20]; rfl) (by decide) rfl (fun ls hl => ?_)
      refine lv_goto (tgt := 19) hx hb dX0_layRows_94 (by decide) ?_
      exact ih19 u_19.2.2 u_19.2.1 x3 x_20 H locs ls hF hP hD hS (lv_sub hl [2, 3, 4, 5, 0] rfl)
  have Lc19 : ∀ (j : Nat), ∀ (a_rows : Nat → Int32) (a_outs : Nat → Int32) (x3 : Int32) (x4 : Int32) (H : Heap) (locs : List Loc) (ls : Array Slot), FX0_layRows_19L n v_p0_units a_p1 a_p0_percents a_p0_yesLeads a_p0_noLeads z3 j a_rows a_outs x3 x4 = O → va_P D classes [(h_t, .inr (0, [.long v_wholeOfAll, .ref h_parts, .ref h_rows, .ref h_outs, .ref h_minors])), (h_p0, .inr (2, [.int v_p0_units, .ref h_p0_settings, .ref h_p0_yesLeads, .ref h_p0_noLeads, .ref h_p0_percents, .ref h_p0_grades, .ref h_p0_gradeKinds, .ref h_p0_gradePurities, .ref h_p0_gradePrices])), (h_p1, .inl (cI, 5, .inl a_p1)), (h_rows, .inl (cI, 25, .inl a_rows)), (h_outs, .inl (cI, 25, .inl a_outs)), (h_p0_percents, .inl (cI, 75, .inl a_p0_percents)), (h_p0_yesLeads, .inl (cI, 5, .inl a_p0_yesLeads)), (h_p0_noLeads, .inl (cI, 5, .inl a_p0_noLeads))] H → va_D A [(h_t, .inr (0, [.long v_wholeOfAll, .ref h_parts, .ref h_rows, .ref h_outs, .ref h_minors])), (h_p0, .inr (2, [.int v_p0_units, .ref h_p0_settings, .ref h_p0_yesLeads, .ref h_p0_noLeads, .ref h_p0_percents, .ref h_p0_grades, .ref h_p0_gradeKinds, .ref h_p0_gradePurities, .ref h_p0_gradePrices])), (h_p1, .inl (cI, 5, .inl a_p1)), (h_rows, .inl (cI, 25, .inl a_rows)), (h_outs, .inl (cI, 25, .inl a_outs)), (h_p0_percents, .inl (cI, 75, .inl a_p0_percents)), (h_p0_yesLeads, .inl (cI, 5, .inl a_p0_yesLeads)), (h_p0_noLeads, .inl (cI, 5, .inl a_p0_noLeads))] → va_S A s.heap H locs → lv_has ls 6 [(0, .ref h_t), (1, .ref h_p0), (2, .ref h_p1), (3, .int x3), (4, .int x4)] → W p l e rmX0_layRows s m ([.ref h_t, .ref h_p0, .ref h_p1, .int z3] : List Value).toArray below meth c H locs 0 0 Q (F0 m 19 ls []) := by
    intro j
    induction j with
    | zero => intro _ _ _ _ H locs ls hF; exact absurd hF.symm hN
    | succ j ih => exact L19 (FX0_layRows_19L n v_p0_units a_p1 a_p0_percents a_p0_yesLeads a_p0_noLeads z3 j) ih
  unfold FX0_layRows at hF
  obtain ⟨H, hH⟩ : ∃ H, H = s.heap := ⟨_, rfl⟩
  obtain ⟨locs, hlo⟩ : ∃ locs : List Loc, locs = [] := ⟨_, rfl⟩
  have hS : va_S A s.heap H locs := by rw [hH, hlo]; exact hS
  rw [← hH] at hP
  have goal : W p l e rmX0_layRows s m ([.ref h_t, .ref h_p0, .ref h_p1, .int z3] : List Value).toArray below meth c H locs 0 0 Q (F0 m 0 ls []) := by
    refine lv_aload_n hx hb dX0_layRows_0 rfl (lv_at hl 0 rfl) ?_
    refine va_get (D := D) (ci := 0) (C := RX0) (T := TX0) (N := 5) hx hb ha inAX0 hown hK hP 0 rfl rfl 2 (by decide) (ha _ w_1_174) (fun _ h9 => h9) rfl dX0_layRows_1 ?_
    refine lv_iconst (v := 0) hx hb dX0_layRows_4 (by decide) ?_
    have hn_1 := bdN hN hF
    refine callSV (As := [.ref h_rows, .int (0 : Int32)]) (rest := []) (wr := [(h_t, .inr (0, [.long v_wholeOfAll, .ref h_parts, .ref h_rows, .ref h_outs, .ref h_minors])), (h_p0, .inr (2, [.int v_p0_units, .ref h_p0_settings, .ref h_p0_yesLeads, .ref h_p0_noLeads, .ref h_p0_percents, .ref h_p0_grades, .ref h_p0_gradeKinds, .ref h_p0_gradePurities, .ref h_p0_gradePrices])), (h_p1, .inl (cI, 5, .inl a_p1)), (h_outs, .inl (cI, 25, .inl a_outs)), (h_p0_percents, .inl (cI, 75, .inl a_p0_percents)), (h_p0_yesLeads, .inl (cI, 5, .inl a_p0_yesLeads)), (h_p0_noLeads, .inl (cI, 5, .inl a_p0_noLeads))]) (W2 := fun u_2 => [(h_t, .inr (0, [.long v_wholeOfAll, .ref h_parts, .ref h_rows, .ref h_outs, .ref h_minors])), (h_p0, .inr (2, [.int v_p0_units, .ref h_p0_settings, .ref h_p0_yesLeads, .ref h_p0_noLeads, .ref h_p0_percents, .ref h_p0_grades, .ref h_p0_gradeKinds, .ref h_p0_gradePurities, .ref h_p0_gradePrices])), (h_p1, .inl (cI, 5, .inl a_p1)), (h_rows, .inl (cI, 25, .inl u_2.2)), (h_outs, .inl (cI, 25, .inl a_outs)), (h_p0_percents, .inl (cI, 75, .inl a_p0_percents)), (h_p0_yesLeads, .inl (cI, 5, .inl a_p0_yesLeads)), (h_p0_noLeads, .inl (cI, 5, .inl a_p0_noLeads))]) X hE hP hD hS hA (kJ7_fill_53178 l D cB cI cJ cZ rz n H.size 25 h_rows a_rows (0 : Int32) hn_1) w_2_198 w_1_232 w_1_8 w_1_233 cb_J7_fill_53178 rfl rfl ⟨Nat.le_of_ble_eq_true rfl, Nat.le_of_ble_eq_true rfl⟩ rfl hl.1 rfl (Nat.le_of_ble_eq_true rfl) dX0_layRows_5 ⟨Nat.le_of_ble_eq_true rfl, Nat.le_of_ble_eq_true rfl⟩ (c2 := 0) (s2 := 0) rfl rfl [3] [0, 1, 2, 4, 5, 6, 7] [0, 1, 2, 7, 3, 4, 5, 6] rfl rfl (by decide) (by decide) (by decide) (by decide) (fun _ => rfl) (fun u_2 H locs hG hP hD hS => ?_)
    replace hF := bdQ hG hF
    refine lv_aload_n hx hb dX0_layRows_8 rfl (lv_at hl 0 rfl) ?_
    refine va_get (D := D) (ci := 0) (C := RX0) (T := TX0) (N := 5) hx hb ha inAX0 hown hK hP 0 rfl rfl 3 (by decide) (ha _ w_1_175) (fun _ h9 => h9) rfl dX0_layRows_9 ?_
    refine lv_iconst (v := 0) hx hb dX0_layRows_12 (by decide) ?_
    have hn_3 := bdN hN hF
    refine callSV (As := [.ref h_outs, .int (0 : Int32)]) (rest := []) (wr := [(h_t, .inr (0, [.long v_wholeOfAll, .ref h_parts, .ref h_rows, .ref h_outs, .ref h_minors])), (h_p0, .inr (2, [.int v_p0_units, .ref h_p0_settings, .ref h_p0_yesLeads, .ref h_p0_noLeads, .ref h_p0_percents, .ref h_p0_grades, .ref h_p0_gradeKinds, .ref h_p0_gradePurities, .ref h_p0_gradePrices])), (h_p1, .inl (cI, 5, .inl a_p1)), (h_rows, .inl (cI, 25, .inl u_2.2)), (h_p0_percents, .inl (cI, 75, .inl a_p0_percents)), (h_p0_yesLeads, .inl (cI, 5, .inl a_p0_yesLeads)), (h_p0_noLeads, .inl (cI, 5, .inl a_p0_noLeads))]) (W2 := fun u_4 => [(h_t, .inr (0, [.long v_wholeOfAll, .ref h_parts, .ref h_rows, .ref h_outs, .ref h_minors])), (h_p0, .inr (2, [.int v_p0_units, .ref h_p0_settings, .ref h_p0_yesLeads, .ref h_p0_noLeads, .ref h_p0_percents, .ref h_p0_grades, .ref h_p0_gradeKinds, .ref h_p0_gradePurities, .ref h_p0_gradePrices])), (h_p1, .inl (cI, 5, .inl a_p1)), (h_rows, .inl (cI, 25, .inl u_2.2)), (h_outs, .inl (cI, 25, .inl u_4.2)), (h_p0_percents, .inl (cI, 75, .inl a_p0_percents)), (h_p0_yesLeads, .inl (cI, 5, .inl a_p0_yesLeads)), (h_p0_noLeads, .inl (cI, 5, .inl a_p0_noLeads))]) X hE hP hD hS hA (kJ7_fill_53178 l D cB cI cJ cZ rz n H.size 25 h_outs a_outs (0 : Int32) hn_3) w_2_198 w_1_232 w_1_8 w_1_233 cb_J7_fill_53178 rfl rfl ⟨Nat.le_of_ble_eq_true rfl, Nat.le_of_ble_eq_true rfl⟩ rfl hl.1 rfl (Nat.le_of_ble_eq_true rfl) dX0_layRows_13 ⟨Nat.le_of_ble_eq_true rfl, Nat.le_of_ble_eq_true rfl⟩ (c2 := 0) (s2 := 0) rfl rfl [4] [0, 1, 2, 3, 5, 6, 7] [0, 1, 2, 3, 7, 4, 5, 6] rfl rfl (by decide) (by decide) (by decide) (by decide) (fun _ => rfl) (fun u_4 H locs hG hP hD hS => ?_)
    replace hF := bdQ hG hF
    refine lv_iconst (v := 0) hx hb dX0_layRows_16 (by decide) ?_
    refine lv_istore (lv' := [(4, .int (0 : Int32)), (0, .ref h_t), (1, .ref h_p0), (2, .ref h_p1), (3, .int z3)]) hx hb dX0_layRows_17 hl (by decide) rfl (fun ls hl => ?_)
    exact Lc19 n u_2.2 u_4.2 z3 (0 : Int32) H locs ls hF hP hD hS (lv_sub hl [1, 2, 3, 4, 0] rfl)
  rw [hH, hlo] at goal
  exact goal
theorem dJ6_bitCount_0f7a4_0 : decode cJ6_bitCount_0f7a4 0 = .ok (.iload_n 0, 1) := by decide +kernel
theorem dJ6_bitCount_0f7a4_1 : decode cJ6_bitCount_0f7a4 1 = .ok (.iload_n 0, 1) := by decide +kernel
theorem dJ6_bitCount_0f7a4_2 : decode cJ6_bitCount_0f7a4 2 = .ok (.iconst 1, 1) := by decide +kernel
theorem dJ6_bitCount_0f7a4_3 : decode cJ6_bitCount_0f7a4 3 = .ok (.iushr, 1) := by decide +kernel
theorem dJ6_bitCount_0f7a4_4 : decode cJ6_bitCount_0f7a4 4 = .ok (.ldc_w 265, 3) := by decide +kernel
theorem dJ6_bitCount_0f7a4_7 : decode cJ6_bitCount_0f7a4 7 = .ok (.iand, 1) := by decide +kernel
theorem dJ6_bitCount_0f7a4_8 : decode cJ6_bitCount_0f7a4 8 = .ok (.isub, 1) := by decide +kernel
theorem dJ6_bitCount_0f7a4_9 : decode cJ6_bitCount_0f7a4 9 = .ok (.istore_n 0, 1) := by decide +kernel
theorem dJ6_bitCount_0f7a4_10 : decode cJ6_bitCount_0f7a4 10 = .ok (.iload_n 0, 1) := by decide +kernel
theorem dJ6_bitCount_0f7a4_11 : decode cJ6_bitCount_0f7a4 11 = .ok (.ldc_w 266, 3) := by decide +kernel
theorem dJ6_bitCount_0f7a4_14 : decode cJ6_bitCount_0f7a4 14 = .ok (.iand, 1) := by decide +kernel
theorem dJ6_bitCount_0f7a4_15 : decode cJ6_bitCount_0f7a4 15 = .ok (.iload_n 0, 1) := by decide +kernel
theorem dJ6_bitCount_0f7a4_16 : decode cJ6_bitCount_0f7a4 16 = .ok (.iconst 2, 1) := by decide +kernel
theorem dJ6_bitCount_0f7a4_17 : decode cJ6_bitCount_0f7a4 17 = .ok (.iushr, 1) := by decide +kernel
theorem dJ6_bitCount_0f7a4_18 : decode cJ6_bitCount_0f7a4 18 = .ok (.ldc_w 266, 3) := by decide +kernel
theorem dJ6_bitCount_0f7a4_21 : decode cJ6_bitCount_0f7a4 21 = .ok (.iand, 1) := by decide +kernel
theorem dJ6_bitCount_0f7a4_22 : decode cJ6_bitCount_0f7a4 22 = .ok (.iadd, 1) := by decide +kernel
theorem dJ6_bitCount_0f7a4_23 : decode cJ6_bitCount_0f7a4 23 = .ok (.istore_n 0, 1) := by decide +kernel
theorem dJ6_bitCount_0f7a4_24 : decode cJ6_bitCount_0f7a4 24 = .ok (.iload_n 0, 1) := by decide +kernel
theorem dJ6_bitCount_0f7a4_25 : decode cJ6_bitCount_0f7a4 25 = .ok (.iload_n 0, 1) := by decide +kernel
theorem dJ6_bitCount_0f7a4_26 : decode cJ6_bitCount_0f7a4 26 = .ok (.iconst 4, 1) := by decide +kernel
theorem dJ6_bitCount_0f7a4_27 : decode cJ6_bitCount_0f7a4 27 = .ok (.iushr, 1) := by decide +kernel
theorem dJ6_bitCount_0f7a4_28 : decode cJ6_bitCount_0f7a4 28 = .ok (.iadd, 1) := by decide +kernel
theorem dJ6_bitCount_0f7a4_29 : decode cJ6_bitCount_0f7a4 29 = .ok (.ldc_w 267, 3) := by decide +kernel
theorem dJ6_bitCount_0f7a4_32 : decode cJ6_bitCount_0f7a4 32 = .ok (.iand, 1) := by decide +kernel
theorem dJ6_bitCount_0f7a4_33 : decode cJ6_bitCount_0f7a4 33 = .ok (.istore_n 0, 1) := by decide +kernel
theorem dJ6_bitCount_0f7a4_34 : decode cJ6_bitCount_0f7a4 34 = .ok (.iload_n 0, 1) := by decide +kernel
theorem dJ6_bitCount_0f7a4_35 : decode cJ6_bitCount_0f7a4 35 = .ok (.iload_n 0, 1) := by decide +kernel
theorem dJ6_bitCount_0f7a4_36 : decode cJ6_bitCount_0f7a4 36 = .ok (.bipush 8, 2) := by decide +kernel
theorem dJ6_bitCount_0f7a4_38 : decode cJ6_bitCount_0f7a4 38 = .ok (.iushr, 1) := by decide +kernel
theorem dJ6_bitCount_0f7a4_39 : decode cJ6_bitCount_0f7a4 39 = .ok (.iadd, 1) := by decide +kernel
theorem dJ6_bitCount_0f7a4_40 : decode cJ6_bitCount_0f7a4 40 = .ok (.istore_n 0, 1) := by decide +kernel
theorem dJ6_bitCount_0f7a4_41 : decode cJ6_bitCount_0f7a4 41 = .ok (.iload_n 0, 1) := by decide +kernel
theorem dJ6_bitCount_0f7a4_42 : decode cJ6_bitCount_0f7a4 42 = .ok (.iload_n 0, 1) := by decide +kernel
theorem dJ6_bitCount_0f7a4_43 : decode cJ6_bitCount_0f7a4 43 = .ok (.bipush 16, 2) := by decide +kernel
theorem dJ6_bitCount_0f7a4_45 : decode cJ6_bitCount_0f7a4 45 = .ok (.iushr, 1) := by decide +kernel
theorem dJ6_bitCount_0f7a4_46 : decode cJ6_bitCount_0f7a4 46 = .ok (.iadd, 1) := by decide +kernel
theorem dJ6_bitCount_0f7a4_47 : decode cJ6_bitCount_0f7a4 47 = .ok (.istore_n 0, 1) := by decide +kernel
theorem dJ6_bitCount_0f7a4_48 : decode cJ6_bitCount_0f7a4 48 = .ok (.iload_n 0, 1) := by decide +kernel
theorem dJ6_bitCount_0f7a4_49 : decode cJ6_bitCount_0f7a4 49 = .ok (.bipush 63, 2) := by decide +kernel
theorem dJ6_bitCount_0f7a4_51 : decode cJ6_bitCount_0f7a4 51 = .ok (.iand, 1) := by decide +kernel
theorem dJ6_bitCount_0f7a4_52 : decode cJ6_bitCount_0f7a4 52 = .ok (.ireturn, 1) := by decide +kernel
abbrev rmJ6_bitCount_0f7a4 : Room := { frames := 0, cells := 0, slots := 0, locals := 0 }
theorem cb_J6_bitCount_0f7a4 : CBn yJ6_bitCount_0f7a4 1 := ⟨by decide +kernel, by decide +kernel, by decide +kernel⟩
def FJ6_bitCount_0f7a4 (n : Nat) (z0 : Int32) : Option (Int32 × Unit) := lt1 (z0 - (((z0).toUInt32 >>> (((1 : Int32)).toUInt32 &&& Int32.toUInt32 31)).toInt32 &&& (1431655765 : Int32))) (fun x_1 => lt1 ((x_1 &&& (858993459 : Int32)) + (((x_1).toUInt32 >>> (((2 : Int32)).toUInt32 &&& Int32.toUInt32 31)).toInt32 &&& (858993459 : Int32))) (fun x_2 => lt1 ((x_2 + ((x_2).toUInt32 >>> (((4 : Int32)).toUInt32 &&& Int32.toUInt32 31)).toInt32) &&& (252645135 : Int32)) (fun x_3 => lt1 (x_3 + ((x_3).toUInt32 >>> (((8 : Int32)).toUInt32 &&& Int32.toUInt32 31)).toInt32) (fun x_4 => lt1 (x_4 + ((x_4).toUInt32 >>> (((16 : Int32)).toUInt32 &&& Int32.toUInt32 31)).toInt32) (fun x_5 => some ((x_5 &&& (63 : Int32)), ()))))))
set_option maxHeartbeats 4000000 in
set_option maxRecDepth 100000 in
theorem kJ6_bitCount_0f7a4 (l : Launch) (D : va_G) (cB cI cJ cZ : ClassId) (rz n sz : Nat) (z0 : Int32) (hN : FJ6_bitCount_0f7a4 n z0 ≠ none) : Met l yJ6_bitCount_0f7a4 (Cond.code yJ6_bitCount_0f7a4 cJ6_bitCount_0f7a4 1 (some .int) :: AL) rmJ6_bitCount_0f7a4 (PW D cB cI cJ cZ rz [.int z0] [] sz) (QI D (FJ6_bitCount_0f7a4 n z0) (fun u => []) (va_A [] sz)) 0 0 (va_A [] sz) := by
  obtain ⟨O, hF⟩ : ∃ O, FJ6_bitCount_0f7a4 n z0 = O := ⟨_, rfl⟩
  rw [hF] at hN ⊢
  refine enterI (cc := cJ6_bitCount_0f7a4) (nL := 1) (by decide) (Nat.le_of_ble_eq_true rfl) ?_
  intro p e s m below meth c A Q X hA hE hnm hsz hP hD hS hret ls hl
  obtain ⟨hx, hb, hml, hown0, ha⟩ := id X
  have hown : s.vm.findClass RJ6 = some m.cls := hown0
  have hK := hE.1
  have hl : lv_has ls 1 [(0, .int z0)] := hl
  have hX : CallFix p m c cJ6_bitCount_0f7a4 1 s ([.int z0] : List Value).toArray AL RJ6 := X
  have X := hX
  unfold FJ6_bitCount_0f7a4 at hF
  obtain ⟨H, hH⟩ : ∃ H, H = s.heap := ⟨_, rfl⟩
  obtain ⟨locs, hlo⟩ : ∃ locs : List Loc, locs = [] := ⟨_, rfl⟩
  have hS : va_S A s.heap H locs := by rw [hH, hlo]; exact hS
  rw [← hH] at hP
  have goal : W p l e rmJ6_bitCount_0f7a4 s m ([.int z0] : List Value).toArray below meth c H locs 0 0 Q (F0 m 0 ls []) := by
    refine lv_iload_n hx hb dJ6_bitCount_0f7a4_0 rfl (lv_at hl 0 rfl) ?_
    refine lv_iload_n hx hb dJ6_bitCount_0f7a4_1 rfl (lv_at hl 0 rfl) ?_
    refine lv_iconst (v := 1) hx hb dJ6_bitCount_0f7a4_2 (by decide) ?_
    refine lv_iushr hx hb dJ6_bitCount_0f7a4_3 rfl ?_
    refine lv_ldcw hx hb hown (ha _ w_2_211) dJ6_bitCount_0f7a4_4 ?_
    refine lv_iand hx hb dJ6_bitCount_0f7a4_7 ?_
    refine lv_isub hx hb dJ6_bitCount_0f7a4_8 ?_
    refine lv_topi (fun x_1 ex_1 => ?_)
    replace hF := ltP ex_1 hF
    refine lv_istore_n (lv' := [(0, .int x_1)]) hx hb dJ6_bitCount_0f7a4_9 rfl hl (by decide) rfl (fun ls hl => ?_)
    refine lv_iload_n hx hb dJ6_bitCount_0f7a4_10 rfl (lv_at hl 0 rfl) ?_
    refine lv_ldcw hx hb hown (ha _ w_2_212) dJ6_bitCount_0f7a4_11 ?_
    refine lv_iand hx hb dJ6_bitCount_0f7a4_14 ?_
    refine lv_iload_n hx hb dJ6_bitCount_0f7a4_15 rfl (lv_at hl 0 rfl) ?_
    refine lv_iconst (v := 2) hx hb dJ6_bitCount_0f7a4_16 (by decide) ?_
    refine lv_iushr hx hb dJ6_bitCount_0f7a4_17 rfl ?_
    refine lv_ldcw hx hb hown (ha _ w_2_212) dJ6_bitCount_0f7a4_18 ?_
    refine lv_iand hx hb dJ6_bitCount_0f7a4_21 ?_
    refine lv_iadd hx hb dJ6_bitCount_0f7a4_22 ?_
    refine lv_topi (fun x_2 ex_2 => ?_)
    replace hF := ltP ex_2 hF
    refine lv_istore_n (lv' := [(0, .int x_2)]) hx hb dJ6_bitCount_0f7a4_23 rfl hl (by decide) rfl (fun ls hl => ?_)
    refine lv_iload_n hx hb dJ6_bitCount_0f7a4_24 rfl (lv_at hl 0 rfl) ?_
    refine lv_iload_n hx hb dJ6_bitCount_0f7a4_25 rfl (lv_at hl 0 rfl) ?_
    refine lv_iconst (v := 4) hx hb dJ6_bitCount_0f7a4_26 (by decide) ?_
    refine lv_iushr hx hb dJ6_bitCount_0f7a4_27 rfl ?_
    refine lv_iadd hx hb dJ6_bitCount_0f7a4_28 ?_
    refine lv_ldcw hx hb hown (ha _ w_2_213) dJ6_bitCount_0f7a4_29 ?_
    refine lv_iand hx hb dJ6_bitCount_0f7a4_32 ?_
    refine lv_topi (fun x_3 ex_3 => ?_)
    replace hF := ltP ex_3 hF
    refine lv_istore_n (lv' := [(0, .int x_3)]) hx hb dJ6_bitCount_0f7a4_33 rfl hl (by decide) rfl (fun ls hl => ?_)
    refine lv_iload_n hx hb dJ6_bitCount_0f7a4_34 rfl (lv_at hl 0 rfl) ?_
    refine lv_iload_n hx hb dJ6_bitCount_0f7a4_35 rfl (lv_at hl 0 rfl) ?_
    refine lv_bipush (v := 8) hx hb dJ6_bitCount_0f7a4_36 (by decide) ?_
    refine lv_iushr hx hb dJ6_bitCount_0f7a4_38 rfl ?_
    refine lv_iadd hx hb dJ6_bitCount_0f7a4_39 ?_
    refine lv_topi (fun x_4 ex_4 => ?_)
    replace hF := ltP ex_4 hF
    refine lv_istore_n (lv' := [(0, .int x_4)]) hx hb dJ6_bitCount_0f7a4_40 rfl hl (by decide) rfl (fun ls hl => ?_)
    refine lv_iload_n hx hb dJ6_bitCount_0f7a4_41 rfl (lv_at hl 0 rfl) ?_
    refine lv_iload_n hx hb dJ6_bitCount_0f7a4_42 rfl (lv_at hl 0 rfl) ?_
    refine lv_bipush (v := 16) hx hb dJ6_bitCount_0f7a4_43 (by decide) ?_
    refine lv_iushr hx hb dJ6_bitCount_0f7a4_45 rfl ?_
    refine lv_iadd hx hb dJ6_bitCount_0f7a4_46 ?_
    refine lv_topi (fun x_5 ex_5 => ?_)
    replace hF := ltP ex_5 hF
    refine lv_istore_n (lv' := [(0, .int x_5)]) hx hb dJ6_bitCount_0f7a4_47 rfl hl (by decide) rfl (fun ls hl => ?_)
    refine lv_iload_n hx hb dJ6_bitCount_0f7a4_48 rfl (lv_at hl 0 rfl) ?_
    refine lv_bipush (v := 63) hx hb dJ6_bitCount_0f7a4_49 (by decide) ?_
    refine lv_iand hx hb dJ6_bitCount_0f7a4_51 ?_
    exact hret ((x_5 &&& (63 : Int32)), ()) H locs ls _ hF hP hD hS dJ6_bitCount_0f7a4_52
  rw [hH, hlo] at goal
  exact goal
