theorem dX2_init_0 : decode cX2_init 0 = .ok (.aload_n 0, 1) := by decide +kernel
theorem dX2_init_1 : decode cX2_init 1 = .ok (.invokespecial 3, 3) := by decide +kernel
theorem dX2_init_4 : decode cX2_init 4 = .ok (.aload_n 0, 1) := by decide +kernel
theorem dX2_init_5 : decode cX2_init 5 = .ok (.iconst 5, 1) := by decide +kernel
theorem dX2_init_6 : decode cX2_init 6 = .ok (.newarray .int, 2) := by decide +kernel
theorem dX2_init_8 : decode cX2_init 8 = .ok (.putfield 9, 3) := by decide +kernel
theorem dX2_init_11 : decode cX2_init 11 = .ok (.aload_n 0, 1) := by decide +kernel
theorem dX2_init_12 : decode cX2_init 12 = .ok (.iconst 5, 1) := by decide +kernel
theorem dX2_init_13 : decode cX2_init 13 = .ok (.newarray .int, 2) := by decide +kernel
theorem dX2_init_15 : decode cX2_init 15 = .ok (.putfield 15, 3) := by decide +kernel
theorem dX2_init_18 : decode cX2_init 18 = .ok (.aload_n 0, 1) := by decide +kernel
theorem dX2_init_19 : decode cX2_init 19 = .ok (.iconst 5, 1) := by decide +kernel
theorem dX2_init_20 : decode cX2_init 20 = .ok (.newarray .int, 2) := by decide +kernel
theorem dX2_init_22 : decode cX2_init 22 = .ok (.putfield 18, 3) := by decide +kernel
theorem dX2_init_25 : decode cX2_init 25 = .ok (.aload_n 0, 1) := by decide +kernel
theorem dX2_init_26 : decode cX2_init 26 = .ok (.bipush 75, 2) := by decide +kernel
theorem dX2_init_28 : decode cX2_init 28 = .ok (.newarray .int, 2) := by decide +kernel
theorem dX2_init_30 : decode cX2_init 30 = .ok (.putfield 21, 3) := by decide +kernel
theorem dX2_init_33 : decode cX2_init 33 = .ok (.aload_n 0, 1) := by decide +kernel
theorem dX2_init_34 : decode cX2_init 34 = .ok (.iconst 4, 1) := by decide +kernel
theorem dX2_init_35 : decode cX2_init 35 = .ok (.newarray .int, 2) := by decide +kernel
theorem dX2_init_37 : decode cX2_init 37 = .ok (.putfield 24, 3) := by decide +kernel
theorem dX2_init_40 : decode cX2_init 40 = .ok (.aload_n 0, 1) := by decide +kernel
theorem dX2_init_41 : decode cX2_init 41 = .ok (.iconst 4, 1) := by decide +kernel
theorem dX2_init_42 : decode cX2_init 42 = .ok (.newarray .int, 2) := by decide +kernel
theorem dX2_init_44 : decode cX2_init 44 = .ok (.putfield 27, 3) := by decide +kernel
theorem dX2_init_47 : decode cX2_init 47 = .ok (.aload_n 0, 1) := by decide +kernel
theorem dX2_init_48 : decode cX2_init 48 = .ok (.bipush 16, 2) := by decide +kernel
theorem dX2_init_50 : decode cX2_init 50 = .ok (.newarray .int, 2) := by decide +kernel
theorem dX2_init_52 : decode cX2_init 52 = .ok (.putfield 30, 3) := by decide +kernel
theorem dX2_init_55 : decode cX2_init 55 = .ok (.aload_n 0, 1) := by decide +kernel
theorem dX2_init_56 : decode cX2_init 56 = .ok (.bipush 16, 2) := by decide +kernel
theorem dX2_init_58 : decode cX2_init 58 = .ok (.newarray .int, 2) := by decide +kernel
theorem dX2_init_60 : decode cX2_init 60 = .ok (.putfield 33, 3) := by decide +kernel
theorem dX2_init_63 : decode cX2_init 63 = .ok (.return_, 1) := by decide +kernel
abbrev rmX2_init : Room := { frames := 1, cells := 8, slots := 130, locals := 12 }
theorem cb_X2_init : CBn yX2_init 0 := ⟨by decide +kernel, by decide +kernel, by decide +kernel⟩
def FX2_init (n : Nat) : Option (Unit × Unit) := some ((), ())
set_option maxHeartbeats 4000000 in
set_option maxRecDepth 100000 in
theorem kX2_init (l : Launch) (D : va_G) (cB cI cJ cZ : ClassId) (rz n sz : Nat) (h_t : Nat) (hN : FX2_init n ≠ none) : Met l yX2_init (Cond.code yX2_init cX2_init 1 none :: AL) rmX2_init (PW D cB cI cJ cZ rz [.ref h_t] [(h_t, .inr (2, [.int (0 : Int32), .null, .null, .null, .null, .null, .null, .null, .null]))] sz) (QN D (FX2_init n) (fun u q => [(h_t, .inr (2, [.int (0 : Int32), .ref (q.getD 0 0), .ref (q.getD 1 0), .ref (q.getD 2 0), .ref (q.getD 3 0), .ref (q.getD 4 0), .ref (q.getD 5 0), .ref (q.getD 6 0), .ref (q.getD 7 0)])), ((q.getD 0 0), .inl (cI, 5, .inl (fun _ => 0))), ((q.getD 1 0), .inl (cI, 5, .inl (fun _ => 0))), ((q.getD 2 0), .inl (cI, 5, .inl (fun _ => 0))), ((q.getD 3 0), .inl (cI, 75, .inl (fun _ => 0))), ((q.getD 4 0), .inl (cI, 4, .inl (fun _ => 0))), ((q.getD 5 0), .inl (cI, 4, .inl (fun _ => 0))), ((q.getD 6 0), .inl (cI, 16, .inl (fun _ => 0))), ((q.getD 7 0), .inl (cI, 16, .inl (fun _ => 0)))]) 8 (va_A [(h_t, .inr (2, [.int (0 : Int32), .null, .null, .null, .null, .null, .null, .null, .null]))] sz)) 8 130 (va_A [(h_t, .inr (2, [.int (0 : Int32), .null, .null, .null, .null, .null, .null, .null, .null]))] sz) := by
  obtain ⟨O, hF⟩ : ∃ O, FX2_init n = O := ⟨_, rfl⟩
  rw [hF] at hN ⊢
  refine enterN (cc := cX2_init) (nL := 1) (by decide) (Nat.le_of_ble_eq_true rfl) ?_
  intro p e s m below meth c A Q X hA hE hnm hsz hP hD hS hret ls hl
  obtain ⟨hx, hb, hml, hown0, ha⟩ := id X
  have hown : s.vm.findClass RX2 = some m.cls := hown0
  have hK := hE.1
  have hl : lv_has ls 1 [(0, .ref h_t)] := hl
  have hX : CallFix p m c cX2_init 1 s ([.ref h_t] : List Value).toArray AL RX2 := X
  have X := hX
  unfold FX2_init at hF
  obtain ⟨H, hH⟩ : ∃ H, H = s.heap := ⟨_, rfl⟩
  obtain ⟨locs, hlo⟩ : ∃ locs : List Loc, locs = [] := ⟨_, rfl⟩
  have hS : va_S A s.heap H locs := by rw [hH, hlo]; exact hS
  rw [← hH] at hP
  have goal : W p l e rmX2_init s m ([.ref h_t] : List Value).toArray below meth c H locs 0 0 Q (F0 m 0 ls []) := by
    refine lv_aload_n hx hb dX2_init_0 rfl (lv_at hl 0 rfl) ?_
    refine W.objInit hx hb hown (ha _ w_1_26) (ha _ w_1_19) (ha _ w_1_20) rfl (by rw [hml]; exact hl.1) rfl dX2_init_1 (Nat.le_of_ble_eq_true rfl) (Nat.le_of_ble_eq_true rfl) ?_
    refine W.eq (g2 := F0 m 4 ls []) rfl ?_
    refine lv_aload_n hx hb dX2_init_4 rfl (lv_at hl 0 rfl) ?_
    refine lv_iconst (v := 5) hx hb dX2_init_5 (by decide) ?_
    refine nw_i (N' := 5) hx hb (ha _ w_1_73) hK hP hD hS hA (by decide) (by decide) (by decide) (Nat.le_of_ble_eq_true rfl) (Nat.le_of_ble_eq_true rfl) (c2 := 1) (s2 := 5) rfl rfl dX2_init_6 (fun q_1 H hP hD hS => ?_)
    have hP : va_P D classes [(h_t, .inr (2, [.int (0 : Int32), .null, .null, .null, .null, .null, .null, .null, .null])), (q_1, .inl (cI, 5, .inl (fun _ => 0)))] H := hP
    have hD : va_D A [(h_t, .inr (2, [.int (0 : Int32), .null, .null, .null, .null, .null, .null, .null, .null])), (q_1, .inl (cI, 5, .inl (fun _ => 0)))] := hD
    refine ptF (C := RX2) (T := TX2) (N := 9) (ci := 2) (v := .ref q_1) (W2 := [(h_t, .inr (2, [.int (0 : Int32), .ref q_1, .null, .null, .null, .null, .null, .null, .null])), (q_1, .inl (cI, 5, .inl (fun _ => 0)))]) hx hb ha inAX2 tyX2 tyX2_ok nmX2 hown hK hP hD hS 0 rfl rfl 1 (by decide) (ha _ w_1_31) rfl rfl hnm rfl rfl rfl (Nat.le_of_ble_eq_true rfl) dX2_init_8 rfl (fun H locs hP hD hS => ?_)
    refine lv_aload_n hx hb dX2_init_11 rfl (lv_at hl 0 rfl) ?_
    refine lv_iconst (v := 5) hx hb dX2_init_12 (by decide) ?_
    refine nw_i (N' := 5) hx hb (ha _ w_1_73) hK hP hD hS hA (by decide) (by decide) (by decide) (Nat.le_of_ble_eq_true rfl) (Nat.le_of_ble_eq_true rfl) (c2 := 2) (s2 := 10) rfl rfl dX2_init_13 (fun q_2 H hP hD hS => ?_)
    have hP : va_P D classes [(h_t, .inr (2, [.int (0 : Int32), .ref q_1, .null, .null, .null, .null, .null, .null, .null])), (q_1, .inl (cI, 5, .inl (fun _ => 0))), (q_2, .inl (cI, 5, .inl (fun _ => 0)))] H := hP
    have hD : va_D A [(h_t, .inr (2, [.int (0 : Int32), .ref q_1, .null, .null, .null, .null, .null, .null, .null])), (q_1, .inl (cI, 5, .inl (fun _ => 0))), (q_2, .inl (cI, 5, .inl (fun _ => 0)))] := hD
    refine ptF (C := RX2) (T := TX2) (N := 9) (ci := 2) (v := .ref q_2) (W2 := [(h_t, .inr (2, [.int (0 : Int32), .ref q_1, .ref q_2, .null, .null, .null, .null, .null, .null])), (q_1, .inl (cI, 5, .inl (fun _ => 0))), (q_2, .inl (cI, 5, .inl (fun _ => 0)))]) hx hb ha inAX2 tyX2 tyX2_ok nmX2 hown hK hP hD hS 0 rfl rfl 2 (by decide) (ha _ w_1_34) rfl rfl hnm rfl rfl rfl (Nat.le_of_ble_eq_true rfl) dX2_init_15 rfl (fun H locs hP hD hS => ?_)
    refine lv_aload_n hx hb dX2_init_18 rfl (lv_at hl 0 rfl) ?_
    refine lv_iconst (v := 5) hx hb dX2_init_19 (by decide) ?_
    refine nw_i (N' := 5) hx hb (ha _ w_1_73) hK hP hD hS hA (by decide) (by decide) (by decide) (Nat.le_of_ble_eq_true rfl) (Nat.le_of_ble_eq_true rfl) (c2 := 3) (s2 := 15) rfl rfl dX2_init_20 (fun q_3 H hP hD hS => ?_)
    have hP : va_P D classes [(h_t, .inr (2, [.int (0 : Int32), .ref q_1, .ref q_2, .null, .null, .null, .null, .null, .null])), (q_1, .inl (cI, 5, .inl (fun _ => 0))), (q_2, .inl (cI, 5, .inl (fun _ => 0))), (q_3, .inl (cI, 5, .inl (fun _ => 0)))] H := hP
    have hD : va_D A [(h_t, .inr (2, [.int (0 : Int32), .ref q_1, .ref q_2, .null, .null, .null, .null, .null, .null])), (q_1, .inl (cI, 5, .inl (fun _ => 0))), (q_2, .inl (cI, 5, .inl (fun _ => 0))), (q_3, .inl (cI, 5, .inl (fun _ => 0)))] := hD
    refine ptF (C := RX2) (T := TX2) (N := 9) (ci := 2) (v := .ref q_3) (W2 := [(h_t, .inr (2, [.int (0 : Int32), .ref q_1, .ref q_2, .ref q_3, .null, .null, .null, .null, .null])), (q_1, .inl (cI, 5, .inl (fun _ => 0))), (q_2, .inl (cI, 5, .inl (fun _ => 0))), (q_3, .inl (cI, 5, .inl (fun _ => 0)))]) hx hb ha inAX2 tyX2 tyX2_ok nmX2 hown hK hP hD hS 0 rfl rfl 3 (by decide) (ha _ w_1_38) rfl rfl hnm rfl rfl rfl (Nat.le_of_ble_eq_true rfl) dX2_init_22 rfl (fun H locs hP hD hS => ?_)
    refine lv_aload_n hx hb dX2_init_25 rfl (lv_at hl 0 rfl) ?_
    refine lv_bipush (v := 75) hx hb dX2_init_26 (by decide) ?_
    refine nw_i (N' := 75) hx hb (ha _ w_1_73) hK hP hD hS hA (by decide) (by decide) (by decide) (Nat.le_of_ble_eq_true rfl) (Nat.le_of_ble_eq_true rfl) (c2 := 4) (s2 := 90) rfl rfl dX2_init_28 (fun q_4 H hP hD hS => ?_)
    have hP : va_P D classes [(h_t, .inr (2, [.int (0 : Int32), .ref q_1, .ref q_2, .ref q_3, .null, .null, .null, .null, .null])), (q_1, .inl (cI, 5, .inl (fun _ => 0))), (q_2, .inl (cI, 5, .inl (fun _ => 0))), (q_3, .inl (cI, 5, .inl (fun _ => 0))), (q_4, .inl (cI, 75, .inl (fun _ => 0)))] H := hP
    have hD : va_D A [(h_t, .inr (2, [.int (0 : Int32), .ref q_1, .ref q_2, .ref q_3, .null, .null, .null, .null, .null])), (q_1, .inl (cI, 5, .inl (fun _ => 0))), (q_2, .inl (cI, 5, .inl (fun _ => 0))), (q_3, .inl (cI, 5, .inl (fun _ => 0))), (q_4, .inl (cI, 75, .inl (fun _ => 0)))] := hD
    refine ptF (C := RX2) (T := TX2) (N := 9) (ci := 2) (v := .ref q_4) (W2 := [(h_t, .inr (2, [.int (0 : Int32), .ref q_1, .ref q_2, .ref q_3, .ref q_4, .null, .null, .null, .null])), (q_1, .inl (cI, 5, .inl (fun _ => 0))), (q_2, .inl (cI, 5, .inl (fun _ => 0))), (q_3, .inl (cI, 5, .inl (fun _ => 0))), (q_4, .inl (cI, 75, .inl (fun _ => 0)))]) hx hb ha inAX2 tyX2 tyX2_ok nmX2 hown hK hP hD hS 0 rfl rfl 4 (by decide) (ha _ w_1_42) rfl rfl hnm rfl rfl rfl (Nat.le_of_ble_eq_true rfl) dX2_init_30 rfl (fun H locs hP hD hS => ?_)
    refine lv_aload_n hx hb dX2_init_33 rfl (lv_at hl 0 rfl) ?_
    refine lv_iconst (v := 4) hx hb dX2_init_34 (by decide) ?_
    refine nw_i (N' := 4) hx hb (ha _ w_1_73) hK hP hD hS hA (by decide) (by decide) (by decide) (Nat.le_of_ble_eq_true rfl) (Nat.le_of_ble_eq_true rfl) (c2 := 5) (s2 := 94) rfl rfl dX2_init_35 (fun q_5 H hP hD hS => ?_)
    have hP : va_P D classes [(h_t, .inr (2, [.int (0 : Int32), .ref q_1, .ref q_2, .ref q_3, .ref q_4, .null, .null, .null, .null])), (q_1, .inl (cI, 5, .inl (fun _ => 0))), (q_2, .inl (cI, 5, .inl (fun _ => 0))), (q_3, .inl (cI, 5, .inl (fun _ => 0))), (q_4, .inl (cI, 75, .inl (fun _ => 0))), (q_5, .inl (cI, 4, .inl (fun _ => 0)))] H := hP
    have hD : va_D A [(h_t, .inr (2, [.int (0 : Int32), .ref q_1, .ref q_2, .ref q_3, .ref q_4, .null, .null, .null, .null])), (q_1, .inl (cI, 5, .inl (fun _ => 0))), (q_2, .inl (cI, 5, .inl (fun _ => 0))), (q_3, .inl (cI, 5, .inl (fun _ => 0))), (q_4, .inl (cI, 75, .inl (fun _ => 0))), (q_5, .inl (cI, 4, .inl (fun _ => 0)))] := hD
    refine ptF (C := RX2) (T := TX2) (N := 9) (ci := 2) (v := .ref q_5) (W2 := [(h_t, .inr (2, [.int (0 : Int32), .ref q_1, .ref q_2, .ref q_3, .ref q_4, .ref q_5, .null, .null, .null])), (q_1, .inl (cI, 5, .inl (fun _ => 0))), (q_2, .inl (cI, 5, .inl (fun _ => 0))), (q_3, .inl (cI, 5, .inl (fun _ => 0))), (q_4, .inl (cI, 75, .inl (fun _ => 0))), (q_5, .inl (cI, 4, .inl (fun _ => 0)))]) hx hb ha inAX2 tyX2 tyX2_ok nmX2 hown hK hP hD hS 0 rfl rfl 5 (by decide) (ha _ w_1_43) rfl rfl hnm rfl rfl rfl (Nat.le_of_ble_eq_true rfl) dX2_init_37 rfl (fun H locs hP hD hS => ?_)
    refine lv_aload_n hx hb dX2_init_40 rfl (lv_at hl 0 rfl) ?_
    refine lv_iconst (v := 4) hx hb dX2_init_41 (by decide) ?_
    refine nw_i (N' := 4) hx hb (ha _ w_1_73) hK hP hD hS hA (by decide) (by decide) (by decide) (Nat.le_of_ble_eq_true rfl) (Nat.le_of_ble_eq_true rfl) (c2 := 6) (s2 := 98) rfl rfl dX2_init_42 (fun q_6 H hP hD hS => ?_)
    have hP : va_P D classes [(h_t, .inr (2, [.int (0 : Int32), .ref q_1, .ref q_2, .ref q_3, .ref q_4, .ref q_5, .null, .null, .null])), (q_1, .inl (cI, 5, .inl (fun _ => 0))), (q_2, .inl (cI, 5, .inl (fun _ => 0))), (q_3, .inl (cI, 5, .inl (fun _ => 0))), (q_4, .inl (cI, 75, .inl (fun _ => 0))), (q_5, .inl (cI, 4, .inl (fun _ => 0))), (q_6, .inl (cI, 4, .inl (fun _ => 0)))] H := hP
    have hD : va_D A [(h_t, .inr (2, [.int (0 : Int32), .ref q_1, .ref q_2, .ref q_3, .ref q_4, .ref q_5, .null, .null, .null])), (q_1, .inl (cI, 5, .inl (fun _ => 0))), (q_2, .inl (cI, 5, .inl (fun _ => 0))), (q_3, .inl (cI, 5, .inl (fun _ => 0))), (q_4, .inl (cI, 75, .inl (fun _ => 0))), (q_5, .inl (cI, 4, .inl (fun _ => 0))), (q_6, .inl (cI, 4, .inl (fun _ => 0)))] := hD
    refine ptF (C := RX2) (T := TX2) (N := 9) (ci := 2) (v := .ref q_6) (W2 := [(h_t, .inr (2, [.int (0 : Int32), .ref q_1, .ref q_2, .ref q_3, .ref q_4, .ref q_5, .ref q_6, .null, .null])), (q_1, .inl (cI, 5, .inl (fun _ => 0))), (q_2, .inl (cI, 5, .inl (fun _ => 0))), (q_3, .inl (cI, 5, .inl (fun _ => 0))), (q_4, .inl (cI, 75, .inl (fun _ => 0))), (q_5, .inl (cI, 4, .inl (fun _ => 0))), (q_6, .inl (cI, 4, .inl (fun _ => 0)))]) hx hb ha inAX2 tyX2 tyX2_ok nmX2 hown hK hP hD hS 0 rfl rfl 6 (by decide) (ha _ w_1_47) rfl rfl hnm rfl rfl rfl (Nat.le_of_ble_eq_true rfl) dX2_init_44 rfl (fun H locs hP hD hS => ?_)
    refine lv_aload_n hx hb dX2_init_47 rfl (lv_at hl 0 rfl) ?_
    refine lv_bipush (v := 16) hx hb dX2_init_48 (by decide) ?_
    refine nw_i (N' := 16) hx hb (ha _ w_1_73) hK hP hD hS hA (by decide) (by decide) (by decide) (Nat.le_of_ble_eq_true rfl) (Nat.le_of_ble_eq_true rfl) (c2 := 7) (s2 := 114) rfl rfl dX2_init_50 (fun q_7 H hP hD hS => ?_)
    have hP : va_P D classes [(h_t, .inr (2, [.int (0 : Int32), .ref q_1, .ref q_2, .ref q_3, .ref q_4, .ref q_5, .ref q_6, .null, .null])), (q_1, .inl (cI, 5, .inl (fun _ => 0))), (q_2, .inl (cI, 5, .inl (fun _ => 0))), (q_3, .inl (cI, 5, .inl (fun _ => 0))), (q_4, .inl (cI, 75, .inl (fun _ => 0))), (q_5, .inl (cI, 4, .inl (fun _ => 0))), (q_6, .inl (cI, 4, .inl (fun _ => 0))), (q_7, .inl (cI, 16, .inl (fun _ => 0)))] H := hP
    have hD : va_D A [(h_t, .inr (2, [.int (0 : Int32), .ref q_1, .ref q_2, .ref q_3, .ref q_4, .ref q_5, .ref q_6, .null, .null])), (q_1, .inl (cI, 5, .inl (fun _ => 0))), (q_2, .inl (cI, 5, .inl (fun _ => 0))), (q_3, .inl (cI, 5, .inl (fun _ => 0))), (q_4, .inl (cI, 75, .inl (fun _ => 0))), (q_5, .inl (cI, 4, .inl (fun _ => 0))), (q_6, .inl (cI, 4, .inl (fun _ => 0))), (q_7, .inl (cI, 16, .inl (fun _ => 0)))] := hD
    refine ptF (C := RX2) (T := TX2) (N := 9) (ci := 2) (v := .ref q_7) (W2 := [(h_t, .inr (2, [.int (0 : Int32), .ref q_1, .ref q_2, .ref q_3, .ref q_4, .ref q_5, .ref q_6, .ref q_7, .null])), (q_1, .inl (cI, 5, .inl (fun _ => 0))), (q_2, .inl (cI, 5, .inl (fun _ => 0))), (q_3, .inl (cI, 5, .inl (fun _ => 0))), (q_4, .inl (cI, 75, .inl (fun _ => 0))), (q_5, .inl (cI, 4, .inl (fun _ => 0))), (q_6, .inl (cI, 4, .inl (fun _ => 0))), (q_7, .inl (cI, 16, .inl (fun _ => 0)))]) hx hb ha inAX2 tyX2 tyX2_ok nmX2 hown hK hP hD hS 0 rfl rfl 7 (by decide) (ha _ w_1_50) rfl rfl hnm rfl rfl rfl (Nat.le_of_ble_eq_true rfl) dX2_init_52 rfl (fun H locs hP hD hS => ?_)
    refine lv_aload_n hx hb dX2_init_55 rfl (lv_at hl 0 rfl) ?_
    refine lv_bipush (v := 16) hx hb dX2_init_56 (by decide) ?_
    refine nw_i (N' := 16) hx hb (ha _ w_1_73) hK hP hD hS hA (by decide) (by decide) (by decide) (Nat.le_of_ble_eq_true rfl) (Nat.le_of_ble_eq_true rfl) (c2 := 8) (s2 := 130) rfl rfl dX2_init_58 (fun q_8 H hP hD hS => ?_)
    have hP : va_P D classes [(h_t, .inr (2, [.int (0 : Int32), .ref q_1, .ref q_2, .ref q_3, .ref q_4, .ref q_5, .ref q_6, .ref q_7, .null])), (q_1, .inl (cI, 5, .inl (fun _ => 0))), (q_2, .inl (cI, 5, .inl (fun _ => 0))), (q_3, .inl (cI, 5, .inl (fun _ => 0))), (q_4, .inl (cI, 75, .inl (fun _ => 0))), (q_5, .inl (cI, 4, .inl (fun _ => 0))), (q_6, .inl (cI, 4, .inl (fun _ => 0))), (q_7, .inl (cI, 16, .inl (fun _ => 0))), (q_8, .inl (cI, 16, .inl (fun _ => 0)))] H := hP
    have hD : va_D A [(h_t, .inr (2, [.int (0 : Int32), .ref q_1, .ref q_2, .ref q_3, .ref q_4, .ref q_5, .ref q_6, .ref q_7, .null])), (q_1, .inl (cI, 5, .inl (fun _ => 0))), (q_2, .inl (cI, 5, .inl (fun _ => 0))), (q_3, .inl (cI, 5, .inl (fun _ => 0))), (q_4, .inl (cI, 75, .inl (fun _ => 0))), (q_5, .inl (cI, 4, .inl (fun _ => 0))), (q_6, .inl (cI, 4, .inl (fun _ => 0))), (q_7, .inl (cI, 16, .inl (fun _ => 0))), (q_8, .inl (cI, 16, .inl (fun _ => 0)))] := hD
    refine ptF (C := RX2) (T := TX2) (N := 9) (ci := 2) (v := .ref q_8) (W2 := [(h_t, .inr (2, [.int (0 : Int32), .ref q_1, .ref q_2, .ref q_3, .ref q_4, .ref q_5, .ref q_6, .ref q_7, .ref q_8])), (q_1, .inl (cI, 5, .inl (fun _ => 0))), (q_2, .inl (cI, 5, .inl (fun _ => 0))), (q_3, .inl (cI, 5, .inl (fun _ => 0))), (q_4, .inl (cI, 75, .inl (fun _ => 0))), (q_5, .inl (cI, 4, .inl (fun _ => 0))), (q_6, .inl (cI, 4, .inl (fun _ => 0))), (q_7, .inl (cI, 16, .inl (fun _ => 0))), (q_8, .inl (cI, 16, .inl (fun _ => 0)))]) hx hb ha inAX2 tyX2 tyX2_ok nmX2 hown hK hP hD hS 0 rfl rfl 8 (by decide) (ha _ w_1_52) rfl rfl hnm rfl rfl rfl (Nat.le_of_ble_eq_true rfl) dX2_init_60 rfl (fun H locs hP hD hS => ?_)
    exact hret ((), ()) [q_1, q_2, q_3, q_4, q_5, q_6, q_7, q_8] H locs ls _ hF rfl hP hD hS dX2_init_63
  rw [hH, hlo] at goal
  exact goal
theorem dX2_clear_0 : decode cX2_clear 0 = .ok (.aload_n 0, 1) := by decide +kernel
theorem dX2_clear_1 : decode cX2_clear 1 = .ok (.iconst 0, 1) := by decide +kernel
theorem dX2_clear_2 : decode cX2_clear 2 = .ok (.putfield 36, 3) := by decide +kernel
theorem dX2_clear_5 : decode cX2_clear 5 = .ok (.aload_n 0, 1) := by decide +kernel
theorem dX2_clear_6 : decode cX2_clear 6 = .ok (.getfield 9, 3) := by decide +kernel
theorem dX2_clear_9 : decode cX2_clear 9 = .ok (.iconst 0, 1) := by decide +kernel
theorem dX2_clear_10 : decode cX2_clear 10 = .ok (.invokestatic 40, 3) := by decide +kernel
theorem dX2_clear_13 : decode cX2_clear 13 = .ok (.aload_n 0, 1) := by decide +kernel
theorem dX2_clear_14 : decode cX2_clear 14 = .ok (.getfield 21, 3) := by decide +kernel
theorem dX2_clear_17 : decode cX2_clear 17 = .ok (.iconst 0, 1) := by decide +kernel
theorem dX2_clear_18 : decode cX2_clear 18 = .ok (.invokestatic 40, 3) := by decide +kernel
theorem dX2_clear_21 : decode cX2_clear 21 = .ok (.aload_n 0, 1) := by decide +kernel
theorem dX2_clear_22 : decode cX2_clear 22 = .ok (.getfield 24, 3) := by decide +kernel
theorem dX2_clear_25 : decode cX2_clear 25 = .ok (.iconst 0, 1) := by decide +kernel
theorem dX2_clear_26 : decode cX2_clear 26 = .ok (.invokestatic 40, 3) := by decide +kernel
theorem dX2_clear_29 : decode cX2_clear 29 = .ok (.return_, 1) := by decide +kernel
abbrev rmX2_clear : Room := { frames := 1, cells := 0, slots := 0, locals := 23 }
theorem cb_X2_clear : CBn yX2_clear 0 := ⟨by decide +kernel, by decide +kernel, by decide +kernel⟩
def FX2_clear (n : Nat) (v_units : Int32) (a_settings : Nat → Int32) (a_percents : Nat → Int32) (a_grades : Nat → Int32) : Option (Unit × Int32 × (Nat → Int32) × (Nat → Int32) × (Nat → Int32)) := bd (FJ7_fill_53178 n 5 a_settings (0 : Int32)) (fun u_2 => bd (FJ7_fill_53178 n 75 a_percents (0 : Int32)) (fun u_4 => bd (FJ7_fill_53178 n 4 a_grades (0 : Int32)) (fun u_6 => some ((), (0 : Int32), u_2.2, u_4.2, u_6.2))))
set_option maxHeartbeats 4000000 in
set_option maxRecDepth 100000 in
theorem kX2_clear (l : Launch) (D : va_G) (cB cI cJ cZ : ClassId) (rz n sz : Nat) (h_t : Nat) (h_settings : Nat) (h_percents : Nat) (h_grades : Nat) (h_yesLeads : Nat) (h_noLeads : Nat) (h_gradeKinds : Nat) (h_gradePurities : Nat) (h_gradePrices : Nat) (v_units : Int32) (a_settings : Nat → Int32) (a_percents : Nat → Int32) (a_grades : Nat → Int32) (hN : FX2_clear n v_units a_settings a_percents a_grades ≠ none) : Met l yX2_clear (Cond.code yX2_clear cX2_clear 1 none :: AL) rmX2_clear (PW D cB cI cJ cZ rz [.ref h_t] [(h_t, .inr (2, [.int v_units, .ref h_settings, .ref h_yesLeads, .ref h_noLeads, .ref h_percents, .ref h_grades, .ref h_gradeKinds, .ref h_gradePurities, .ref h_gradePrices])), (h_settings, .inl (cI, 5, .inl a_settings)), (h_percents, .inl (cI, 75, .inl a_percents)), (h_grades, .inl (cI, 4, .inl a_grades))] sz) (QV D (FX2_clear n v_units a_settings a_percents a_grades) (fun u => [(h_t, .inr (2, [.int u.2.1, .ref h_settings, .ref h_yesLeads, .ref h_noLeads, .ref h_percents, .ref h_grades, .ref h_gradeKinds, .ref h_gradePurities, .ref h_gradePrices])), (h_settings, .inl (cI, 5, .inl u.2.2.1)), (h_percents, .inl (cI, 75, .inl u.2.2.2.1)), (h_grades, .inl (cI, 4, .inl u.2.2.2.2))]) (va_A [(h_t, .inr (2, [.int v_units, .ref h_settings, .ref h_yesLeads, .ref h_noLeads, .ref h_percents, .ref h_grades, .ref h_gradeKinds, .ref h_gradePurities, .ref h_gradePrices])), (h_settings, .inl (cI, 5, .inl a_settings)), (h_percents, .inl (cI, 75, .inl a_percents)), (h_grades, .inl (cI, 4, .inl a_grades))] sz)) 0 0 (va_A [(h_t, .inr (2, [.int v_units, .ref h_settings, .ref h_yesLeads, .ref h_noLeads, .ref h_percents, .ref h_grades, .ref h_gradeKinds, .ref h_gradePurities, .ref h_gradePrices])), (h_settings, .inl (cI, 5, .inl a_settings)), (h_percents, .inl (cI, 75, .inl a_percents)), (h_grades, .inl (cI, 4, .inl a_grades))] sz) := by
  obtain ⟨O, hF⟩ : ∃ O, FX2_clear n v_units a_settings a_percents a_grades = O := ⟨_, rfl⟩
  rw [hF] at hN ⊢
  refine enterV (cc := cX2_clear) (nL := 1) (by decide) (Nat.le_of_ble_eq_true rfl) ?_
  intro p e s m below meth c A Q X hA hE hnm hsz hP hD hS hret ls hl
  obtain ⟨hx, hb, hml, hown0, ha⟩ := id X
  have hown : s.vm.findClass RX2 = some m.cls := hown0
  have hK := hE.1
  have hl : lv_has ls 1 [(0, .ref h_t)] := hl
  have hX : CallFix p m c cX2_clear 1 s ([.ref h_t] : List Value).toArray AL RX2 := X
  have X := hX
  unfold FX2_clear at hF
  obtain ⟨H, hH⟩ : ∃ H, H = s.heap := ⟨_, rfl⟩
  obtain ⟨locs, hlo⟩ : ∃ locs : List Loc, locs = [] := ⟨_, rfl⟩
  have hS : va_S A s.heap H locs := by rw [hH, hlo]; exact hS
  rw [← hH] at hP
  have goal : W p l e rmX2_clear s m ([.ref h_t] : List Value).toArray below meth c H locs 0 0 Q (F0 m 0 ls []) := by
    refine lv_aload_n hx hb dX2_clear_0 rfl (lv_at hl 0 rfl) ?_
    refine lv_iconst (v := 0) hx hb dX2_clear_1 (by decide) ?_
    refine pt (C := RX2) (T := TX2) (N := 9) (ci := 2) (v := .int (0 : Int32)) (W2 := [(h_t, .inr (2, [.int (0 : Int32), .ref h_settings, .ref h_yesLeads, .ref h_noLeads, .ref h_percents, .ref h_grades, .ref h_gradeKinds, .ref h_gradePurities, .ref h_gradePrices])), (h_settings, .inl (cI, 5, .inl a_settings)), (h_percents, .inl (cI, 75, .inl a_percents)), (h_grades, .inl (cI, 4, .inl a_grades))]) hx hb ha inAX2 tyX2 tyX2_ok nmX2 hown hK hP hD hS 0 rfl rfl 0 (by decide) (ha _ w_1_27) rfl rfl rfl rfl (Nat.le_of_ble_eq_true rfl) dX2_clear_2 rfl (fun H locs hP hD hS => ?_)
    refine lv_aload_n hx hb dX2_clear_5 rfl (lv_at hl 0 rfl) ?_
    refine va_get (D := D) (ci := 2) (C := RX2) (T := TX2) (N := 9) hx hb ha inAX2 hown hK hP 0 rfl rfl 1 (by decide) (ha _ w_1_31) (fun _ h9 => h9) rfl dX2_clear_6 ?_
    refine lv_iconst (v := 0) hx hb dX2_clear_9 (by decide) ?_
    have hn_1 := bdN hN hF
    refine callSV (As := [.ref h_settings, .int (0 : Int32)]) (rest := []) (wr := [(h_t, .inr (2, [.int (0 : Int32), .ref h_settings, .ref h_yesLeads, .ref h_noLeads, .ref h_percents, .ref h_grades, .ref h_gradeKinds, .ref h_gradePurities, .ref h_gradePrices])), (h_percents, .inl (cI, 75, .inl a_percents)), (h_grades, .inl (cI, 4, .inl a_grades))]) (W2 := fun u_2 => [(h_t, .inr (2, [.int (0 : Int32), .ref h_settings, .ref h_yesLeads, .ref h_noLeads, .ref h_percents, .ref h_grades, .ref h_gradeKinds, .ref h_gradePurities, .ref h_gradePrices])), (h_settings, .inl (cI, 5, .inl u_2.2)), (h_percents, .inl (cI, 75, .inl a_percents)), (h_grades, .inl (cI, 4, .inl a_grades))]) X hE hP hD hS hA (kJ7_fill_53178 l D cB cI cJ cZ rz n H.size 5 h_settings a_settings (0 : Int32) hn_1) w_2_55 w_1_232 w_1_8 w_1_233 cb_J7_fill_53178 rfl rfl ⟨Nat.le_of_ble_eq_true rfl, Nat.le_of_ble_eq_true rfl⟩ rfl hl.1 rfl (Nat.le_of_ble_eq_true rfl) dX2_clear_10 ⟨Nat.le_of_ble_eq_true rfl, Nat.le_of_ble_eq_true rfl⟩ (c2 := 0) (s2 := 0) rfl rfl [1] [0, 2, 3] [0, 3, 1, 2] rfl rfl (by decide) (by decide) (by decide) (by decide) (fun _ => rfl) (fun u_2 H locs hG hP hD hS => ?_)
    replace hF := bdQ hG hF
    refine lv_aload_n hx hb dX2_clear_13 rfl (lv_at hl 0 rfl) ?_
    refine va_get (D := D) (ci := 2) (C := RX2) (T := TX2) (N := 9) hx hb ha inAX2 hown hK hP 0 rfl rfl 4 (by decide) (ha _ w_1_42) (fun _ h9 => h9) rfl dX2_clear_14 ?_
    refine lv_iconst (v := 0) hx hb dX2_clear_17 (by decide) ?_
    have hn_3 := bdN hN hF
    refine callSV (As := [.ref h_percents, .int (0 : Int32)]) (rest := []) (wr := [(h_t, .inr (2, [.int (0 : Int32), .ref h_settings, .ref h_yesLeads, .ref h_noLeads, .ref h_percents, .ref h_grades, .ref h_gradeKinds, .ref h_gradePurities, .ref h_gradePrices])), (h_settings, .inl (cI, 5, .inl u_2.2)), (h_grades, .inl (cI, 4, .inl a_grades))]) (W2 := fun u_4 => [(h_t, .inr (2, [.int (0 : Int32), .ref h_settings, .ref h_yesLeads, .ref h_noLeads, .ref h_percents, .ref h_grades, .ref h_gradeKinds, .ref h_gradePurities, .ref h_gradePrices])), (h_settings, .inl (cI, 5, .inl u_2.2)), (h_percents, .inl (cI, 75, .inl u_4.2)), (h_grades, .inl (cI, 4, .inl a_grades))]) X hE hP hD hS hA (kJ7_fill_53178 l D cB cI cJ cZ rz n H.size 75 h_percents a_percents (0 : Int32) hn_3) w_2_55 w_1_232 w_1_8 w_1_233 cb_J7_fill_53178 rfl rfl ⟨Nat.le_of_ble_eq_true rfl, Nat.le_of_ble_eq_true rfl⟩ rfl hl.1 rfl (Nat.le_of_ble_eq_true rfl) dX2_clear_18 ⟨Nat.le_of_ble_eq_true rfl, Nat.le_of_ble_eq_true rfl⟩ (c2 := 0) (s2 := 0) rfl rfl [2] [0, 1, 3] [0, 1, 3, 2] rfl rfl (by decide) (by decide) (by decide) (by decide) (fun _ => rfl) (fun u_4 H locs hG hP hD hS => ?_)
    replace hF := bdQ hG hF
    refine lv_aload_n hx hb dX2_clear_21 rfl (lv_at hl 0 rfl) ?_
    refine va_get (D := D) (ci := 2) (C := RX2) (T := TX2) (N := 9) hx hb ha inAX2 hown hK hP 0 rfl rfl 5 (by decide) (ha _ w_1_43) (fun _ h9 => h9) rfl dX2_clear_22 ?_
    refine lv_iconst (v := 0) hx hb dX2_clear_25 (by decide) ?_
    have hn_5 := bdN hN hF
    refine callSV (As := [.ref h_grades, .int (0 : Int32)]) (rest := []) (wr := [(h_t, .inr (2, [.int (0 : Int32), .ref h_settings, .ref h_yesLeads, .ref h_noLeads, .ref h_percents, .ref h_grades, .ref h_gradeKinds, .ref h_gradePurities, .ref h_gradePrices])), (h_settings, .inl (cI, 5, .inl u_2.2)), (h_percents, .inl (cI, 75, .inl u_4.2))]) (W2 := fun u_6 => [(h_t, .inr (2, [.int (0 : Int32), .ref h_settings, .ref h_yesLeads, .ref h_noLeads, .ref h_percents, .ref h_grades, .ref h_gradeKinds, .ref h_gradePurities, .ref h_gradePrices])), (h_settings, .inl (cI, 5, .inl u_2.2)), (h_percents, .inl (cI, 75, .inl u_4.2)), (h_grades, .inl (cI, 4, .inl u_6.2))]) X hE hP hD hS hA (kJ7_fill_53178 l D cB cI cJ cZ rz n H.size 4 h_grades a_grades (0 : Int32) hn_5) w_2_55 w_1_232 w_1_8 w_1_233 cb_J7_fill_53178 rfl rfl ⟨Nat.le_of_ble_eq_true rfl, Nat.le_of_ble_eq_true rfl⟩ rfl hl.1 rfl (Nat.le_of_ble_eq_true rfl) dX2_clear_26 ⟨Nat.le_of_ble_eq_true rfl, Nat.le_of_ble_eq_true rfl⟩ (c2 := 0) (s2 := 0) rfl rfl [3] [0, 1, 2] [0, 1, 2, 3] rfl rfl (by decide) (by decide) (by decide) (by decide) (fun _ => rfl) (fun u_6 H locs hG hP hD hS => ?_)
    replace hF := bdQ hG hF
    exact hret ((), (0 : Int32), u_2.2, u_4.2, u_6.2) H locs ls _ hF hP hD hS dX2_clear_29
  rw [hH, hlo] at goal
  exact goal
theorem dX2_hasGrade_0 : decode cX2_hasGrade 0 = .ok (.iconst 0, 1) := by decide +kernel
theorem dX2_hasGrade_1 : decode cX2_hasGrade 1 = .ok (.istore_n 3, 1) := by decide +kernel
theorem dX2_hasGrade_2 : decode cX2_hasGrade 2 = .ok (.iload_n 3, 1) := by decide +kernel
theorem dX2_hasGrade_3 : decode cX2_hasGrade 3 = .ok (.aload_n 0, 1) := by decide +kernel
theorem dX2_hasGrade_4 : decode cX2_hasGrade 4 = .ok (.getfield 24, 3) := by decide +kernel
theorem dX2_hasGrade_7 : decode cX2_hasGrade 7 = .ok (.iload_n 1, 1) := by decide +kernel
theorem dX2_hasGrade_8 : decode cX2_hasGrade 8 = .ok (.iaload, 1) := by decide +kernel
theorem dX2_hasGrade_9 : decode cX2_hasGrade 9 = .ok (.if_icmp .ge 25, 3) := by decide +kernel
theorem dX2_hasGrade_12 : decode cX2_hasGrade 12 = .ok (.aload_n 0, 1) := by decide +kernel
theorem dX2_hasGrade_13 : decode cX2_hasGrade 13 = .ok (.getfield 30, 3) := by decide +kernel
theorem dX2_hasGrade_16 : decode cX2_hasGrade 16 = .ok (.iload_n 1, 1) := by decide +kernel
theorem dX2_hasGrade_17 : decode cX2_hasGrade 17 = .ok (.iconst 4, 1) := by decide +kernel
theorem dX2_hasGrade_18 : decode cX2_hasGrade 18 = .ok (.imul, 1) := by decide +kernel
theorem dX2_hasGrade_19 : decode cX2_hasGrade 19 = .ok (.iload_n 3, 1) := by decide +kernel
theorem dX2_hasGrade_20 : decode cX2_hasGrade 20 = .ok (.iadd, 1) := by decide +kernel
theorem dX2_hasGrade_21 : decode cX2_hasGrade 21 = .ok (.iaload, 1) := by decide +kernel
theorem dX2_hasGrade_22 : decode cX2_hasGrade 22 = .ok (.iload_n 2, 1) := by decide +kernel
theorem dX2_hasGrade_23 : decode cX2_hasGrade 23 = .ok (.if_icmp .ne 5, 3) := by decide +kernel
theorem dX2_hasGrade_26 : decode cX2_hasGrade 26 = .ok (.iconst 1, 1) := by decide +kernel
theorem dX2_hasGrade_27 : decode cX2_hasGrade 27 = .ok (.ireturn, 1) := by decide +kernel
theorem dX2_hasGrade_28 : decode cX2_hasGrade 28 = .ok (.iinc 3 1, 3) := by decide +kernel
theorem dX2_hasGrade_31 : decode cX2_hasGrade 31 = .ok (.goto (-29), 3) := by decide +kernel
theorem dX2_hasGrade_34 : decode cX2_hasGrade 34 = .ok (.iconst 0, 1) := by decide +kernel
theorem dX2_hasGrade_35 : decode cX2_hasGrade 35 = .ok (.ireturn, 1) := by decide +kernel
abbrev rmX2_hasGrade : Room := { frames := 0, cells := 0, slots := 0, locals := 0 }
theorem cb_X2_hasGrade : CBn yX2_hasGrade 2 := ⟨by decide +kernel, by decide +kernel, by decide +kernel⟩
def FX2_hasGrade_2 (n : Nat) (a_grades : Nat → Int32) (a_gradePurities : Nat → Int32) (z1 : Int32) (z2 : Int32) (k2 : Int32 → Int32 → Int32 → Option (Int32 × Unit)) (x1 : Int32) (x2 : Int32) (x3 : Int32) : Option (Int32 × Unit) := if ¬ (x1 < 0 ∨ 4 ≤ (x1).toNatClampNeg) then (if (a_grades (x1).toNatClampNeg) ≤ x3 then (some ((0 : Int32), ())) else (if ¬ (((x1 * (4 : Int32)) + x3) < 0 ∨ 16 ≤ (((x1 * (4 : Int32)) + x3)).toNatClampNeg) then (if (a_gradePurities (((x1 * (4 : Int32)) + x3)).toNatClampNeg) = x2 then (some ((1 : Int32), ())) else (lt1 (x3 + (1 : Int32)) (fun x_5 => k2 x1 x2 x_5))) else none)) else none
def FX2_hasGrade_2L (n : Nat) (a_grades : Nat → Int32) (a_gradePurities : Nat → Int32) (z1 : Int32) (z2 : Int32) (j : Nat) : Int32 → Int32 → Int32 → Option (Int32 × Unit) := lpR (FX2_hasGrade_2 n a_grades a_gradePurities z1 z2) (fun _ _ _ => none) j
def FX2_hasGrade (n : Nat) (a_grades : Nat → Int32) (a_gradePurities : Nat → Int32) (z1 : Int32) (z2 : Int32) : Option (Int32 × Unit) := FX2_hasGrade_2L n a_grades a_gradePurities z1 z2 n z1 z2 (0 : Int32)
set_option maxHeartbeats 4000000 in
set_option maxRecDepth 100000 in
theorem kX2_hasGrade (l : Launch) (D : va_G) (cB cI cJ cZ : ClassId) (rz n sz : Nat) (h_t : Nat) (h_grades : Nat) (h_gradePurities : Nat) (h_settings : Nat) (h_yesLeads : Nat) (h_noLeads : Nat) (h_percents : Nat) (h_gradeKinds : Nat) (h_gradePrices : Nat) (v_units : Int32) (a_grades : Nat → Int32) (a_gradePurities : Nat → Int32) (z1 : Int32) (z2 : Int32) (hN : FX2_hasGrade n a_grades a_gradePurities z1 z2 ≠ none) : Met l yX2_hasGrade (Cond.code yX2_hasGrade cX2_hasGrade 4 (some .boolean) :: AL) rmX2_hasGrade (PW D cB cI cJ cZ rz [.ref h_t, .int z1, .int z2] [(h_t, .inr (2, [.int v_units, .ref h_settings, .ref h_yesLeads, .ref h_noLeads, .ref h_percents, .ref h_grades, .ref h_gradeKinds, .ref h_gradePurities, .ref h_gradePrices])), (h_grades, .inl (cI, 4, .inl a_grades)), (h_gradePurities, .inl (cI, 16, .inl a_gradePurities))] sz) (QZ D (FX2_hasGrade n a_grades a_gradePurities z1 z2) (fun u => [(h_t, .inr (2, [.int v_units, .ref h_settings, .ref h_yesLeads, .ref h_noLeads, .ref h_percents, .ref h_grades, .ref h_gradeKinds, .ref h_gradePurities, .ref h_gradePrices])), (h_grades, .inl (cI, 4, .inl a_grades)), (h_gradePurities, .inl (cI, 16, .inl a_gradePurities))]) (va_A [(h_t, .inr (2, [.int v_units, .ref h_settings, .ref h_yesLeads, .ref h_noLeads, .ref h_percents, .ref h_grades, .ref h_gradeKinds, .ref h_gradePurities, .ref h_gradePrices])), (h_grades, .inl (cI, 4, .inl a_grades)), (h_gradePurities, .inl (cI, 16, .inl a_gradePurities))] sz)) 0 0 (va_A [(h_t, .inr (2, [.int v_units, .ref h_settings, .ref h_yesLeads, .ref h_noLeads, .ref h_percents, .ref h_grades, .ref h_gradeKinds, .ref h_gradePurities, .ref h_gradePrices])), (h_grades, .inl (cI, 4, .inl a_grades)), (h_gradePurities, .inl (cI, 16, .inl a_gradePurities))] sz) := by
  obtain ⟨O, hF⟩ : ∃ O, FX2_hasGrade n a_grades a_gradePurities z1 z2 = O := ⟨_, rfl⟩
  rw [hF] at hN ⊢
  refine enterZ (cc := cX2_hasGrade) (nL := 4) (by decide) (Nat.le_of_ble_eq_true rfl) ?_
  intro p e s m below meth c A Q X hA hE hnm hsz hP hD hS hret ls hl
  obtain ⟨hx, hb, hml, hown0, ha⟩ := id X
  have hown : s.vm.findClass RX2 = some m.cls := hown0
  have hK := hE.1
  have hl : lv_has ls 4 [(0, .ref h_t), (1, .int z1), (2, .int z2)] := hl
  have hX : CallFix p m c cX2_hasGrade 4 s ([.ref h_t, .int z1, .int z2] : List Value).toArray AL RX2 := X
  have X := hX
  have L2 : ∀ (k2 : Int32 → Int32 → Int32 → Option (Int32 × Unit)) (ih2 : ∀ (x1 : Int32) (x2 : Int32) (x3 : Int32) (H : Heap) (locs : List Loc) (ls : Array Slot), k2 x1 x2 x3 = O → va_P D classes [(h_t, .inr (2, [.int v_units, .ref h_settings, .ref h_yesLeads, .ref h_noLeads, .ref h_percents, .ref h_grades, .ref h_gradeKinds, .ref h_gradePurities, .ref h_gradePrices])), (h_grades, .inl (cI, 4, .inl a_grades)), (h_gradePurities, .inl (cI, 16, .inl a_gradePurities))] H → va_D A [(h_t, .inr (2, [.int v_units, .ref h_settings, .ref h_yesLeads, .ref h_noLeads, .ref h_percents, .ref h_grades, .ref h_gradeKinds, .ref h_gradePurities, .ref h_gradePrices])), (h_grades, .inl (cI, 4, .inl a_grades)), (h_gradePurities, .inl (cI, 16, .inl a_gradePurities))] → va_S A s.heap H locs → lv_has ls 4 [(0, .ref h_t), (1, .int x1), (2, .int x2), (3, .int x3)] → W p l e rmX2_hasGrade s m ([.ref h_t, .int z1, .int z2] : List Value).toArray below meth c H locs 0 0 Q (F0 m 2 ls [])), ∀ (x1 : Int32) (x2 : Int32) (x3 : Int32) (H : Heap) (locs : List Loc) (ls : Array Slot), FX2_hasGrade_2 n a_grades a_gradePurities z1 z2 k2 x1 x2 x3 = O → va_P D classes [(h_t, .inr (2, [.int v_units, .ref h_settings, .ref h_yesLeads, .ref h_noLeads, .ref h_percents, .ref h_grades, .ref h_gradeKinds, .ref h_gradePurities, .ref h_gradePrices])), (h_grades, .inl (cI, 4, .inl a_grades)), (h_gradePurities, .inl (cI, 16, .inl a_gradePurities))] H → va_D A [(h_t, .inr (2, [.int v_units, .ref h_settings, .ref h_yesLeads, .ref h_noLeads, .ref h_percents, .ref h_grades, .ref h_gradeKinds, .ref h_gradePurities, .ref h_gradePrices])), (h_grades, .inl (cI, 4, .inl a_grades)), (h_gradePurities, .inl (cI, 16, .inl a_gradePurities))] → va_S A s.heap H locs → lv_has ls 4 [(0, .ref h_t), (1, .int x1), (2, .int x2), (3, .int x3)] → W p l e rmX2_hasGrade s m ([.ref h_t, .int z1, .int z2] : List Value).toArray below meth c H locs 0 0 Q (F0 m 2 ls []) := by
    intro k2 ih2 x1 x2 x3 H locs ls hF hP hD hS hl
    unfold FX2_hasGrade_2 at hF
    refine lv_iload_n hx hb dX2_hasGrade_2 rfl (lv_at hl 3 rfl) ?_
    refine lv_aload_n hx hb dX2_hasGrade_3 rfl (lv_at hl 0 rfl) ?_
    refine va_get (D := D) (ci := 2) (C := RX2) (T := TX2) (N := 9) hx hb ha inAX2 hown hK hP 0 rfl rfl 5 (by decide) (ha _ w_1_43) (fun _ h9 => h9) rfl dX2_hasGrade_4 ?_
    refine lv_iload_n hx hb dX2_hasGrade_7 rfl (lv_at hl 1 rfl) ?_
    replace hF := ckP hN hF
    obtain ⟨c_1, hF⟩ := hF
    refine ld_i hx hb hK hP 1 rfl c_1 dX2_hasGrade_8 ?_
    refine lv_icmp_ge (tgt := 34) hx hb dX2_hasGrade_9 (by decide) (fun c_2 => ?_) (fun c_2 => ?_)
    · replace hF := ifT c_2 hF
      refine lv_iconst (v := 0) hx hb dX2_hasGrade_34 (by decide) ?_
      exact hret ((0 : Int32), ()) H locs ls _ hF nz0 hP hD hS dX2_hasGrade_35
    · replace hF := ifF c_2 hF
      refine lv_aload_n hx hb dX2_hasGrade_12 rfl (lv_at hl 0 rfl) ?_
      refine va_get (D := D) (ci := 2) (C := RX2) (T := TX2) (N := 9) hx hb ha inAX2 hown hK hP 0 rfl rfl 7 (by decide) (ha _ w_1_50) (fun _ h9 => h9) rfl dX2_hasGrade_13 ?_
      refine lv_iload_n hx hb dX2_hasGrade_16 rfl (lv_at hl 1 rfl) ?_
      refine lv_iconst (v := 4) hx hb dX2_hasGrade_17 (by decide) ?_
      refine lv_imul hx hb dX2_hasGrade_18 ?_
      refine lv_iload_n hx hb dX2_hasGrade_19 rfl (lv_at hl 3 rfl) ?_
      refine lv_iadd hx hb dX2_hasGrade_20 ?_
      replace hF := ckP hN hF
      obtain ⟨c_3, hF⟩ := hF
      refine ld_i hx hb hK hP 2 rfl c_3 dX2_hasGrade_21 ?_
      refine lv_iload_n hx hb dX2_hasGrade_22 rfl (lv_at hl 2 rfl) ?_
      refine lv_icmp_ne (tgt := 28) hx hb dX2_hasGrade_23 (by decide) (fun c_4 => ?_) (fun c_4 => ?_)
      · replace hF := ifF c_4 hF
        obtain ⟨x_5, ex_5⟩ : ∃ y : Int32, y = x3 + (1 : Int32) := ⟨_, rfl⟩
        replace hF := ltP ex_5 hF
        refine lv_iinc (v := x_5) (lv' := [(3, .int x_5), (0, .ref h_t), (1, .int x1), (2, .int x2)]) hx hb dX2_hasGrade_28 hl (k := 3) rfl (by rw [ex_5]; rfl) (by decide) rfl (fun ls hl => ?_)
        refine lv_goto (tgt := 2) hx hb dX2_hasGrade_31 (by decide) ?_
        exact ih2 x1 x2 x_5 H locs ls hF hP hD hS (lv_sub hl [1, 2, 3, 0] rfl)
      · replace hF := ifT c_4 hF
        refine lv_iconst (v := 1) hx hb dX2_hasGrade_26 (by decide) ?_
        exact hret ((1 : Int32), ()) H locs ls _ hF nz1 hP hD hS dX2_hasGrade_27
  have Lc2 : ∀ (j : Nat), ∀ (x1 : Int32) (x2 : Int32) (x3 : Int32) (H : Heap) (locs : List Loc) (ls : Array Slot), FX2_hasGrade_2L n a_grades a_gradePurities z1 z2 j x1 x2 x3 = O → va_P D classes [(h_t, .inr (2, [.int v_units, .ref h_settings, .ref h_yesLeads, .ref h_noLeads, .ref h_percents, .ref h_grades, .ref h_gradeKinds, .ref h_gradePurities, .ref h_gradePrices])), (h_grades, .inl (cI, 4, .inl a_grades)), (h_gradePurities, .inl (cI, 16, .inl a_gradePurities))] H → va_D A [(h_t, .inr (2, [.int v_units, .ref h_settings, .ref h_yesLeads, .ref h_noLeads, .ref h_percents, .ref h_grades, .ref h_gradeKinds, .ref h_gradePurities, .ref h_gradePrices])), (h_grades, .inl (cI, 4, .inl a_grades)), (h_gradePurities, .inl (cI, 16, .inl a_gradePurities))] → va_S A s.heap H locs → lv_has ls 4 [(0, .ref h_t), (1, .int x1), (2, .int x2), (3, .int x3)] → W p l e rmX2_hasGrade s m ([.ref h_t, .int z1, .int z2] : List Value).toArray below meth c H locs 0 0 Q (F0 m 2 ls []) := by
    intro j
    induction j with
    | zero => intro _ _ _ H locs ls hF; exact absurd hF.symm hN
    | succ j ih => exact L2 (FX2_hasGrade_2L n a_grades a_gradePurities z1 z2 j) ih
  unfold FX2_hasGrade at hF
  obtain ⟨H, hH⟩ : ∃ H, H = s.heap := ⟨_, rfl⟩
  obtain ⟨locs, hlo⟩ : ∃ locs : List Loc, locs = [] := ⟨_, rfl⟩
  have hS : va_S A s.heap H locs := by rw [hH, hlo]; exact hS
  rw [← hH] at hP
  have goal : W p l e rmX2_hasGrade s m ([.ref h_t, .int z1, .int z2] : List Value).toArray below meth c H locs 0 0 Q (F0 m 0 ls []) := by
    refine lv_iconst (v := 0) hx hb dX2_hasGrade_0 (by decide) ?_
    refine lv_istore_n (lv' := [(3, .int (0 : Int32)), (0, .ref h_t), (1, .int z1), (2, .int z2)]) hx hb dX2_hasGrade_1 rfl hl (by decide) rfl (fun ls hl => ?_)
    exact Lc2 n z1 z2 (0 : Int32) H locs ls hF hP hD hS (lv_sub hl [1, 2, 3, 0] rfl)
  rw [hH, hlo] at goal
  exact goal
theorem dX2_addGrade_0 : decode cX2_addGrade 0 = .ok (.aload_n 0, 1) := by decide +kernel
theorem dX2_addGrade_1 : decode cX2_addGrade 1 = .ok (.getfield 24, 3) := by decide +kernel
theorem dX2_addGrade_4 : decode cX2_addGrade 4 = .ok (.iload_n 1, 1) := by decide +kernel
theorem dX2_addGrade_5 : decode cX2_addGrade 5 = .ok (.iaload, 1) := by decide +kernel
theorem dX2_addGrade_6 : decode cX2_addGrade 6 = .ok (.iconst 4, 1) := by decide +kernel
theorem dX2_addGrade_7 : decode cX2_addGrade 7 = .ok (.if_icmp .lt 4, 3) := by decide +kernel
theorem dX2_addGrade_10 : decode cX2_addGrade 10 = .ok (.return_, 1) := by decide +kernel
theorem dX2_addGrade_11 : decode cX2_addGrade 11 = .ok (.iload_n 1, 1) := by decide +kernel
theorem dX2_addGrade_12 : decode cX2_addGrade 12 = .ok (.iconst 4, 1) := by decide +kernel
theorem dX2_addGrade_13 : decode cX2_addGrade 13 = .ok (.imul, 1) := by decide +kernel
theorem dX2_addGrade_14 : decode cX2_addGrade 14 = .ok (.aload_n 0, 1) := by decide +kernel
theorem dX2_addGrade_15 : decode cX2_addGrade 15 = .ok (.getfield 24, 3) := by decide +kernel
theorem dX2_addGrade_18 : decode cX2_addGrade 18 = .ok (.iload_n 1, 1) := by decide +kernel
theorem dX2_addGrade_19 : decode cX2_addGrade 19 = .ok (.iaload, 1) := by decide +kernel
theorem dX2_addGrade_20 : decode cX2_addGrade 20 = .ok (.iadd, 1) := by decide +kernel
theorem dX2_addGrade_21 : decode cX2_addGrade 21 = .ok (.istore 5, 2) := by decide +kernel
theorem dX2_addGrade_23 : decode cX2_addGrade 23 = .ok (.aload_n 0, 1) := by decide +kernel
theorem dX2_addGrade_24 : decode cX2_addGrade 24 = .ok (.getfield 27, 3) := by decide +kernel
theorem dX2_addGrade_27 : decode cX2_addGrade 27 = .ok (.iload_n 1, 1) := by decide +kernel
theorem dX2_addGrade_28 : decode cX2_addGrade 28 = .ok (.iload_n 2, 1) := by decide +kernel
theorem dX2_addGrade_29 : decode cX2_addGrade 29 = .ok (.iastore, 1) := by decide +kernel
theorem dX2_addGrade_30 : decode cX2_addGrade 30 = .ok (.aload_n 0, 1) := by decide +kernel
theorem dX2_addGrade_31 : decode cX2_addGrade 31 = .ok (.getfield 30, 3) := by decide +kernel
theorem dX2_addGrade_34 : decode cX2_addGrade 34 = .ok (.iload 5, 2) := by decide +kernel
theorem dX2_addGrade_36 : decode cX2_addGrade 36 = .ok (.iload_n 3, 1) := by decide +kernel
theorem dX2_addGrade_37 : decode cX2_addGrade 37 = .ok (.iastore, 1) := by decide +kernel
theorem dX2_addGrade_38 : decode cX2_addGrade 38 = .ok (.aload_n 0, 1) := by decide +kernel
theorem dX2_addGrade_39 : decode cX2_addGrade 39 = .ok (.getfield 33, 3) := by decide +kernel
theorem dX2_addGrade_42 : decode cX2_addGrade 42 = .ok (.iload 5, 2) := by decide +kernel
theorem dX2_addGrade_44 : decode cX2_addGrade 44 = .ok (.iload 4, 2) := by decide +kernel
theorem dX2_addGrade_46 : decode cX2_addGrade 46 = .ok (.iastore, 1) := by decide +kernel
theorem dX2_addGrade_47 : decode cX2_addGrade 47 = .ok (.aload_n 0, 1) := by decide +kernel
theorem dX2_addGrade_48 : decode cX2_addGrade 48 = .ok (.getfield 24, 3) := by decide +kernel
theorem dX2_addGrade_51 : decode cX2_addGrade 51 = .ok (.iload_n 1, 1) := by decide +kernel
theorem dX2_addGrade_52 : decode cX2_addGrade 52 = .ok (.dup2, 1) := by decide +kernel
theorem dX2_addGrade_53 : decode cX2_addGrade 53 = .ok (.iaload, 1) := by decide +kernel
theorem dX2_addGrade_54 : decode cX2_addGrade 54 = .ok (.iconst 1, 1) := by decide +kernel
theorem dX2_addGrade_55 : decode cX2_addGrade 55 = .ok (.iadd, 1) := by decide +kernel
theorem dX2_addGrade_56 : decode cX2_addGrade 56 = .ok (.iastore, 1) := by decide +kernel
theorem dX2_addGrade_57 : decode cX2_addGrade 57 = .ok (.return_, 1) := by decide +kernel
abbrev rmX2_addGrade : Room := { frames := 0, cells := 0, slots := 0, locals := 0 }
theorem cb_X2_addGrade : CBn yX2_addGrade 4 := ⟨by decide +kernel, by decide +kernel, by decide +kernel⟩
def FX2_addGrade (n : Nat) (a_grades : Nat → Int32) (a_gradeKinds : Nat → Int32) (a_gradePurities : Nat → Int32) (a_gradePrices : Nat → Int32) (z1 : Int32) (z2 : Int32) (z3 : Int32) (z4 : Int32) : Option (Unit × (Nat → Int32) × (Nat → Int32) × (Nat → Int32) × (Nat → Int32)) := if ¬ (z1 < 0 ∨ 4 ≤ (z1).toNatClampNeg) then (if (a_grades (z1).toNatClampNeg) < (4 : Int32) then (if ¬ (z1 < 0 ∨ 4 ≤ (z1).toNatClampNeg) then (lt1 ((z1 * (4 : Int32)) + (a_grades (z1).toNatClampNeg)) (fun x_4 => if ¬ (z1 < 0 ∨ 4 ≤ (z1).toNatClampNeg) then (lt1 (upd a_gradeKinds (z1).toNatClampNeg z2) (fun f_6 => if ¬ (x_4 < 0 ∨ 16 ≤ (x_4).toNatClampNeg) then (lt1 (upd a_gradePurities (x_4).toNatClampNeg z3) (fun f_8 => if ¬ (x_4 < 0 ∨ 16 ≤ (x_4).toNatClampNeg) then (lt1 (upd a_gradePrices (x_4).toNatClampNeg z4) (fun f_10 => if ¬ (z1 < 0 ∨ 4 ≤ (z1).toNatClampNeg) then (lt1 ((a_grades (z1).toNatClampNeg) + (1 : Int32)) (fun x_12 => if ¬ (z1 < 0 ∨ 4 ≤ (z1).toNatClampNeg) then (lt1 (upd a_grades (z1).toNatClampNeg x_12) (fun f_14 => some ((), f_14, f_6, f_8, f_10))) else none)) else none)) else none)) else none)) else none)) else none) else (some ((), a_grades, a_gradeKinds, a_gradePurities, a_gradePrices))) else none
set_option maxHeartbeats 4000000 in
set_option maxRecDepth 100000 in
theorem kX2_addGrade (l : Launch) (D : va_G) (cB cI cJ cZ : ClassId) (rz n sz : Nat) (h_t : Nat) (h_grades : Nat) (h_gradeKinds : Nat) (h_gradePurities : Nat) (h_gradePrices : Nat) (h_settings : Nat) (h_yesLeads : Nat) (h_noLeads : Nat) (h_percents : Nat) (v_units : Int32) (a_grades : Nat → Int32) (a_gradeKinds : Nat → Int32) (a_gradePurities : Nat → Int32) (a_gradePrices : Nat → Int32) (z1 : Int32) (z2 : Int32) (z3 : Int32) (z4 : Int32) (hN : FX2_addGrade n a_grades a_gradeKinds a_gradePurities a_gradePrices z1 z2 z3 z4 ≠ none) : Met l yX2_addGrade (Cond.code yX2_addGrade cX2_addGrade 6 none :: AL) rmX2_addGrade (PW D cB cI cJ cZ rz [.ref h_t, .int z1, .int z2, .int z3, .int z4] [(h_t, .inr (2, [.int v_units, .ref h_settings, .ref h_yesLeads, .ref h_noLeads, .ref h_percents, .ref h_grades, .ref h_gradeKinds, .ref h_gradePurities, .ref h_gradePrices])), (h_grades, .inl (cI, 4, .inl a_grades)), (h_gradeKinds, .inl (cI, 4, .inl a_gradeKinds)), (h_gradePurities, .inl (cI, 16, .inl a_gradePurities)), (h_gradePrices, .inl (cI, 16, .inl a_gradePrices))] sz) (QV D (FX2_addGrade n a_grades a_gradeKinds a_gradePurities a_gradePrices z1 z2 z3 z4) (fun u => [(h_t, .inr (2, [.int v_units, .ref h_settings, .ref h_yesLeads, .ref h_noLeads, .ref h_percents, .ref h_grades, .ref h_gradeKinds, .ref h_gradePurities, .ref h_gradePrices])), (h_grades, .inl (cI, 4, .inl u.2.1)), (h_gradeKinds, .inl (cI, 4, .inl u.2.2.1)), (h_gradePurities, .inl (cI, 16, .inl u.2.2.2.1)), (h_gradePrices, .inl (cI, 16, .inl u.2.2.2.2))]) (va_A [(h_t, .inr (2, [.int v_units, .ref h_settings, .ref h_yesLeads, .ref h_noLeads, .ref h_percents, .ref h_grades, .ref h_gradeKinds, .ref h_gradePurities, .ref h_gradePrices])), (h_grades, .inl (cI, 4, .inl a_grades)), (h_gradeKinds, .inl (cI, 4, .inl a_gradeKinds)), (h_gradePurities, .inl (cI, 16, .inl a_gradePurities)), (h_gradePrices, .inl (cI, 16, .inl a_gradePrices))] sz)) 0 0 (va_A [(h_t, .inr (2, [.int v_units, .ref h_settings, .ref h_yesLeads, .ref h_noLeads, .ref h_percents, .ref h_grades, .ref h_gradeKinds, .ref h_gradePurities, .ref h_gradePrices])), (h_grades, .inl (cI, 4, .inl a_grades)), (h_gradeKinds, .inl (cI, 4, .inl a_gradeKinds)), (h_gradePurities, .inl (cI, 16, .inl a_gradePurities)), (h_gradePrices, .inl (cI, 16, .inl a_gradePrices))] sz) := by
  obtain ⟨O, hF⟩ : ∃ O, FX2_addGrade n a_grades a_gradeKinds a_gradePurities a_gradePrices z1 z2 z3 z4 = O := ⟨_, rfl⟩
  rw [hF] at hN ⊢
  refine enterV (cc := cX2_addGrade) (nL := 6) (by decide) (Nat.le_of_ble_eq_true rfl) ?_
  intro p e s m below meth c A Q X hA hE hnm hsz hP hD hS hret ls hl
  obtain ⟨hx, hb, hml, hown0, ha⟩ := id X
  have hown : s.vm.findClass RX2 = some m.cls := hown0
  have hK := hE.1
  have hl : lv_has ls 6 [(0, .ref h_t), (1, .int z1), (2, .int z2), (3, .int z3), (4, .int z4)] := hl
  have hX : CallFix p m c cX2_addGrade 6 s ([.ref h_t, .int z1, .int z2, .int z3, .int z4] : List Value).toArray AL RX2 := X
  have X := hX
  unfold FX2_addGrade at hF
  obtain ⟨H, hH⟩ : ∃ H, H = s.heap := ⟨_, rfl⟩
  obtain ⟨locs, hlo⟩ : ∃ locs : List Loc, locs = [] := ⟨_, rfl⟩
  have hS : va_S A s.heap H locs := by rw [hH, hlo]; exact hS
  rw [← hH] at hP
  have goal : W p l e rmX2_addGrade s m ([.ref h_t, .int z1, .int z2, .int z3, .int z4] : List Value).toArray below meth c H locs 0 0 Q (F0 m 0 ls []) := by
    refine lv_aload_n hx hb dX2_addGrade_0 rfl (lv_at hl 0 rfl) ?_
    refine va_get (D := D) (ci := 2) (C := RX2) (T := TX2) (N := 9) hx hb ha inAX2 hown hK hP 0 rfl rfl 5 (by decide) (ha _ w_1_43) (fun _ h9 => h9) rfl dX2_addGrade_1 ?_
    refine lv_iload_n hx hb dX2_addGrade_4 rfl (lv_at hl 1 rfl) ?_
    replace hF := ckP hN hF
    obtain ⟨c_1, hF⟩ := hF
    refine ld_i hx hb hK hP 1 rfl c_1 dX2_addGrade_5 ?_
    refine lv_iconst (v := 4) hx hb dX2_addGrade_6 (by decide) ?_
    refine lv_icmp_lt (tgt := 11) hx hb dX2_addGrade_7 (by decide) (fun c_2 => ?_) (fun c_2 => ?_)
    · replace hF := ifT c_2 hF
      refine lv_iload_n hx hb dX2_addGrade_11 rfl (lv_at hl 1 rfl) ?_
      refine lv_iconst (v := 4) hx hb dX2_addGrade_12 (by decide) ?_
      refine lv_imul hx hb dX2_addGrade_13 ?_
      refine lv_aload_n hx hb dX2_addGrade_14 rfl (lv_at hl 0 rfl) ?_
      refine va_get (D := D) (ci := 2) (C := RX2) (T := TX2) (N := 9) hx hb ha inAX2 hown hK hP 0 rfl rfl 5 (by decide) (ha _ w_1_43) (fun _ h9 => h9) rfl dX2_addGrade_15 ?_
      refine lv_iload_n hx hb dX2_addGrade_18 rfl (lv_at hl 1 rfl) ?_
      replace hF := ckP hN hF
      obtain ⟨c_3, hF⟩ := hF
      refine ld_i hx hb hK hP 1 rfl c_3 dX2_addGrade_19 ?_
      refine lv_iadd hx hb dX2_addGrade_20 ?_
      refine lv_topi (fun x_4 ex_4 => ?_)
      replace hF := ltP ex_4 hF
      refine lv_istore (lv' := [(5, .int x_4), (0, .ref h_t), (1, .int z1), (2, .int z2), (3, .int z3), (4, .int z4)]) hx hb dX2_addGrade_21 hl (by decide) rfl (fun ls hl => ?_)
      refine lv_aload_n hx hb dX2_addGrade_23 rfl (lv_at hl 1 rfl) ?_
      refine va_get (D := D) (ci := 2) (C := RX2) (T := TX2) (N := 9) hx hb ha inAX2 hown hK hP 0 rfl rfl 6 (by decide) (ha _ w_1_47) (fun _ h9 => h9) rfl dX2_addGrade_24 ?_
      refine lv_iload_n hx hb dX2_addGrade_27 rfl (lv_at hl 2 rfl) ?_
      refine lv_iload_n hx hb dX2_addGrade_28 rfl (lv_at hl 3 rfl) ?_
      replace hF := ckP hN hF
      obtain ⟨c_5, hF⟩ := hF
      obtain ⟨f_6, ef_6⟩ : ∃ g : Nat → Int32, g = upd a_gradeKinds (z1).toNatClampNeg z2 := ⟨_, rfl⟩
      replace hF := ltP ef_6 hF
      refine st_i (g := f_6) (W2 := [(h_t, .inr (2, [.int v_units, .ref h_settings, .ref h_yesLeads, .ref h_noLeads, .ref h_percents, .ref h_grades, .ref h_gradeKinds, .ref h_gradePurities, .ref h_gradePrices])), (h_grades, .inl (cI, 4, .inl a_grades)), (h_gradeKinds, .inl (cI, 4, .inl f_6)), (h_gradePurities, .inl (cI, 16, .inl a_gradePurities)), (h_gradePrices, .inl (cI, 16, .inl a_gradePrices))]) hx hb hK hP hD hS 2 rfl c_5 ef_6 dX2_addGrade_29 rfl (fun H locs hP hD hS => ?_)
      refine lv_aload_n hx hb dX2_addGrade_30 rfl (lv_at hl 1 rfl) ?_
      refine va_get (D := D) (ci := 2) (C := RX2) (T := TX2) (N := 9) hx hb ha inAX2 hown hK hP 0 rfl rfl 7 (by decide) (ha _ w_1_50) (fun _ h9 => h9) rfl dX2_addGrade_31 ?_
      refine lv_iload hx hb dX2_addGrade_34 (lv_at hl 0 rfl) ?_
      refine lv_iload_n hx hb dX2_addGrade_36 rfl (lv_at hl 4 rfl) ?_
      replace hF := ckP hN hF
      obtain ⟨c_7, hF⟩ := hF
      obtain ⟨f_8, ef_8⟩ : ∃ g : Nat → Int32, g = upd a_gradePurities (x_4).toNatClampNeg z3 := ⟨_, rfl⟩
      replace hF := ltP ef_8 hF
      refine st_i (g := f_8) (W2 := [(h_t, .inr (2, [.int v_units, .ref h_settings, .ref h_yesLeads, .ref h_noLeads, .ref h_percents, .ref h_grades, .ref h_gradeKinds, .ref h_gradePurities, .ref h_gradePrices])), (h_grades, .inl (cI, 4, .inl a_grades)), (h_gradeKinds, .inl (cI, 4, .inl f_6)), (h_gradePurities, .inl (cI, 16, .inl f_8)), (h_gradePrices, .inl (cI, 16, .inl a_gradePrices))]) hx hb hK hP hD hS 3 rfl c_7 ef_8 dX2_addGrade_37 rfl (fun H locs hP hD hS => ?_)
      refine lv_aload_n hx hb dX2_addGrade_38 rfl (lv_at hl 1 rfl) ?_
      refine va_get (D := D) (ci := 2) (C := RX2) (T := TX2) (N := 9) hx hb ha inAX2 hown hK hP 0 rfl rfl 8 (by decide) (ha _ w_1_52) (fun _ h9 => h9) rfl dX2_addGrade_39 ?_
      refine lv_iload hx hb dX2_addGrade_42 (lv_at hl 0 rfl) ?_
      refine lv_iload hx hb dX2_addGrade_44 (lv_at hl 5 rfl) ?_
      replace hF := ckP hN hF
      obtain ⟨c_9, hF⟩ := hF
      obtain ⟨f_10, ef_10⟩ : ∃ g : Nat → Int32, g = upd a_gradePrices (x_4).toNatClampNeg z4 := ⟨_, rfl⟩
      replace hF := ltP ef_10 hF
      refine st_i (g := f_10) (W2 := [(h_t, .inr (2, [.int v_units, .ref h_settings, .ref h_yesLeads, .ref h_noLeads, .ref h_percents, .ref h_grades, .ref h_gradeKinds, .ref h_gradePurities, .ref h_gradePrices])), (h_grades, .inl (cI, 4, .inl a_grades)), (h_gradeKinds, .inl (cI, 4, .inl f_6)), (h_gradePurities, .inl (cI, 16, .inl f_8)), (h_gradePrices, .inl (cI, 16, .inl f_10))]) hx hb hK hP hD hS 4 rfl c_9 ef_10 dX2_addGrade_46 rfl (fun H locs hP hD hS => ?_)
      refine lv_aload_n hx hb dX2_addGrade_47 rfl (lv_at hl 1 rfl) ?_
      refine va_get (D := D) (ci := 2) (C := RX2) (T := TX2) (N := 9) hx hb ha inAX2 hown hK hP 0 rfl rfl 5 (by decide) (ha _ w_1_43) (fun _ h9 => h9) rfl dX2_addGrade_48 ?_
      refine lv_iload_n hx hb dX2_addGrade_51 rfl (lv_at hl 2 rfl) ?_
      refine lv_dup2_11 hx hb dX2_addGrade_52 rfl rfl ?_
      replace hF := ckP hN hF
      obtain ⟨c_11, hF⟩ := hF
      refine ld_i hx hb hK hP 1 rfl c_11 dX2_addGrade_53 ?_
      refine lv_iconst (v := 1) hx hb dX2_addGrade_54 (by decide) ?_
      refine lv_iadd hx hb dX2_addGrade_55 ?_
      refine lv_topi (fun x_12 ex_12 => ?_)
      replace hF := ltP ex_12 hF
      replace hF := ckP hN hF
      obtain ⟨c_13, hF⟩ := hF
      obtain ⟨f_14, ef_14⟩ : ∃ g : Nat → Int32, g = upd a_grades (z1).toNatClampNeg x_12 := ⟨_, rfl⟩
      replace hF := ltP ef_14 hF
      refine st_i (g := f_14) (W2 := [(h_t, .inr (2, [.int v_units, .ref h_settings, .ref h_yesLeads, .ref h_noLeads, .ref h_percents, .ref h_grades, .ref h_gradeKinds, .ref h_gradePurities, .ref h_gradePrices])), (h_grades, .inl (cI, 4, .inl f_14)), (h_gradeKinds, .inl (cI, 4, .inl f_6)), (h_gradePurities, .inl (cI, 16, .inl f_8)), (h_gradePrices, .inl (cI, 16, .inl f_10))]) hx hb hK hP hD hS 1 rfl c_13 ef_14 dX2_addGrade_56 rfl (fun H locs hP hD hS => ?_)
      exact hret ((), f_14, f_6, f_8, f_10) H locs ls _ hF hP hD hS dX2_addGrade_57
    · replace hF := ifF c_2 hF
      exact hret ((), a_grades, a_gradeKinds, a_gradePurities, a_gradePrices) H locs ls _ hF hP hD hS dX2_addGrade_10
  rw [hH, hlo] at goal
  exact goal
theorem dX2_addSetting_0 : decode cX2_addSetting 0 = .ok (.aload_n 0, 1) := by decide +kernel
theorem dX2_addSetting_1 : decode cX2_addSetting 1 = .ok (.getfield 9, 3) := by decide +kernel
theorem dX2_addSetting_4 : decode cX2_addSetting 4 = .ok (.iload_n 1, 1) := by decide +kernel
theorem dX2_addSetting_5 : decode cX2_addSetting 5 = .ok (.iaload, 1) := by decide +kernel
theorem dX2_addSetting_6 : decode cX2_addSetting 6 = .ok (.iconst 3, 1) := by decide +kernel
theorem dX2_addSetting_7 : decode cX2_addSetting 7 = .ok (.if_icmp .lt 4, 3) := by decide +kernel
theorem dX2_addSetting_10 : decode cX2_addSetting 10 = .ok (.return_, 1) := by decide +kernel
theorem dX2_addSetting_11 : decode cX2_addSetting 11 = .ok (.iload_n 1, 1) := by decide +kernel
theorem dX2_addSetting_12 : decode cX2_addSetting 12 = .ok (.iconst 3, 1) := by decide +kernel
theorem dX2_addSetting_13 : decode cX2_addSetting 13 = .ok (.imul, 1) := by decide +kernel
theorem dX2_addSetting_14 : decode cX2_addSetting 14 = .ok (.aload_n 0, 1) := by decide +kernel
theorem dX2_addSetting_15 : decode cX2_addSetting 15 = .ok (.getfield 9, 3) := by decide +kernel
theorem dX2_addSetting_18 : decode cX2_addSetting 18 = .ok (.iload_n 1, 1) := by decide +kernel
theorem dX2_addSetting_19 : decode cX2_addSetting 19 = .ok (.iaload, 1) := by decide +kernel
theorem dX2_addSetting_20 : decode cX2_addSetting 20 = .ok (.iadd, 1) := by decide +kernel
theorem dX2_addSetting_21 : decode cX2_addSetting 21 = .ok (.iconst 5, 1) := by decide +kernel
theorem dX2_addSetting_22 : decode cX2_addSetting 22 = .ok (.imul, 1) := by decide +kernel
theorem dX2_addSetting_23 : decode cX2_addSetting 23 = .ok (.istore 4, 2) := by decide +kernel
theorem dX2_addSetting_25 : decode cX2_addSetting 25 = .ok (.aload_n 2, 1) := by decide +kernel
theorem dX2_addSetting_26 : decode cX2_addSetting 26 = .ok (.iload_n 3, 1) := by decide +kernel
theorem dX2_addSetting_27 : decode cX2_addSetting 27 = .ok (.aload_n 0, 1) := by decide +kernel
theorem dX2_addSetting_28 : decode cX2_addSetting 28 = .ok (.getfield 21, 3) := by decide +kernel
theorem dX2_addSetting_31 : decode cX2_addSetting 31 = .ok (.iload 4, 2) := by decide +kernel
theorem dX2_addSetting_33 : decode cX2_addSetting 33 = .ok (.iconst 5, 1) := by decide +kernel
theorem dX2_addSetting_34 : decode cX2_addSetting 34 = .ok (.invokestatic 46, 3) := by decide +kernel
theorem dX2_addSetting_37 : decode cX2_addSetting 37 = .ok (.aload_n 0, 1) := by decide +kernel
theorem dX2_addSetting_38 : decode cX2_addSetting 38 = .ok (.getfield 9, 3) := by decide +kernel
theorem dX2_addSetting_41 : decode cX2_addSetting 41 = .ok (.iload_n 1, 1) := by decide +kernel
theorem dX2_addSetting_42 : decode cX2_addSetting 42 = .ok (.dup2, 1) := by decide +kernel
theorem dX2_addSetting_43 : decode cX2_addSetting 43 = .ok (.iaload, 1) := by decide +kernel
theorem dX2_addSetting_44 : decode cX2_addSetting 44 = .ok (.iconst 1, 1) := by decide +kernel
theorem dX2_addSetting_45 : decode cX2_addSetting 45 = .ok (.iadd, 1) := by decide +kernel
theorem dX2_addSetting_46 : decode cX2_addSetting 46 = .ok (.iastore, 1) := by decide +kernel
theorem dX2_addSetting_47 : decode cX2_addSetting 47 = .ok (.return_, 1) := by decide +kernel
abbrev rmX2_addSetting : Room := { frames := 1, cells := 0, slots := 0, locals := 18 }
theorem cb_X2_addSetting : CBn yX2_addSetting 3 := ⟨by decide +kernel, by decide +kernel, by decide +kernel⟩
def FX2_addSetting (n : Nat) (a_p1 : Nat → Int32) (a_settings : Nat → Int32) (a_percents : Nat → Int32) (z1 : Int32) (z3 : Int32) : Option (Unit × (Nat → Int32) × (Nat → Int32)) := if ¬ (z1 < 0 ∨ 5 ≤ (z1).toNatClampNeg) then (if (a_settings (z1).toNatClampNeg) < (3 : Int32) then (if ¬ (z1 < 0 ∨ 5 ≤ (z1).toNatClampNeg) then (lt1 (((z1 * (3 : Int32)) + (a_settings (z1).toNatClampNeg)) * (5 : Int32)) (fun x_4 => if ¬ z3 < 0 ∧ ¬ x_4 < 0 ∧ ¬ (5 : Int32) < 0 ∧ (z3).toNatClampNeg + ((5 : Int32)).toNatClampNeg ≤ 400 ∧ (x_4).toNatClampNeg + ((5 : Int32)).toNatClampNeg ≤ 75 then (lt1 (va_cpy a_p1 a_percents (z3).toNatClampNeg (x_4).toNatClampNeg ((5 : Int32)).toNatClampNeg) (fun f_6 => if ¬ (z1 < 0 ∨ 5 ≤ (z1).toNatClampNeg) then (lt1 ((a_settings (z1).toNatClampNeg) + (1 : Int32)) (fun x_8 => if ¬ (z1 < 0 ∨ 5 ≤ (z1).toNatClampNeg) then (lt1 (upd a_settings (z1).toNatClampNeg x_8) (fun f_10 => some ((), f_10, f_6))) else none)) else none)) else none)) else none) else (some ((), a_settings, a_percents))) else none
set_option maxHeartbeats 4000000 in
set_option maxRecDepth 100000 in
theorem kX2_addSetting (l : Launch) (D : va_G) (cB cI cJ cZ : ClassId) (rz n sz : Nat) (h_t : Nat) (h_p1 : Nat) (h_settings : Nat) (h_percents : Nat) (h_yesLeads : Nat) (h_noLeads : Nat) (h_grades : Nat) (h_gradeKinds : Nat) (h_gradePurities : Nat) (h_gradePrices : Nat) (v_units : Int32) (a_p1 : Nat → Int32) (a_settings : Nat → Int32) (a_percents : Nat → Int32) (z1 : Int32) (z3 : Int32) (hN : FX2_addSetting n a_p1 a_settings a_percents z1 z3 ≠ none) : Met l yX2_addSetting (Cond.code yX2_addSetting cX2_addSetting 5 none :: AL) rmX2_addSetting (PW D cB cI cJ cZ rz [.ref h_t, .int z1, .ref h_p1, .int z3] [(h_t, .inr (2, [.int v_units, .ref h_settings, .ref h_yesLeads, .ref h_noLeads, .ref h_percents, .ref h_grades, .ref h_gradeKinds, .ref h_gradePurities, .ref h_gradePrices])), (h_p1, .inl (cI, 400, .inl a_p1)), (h_settings, .inl (cI, 5, .inl a_settings)), (h_percents, .inl (cI, 75, .inl a_percents))] sz) (QV D (FX2_addSetting n a_p1 a_settings a_percents z1 z3) (fun u => [(h_t, .inr (2, [.int v_units, .ref h_settings, .ref h_yesLeads, .ref h_noLeads, .ref h_percents, .ref h_grades, .ref h_gradeKinds, .ref h_gradePurities, .ref h_gradePrices])), (h_p1, .inl (cI, 400, .inl a_p1)), (h_settings, .inl (cI, 5, .inl u.2.1)), (h_percents, .inl (cI, 75, .inl u.2.2))]) (va_A [(h_t, .inr (2, [.int v_units, .ref h_settings, .ref h_yesLeads, .ref h_noLeads, .ref h_percents, .ref h_grades, .ref h_gradeKinds, .ref h_gradePurities, .ref h_gradePrices])), (h_p1, .inl (cI, 400, .inl a_p1)), (h_settings, .inl (cI, 5, .inl a_settings)), (h_percents, .inl (cI, 75, .inl a_percents))] sz)) 0 0 (va_A [(h_t, .inr (2, [.int v_units, .ref h_settings, .ref h_yesLeads, .ref h_noLeads, .ref h_percents, .ref h_grades, .ref h_gradeKinds, .ref h_gradePurities, .ref h_gradePrices])), (h_p1, .inl (cI, 400, .inl a_p1)), (h_settings, .inl (cI, 5, .inl a_settings)), (h_percents, .inl (cI, 75, .inl a_percents))] sz) := by
  obtain ⟨O, hF⟩ : ∃ O, FX2_addSetting n a_p1 a_settings a_percents z1 z3 = O := ⟨_, rfl⟩
  rw [hF] at hN ⊢
  refine enterV (cc := cX2_addSetting) (nL := 5) (by decide) (Nat.le_of_ble_eq_true rfl) ?_
  intro p e s m below meth c A Q X hA hE hnm hsz hP hD hS hret ls hl
  obtain ⟨hx, hb, hml, hown0, ha⟩ := id X
  have hown : s.vm.findClass RX2 = some m.cls := hown0
  have hK := hE.1
  have hl : lv_has ls 5 [(0, .ref h_t), (1, .int z1), (2, .ref h_p1), (3, .int z3)] := hl
  have hX : CallFix p m c cX2_addSetting 5 s ([.ref h_t, .int z1, .ref h_p1, .int z3] : List Value).toArray AL RX2 := X
  have X := hX
  unfold FX2_addSetting at hF
  obtain ⟨H, hH⟩ : ∃ H, H = s.heap := ⟨_, rfl⟩
  obtain ⟨locs, hlo⟩ : ∃ locs : List Loc, locs = [] := ⟨_, rfl⟩
  have hS : va_S A s.heap H locs := by rw [hH, hlo]; exact hS
  rw [← hH] at hP
  have goal : W p l e rmX2_addSetting s m ([.ref h_t, .int z1, .ref h_p1, .int z3] : List Value).toArray below meth c H locs 0 0 Q (F0 m 0 ls []) := by
    refine lv_aload_n hx hb dX2_addSetting_0 rfl (lv_at hl 0 rfl) ?_
    refine va_get (D := D) (ci := 2) (C := RX2) (T := TX2) (N := 9) hx hb ha inAX2 hown hK hP 0 rfl rfl 1 (by decide) (ha _ w_1_31) (fun _ h9 => h9) rfl dX2_addSetting_1 ?_
    refine lv_iload_n hx hb dX2_addSetting_4 rfl (lv_at hl 1 rfl) ?_
    replace hF := ckP hN hF
    obtain ⟨c_1, hF⟩ := hF
    refine ld_i hx hb hK hP 2 rfl c_1 dX2_addSetting_5 ?_
    refine lv_iconst (v := 3) hx hb dX2_addSetting_6 (by decide) ?_
    refine lv_icmp_lt (tgt := 11) hx hb dX2_addSetting_7 (by decide) (fun c_2 => ?_) (fun c_2 => ?_)
    · replace hF := ifT c_2 hF
      refine lv_iload_n hx hb dX2_addSetting_11 rfl (lv_at hl 1 rfl) ?_
      refine lv_iconst (v := 3) hx hb dX2_addSetting_12 (by decide) ?_
      refine lv_imul hx hb dX2_addSetting_13 ?_
      refine lv_aload_n hx hb dX2_addSetting_14 rfl (lv_at hl 0 rfl) ?_
      refine va_get (D := D) (ci := 2) (C := RX2) (T := TX2) (N := 9) hx hb ha inAX2 hown hK hP 0 rfl rfl 1 (by decide) (ha _ w_1_31) (fun _ h9 => h9) rfl dX2_addSetting_15 ?_
      refine lv_iload_n hx hb dX2_addSetting_18 rfl (lv_at hl 1 rfl) ?_
      replace hF := ckP hN hF
      obtain ⟨c_3, hF⟩ := hF
      refine ld_i hx hb hK hP 2 rfl c_3 dX2_addSetting_19 ?_
      refine lv_iadd hx hb dX2_addSetting_20 ?_
      refine lv_iconst (v := 5) hx hb dX2_addSetting_21 (by decide) ?_
      refine lv_imul hx hb dX2_addSetting_22 ?_
      refine lv_topi (fun x_4 ex_4 => ?_)
      replace hF := ltP ex_4 hF
      refine lv_istore (lv' := [(4, .int x_4), (0, .ref h_t), (1, .int z1), (2, .ref h_p1), (3, .int z3)]) hx hb dX2_addSetting_23 hl (by decide) rfl (fun ls hl => ?_)
      refine lv_aload_n hx hb dX2_addSetting_25 rfl (lv_at hl 3 rfl) ?_
      refine lv_iload_n hx hb dX2_addSetting_26 rfl (lv_at hl 4 rfl) ?_
      refine lv_aload_n hx hb dX2_addSetting_27 rfl (lv_at hl 1 rfl) ?_
      refine va_get (D := D) (ci := 2) (C := RX2) (T := TX2) (N := 9) hx hb ha inAX2 hown hK hP 0 rfl rfl 4 (by decide) (ha _ w_1_42) (fun _ h9 => h9) rfl dX2_addSetting_28 ?_
      refine lv_iload hx hb dX2_addSetting_31 (lv_at hl 0 rfl) ?_
      refine lv_iconst (v := 5) hx hb dX2_addSetting_33 (by decide) ?_
      replace hF := ckP hN hF
      obtain ⟨c_5, hF⟩ := hF
      obtain ⟨f_6, ef_6⟩ : ∃ g : Nat → Int32, g = va_cpy a_p1 a_percents (z3).toNatClampNeg (x_4).toNatClampNeg ((5 : Int32)).toNatClampNeg := ⟨_, rfl⟩
      replace hF := ltP ef_6 hF
      refine va_copyi (ty := .int) hx hb (by rw [hml]; exact hl.1.symm) hown (ha _ w_2_141) (ha _ w_2_143) (ha _ w_2_142) (ha _ w_1_10) hK hP hD hS 1 3 1 1 rfl rfl rfl rfl rfl c_5.1 c_5.2.1 c_5.2.2.1 c_5.2.2.2.1 c_5.2.2.2.2 (fun _ _ => rfl) (Nat.le_of_ble_eq_true rfl) (Nat.le_of_ble_eq_true rfl) dX2_addSetting_34 (fun H locs hP hD hS => ?_)
      rw [← ef_6] at hP hD
      have hP : va_P D classes [(h_t, .inr (2, [.int v_units, .ref h_settings, .ref h_yesLeads, .ref h_noLeads, .ref h_percents, .ref h_grades, .ref h_gradeKinds, .ref h_gradePurities, .ref h_gradePrices])), (h_p1, .inl (cI, 400, .inl a_p1)), (h_settings, .inl (cI, 5, .inl a_settings)), (h_percents, .inl (cI, 75, .inl f_6))] H := hP
      have hD : va_D A [(h_t, .inr (2, [.int v_units, .ref h_settings, .ref h_yesLeads, .ref h_noLeads, .ref h_percents, .ref h_grades, .ref h_gradeKinds, .ref h_gradePurities, .ref h_gradePrices])), (h_p1, .inl (cI, 400, .inl a_p1)), (h_settings, .inl (cI, 5, .inl a_settings)), (h_percents, .inl (cI, 75, .inl f_6))] := hD
      refine lv_aload_n hx hb dX2_addSetting_37 rfl (lv_at hl 1 rfl) ?_
      refine va_get (D := D) (ci := 2) (C := RX2) (T := TX2) (N := 9) hx hb ha inAX2 hown hK hP 0 rfl rfl 1 (by decide) (ha _ w_1_31) (fun _ h9 => h9) rfl dX2_addSetting_38 ?_
      refine lv_iload_n hx hb dX2_addSetting_41 rfl (lv_at hl 2 rfl) ?_
      refine lv_dup2_11 hx hb dX2_addSetting_42 rfl rfl ?_
      replace hF := ckP hN hF
      obtain ⟨c_7, hF⟩ := hF
      refine ld_i hx hb hK hP 2 rfl c_7 dX2_addSetting_43 ?_
      refine lv_iconst (v := 1) hx hb dX2_addSetting_44 (by decide) ?_
      refine lv_iadd hx hb dX2_addSetting_45 ?_
      refine lv_topi (fun x_8 ex_8 => ?_)
      replace hF := ltP ex_8 hF
      replace hF := ckP hN hF
      obtain ⟨c_9, hF⟩ := hF
      obtain ⟨f_10, ef_10⟩ : ∃ g : Nat → Int32, g = upd a_settings (z1).toNatClampNeg x_8 := ⟨_, rfl⟩
      replace hF := ltP ef_10 hF
      refine st_i (g := f_10) (W2 := [(h_t, .inr (2, [.int v_units, .ref h_settings, .ref h_yesLeads, .ref h_noLeads, .ref h_percents, .ref h_grades, .ref h_gradeKinds, .ref h_gradePurities, .ref h_gradePrices])), (h_p1, .inl (cI, 400, .inl a_p1)), (h_settings, .inl (cI, 5, .inl f_10)), (h_percents, .inl (cI, 75, .inl f_6))]) hx hb hK hP hD hS 2 rfl c_9 ef_10 dX2_addSetting_46 rfl (fun H locs hP hD hS => ?_)
      exact hret ((), f_10, f_6) H locs ls _ hF hP hD hS dX2_addSetting_47
    · replace hF := ifF c_2 hF
      exact hret ((), a_settings, a_percents) H locs ls _ hF hP hD hS dX2_addSetting_10
  rw [hH, hlo] at goal
  exact goal
theorem dX4_init_0 : decode cX4_init 0 = .ok (.aload_n 0, 1) := by decide +kernel
theorem dX4_init_1 : decode cX4_init 1 = .ok (.invokespecial 3, 3) := by decide +kernel
theorem dX4_init_4 : decode cX4_init 4 = .ok (.aload_n 0, 1) := by decide +kernel
theorem dX4_init_5 : decode cX4_init 5 = .ok (.sipush 1200, 3) := by decide +kernel
theorem dX4_init_8 : decode cX4_init 8 = .ok (.newarray .byte, 2) := by decide +kernel
theorem dX4_init_10 : decode cX4_init 10 = .ok (.putfield 9, 3) := by decide +kernel
theorem dX4_init_13 : decode cX4_init 13 = .ok (.return_, 1) := by decide +kernel
abbrev rmX4_init : Room := { frames := 1, cells := 1, slots := 1200, locals := 12 }
theorem cb_X4_init : CBn yX4_init 0 := ⟨by decide +kernel, by decide +kernel, by decide +kernel⟩
def FX4_init (n : Nat) : Option (Unit × Unit) := some ((), ())
set_option maxHeartbeats 4000000 in
set_option maxRecDepth 100000 in
theorem kX4_init (l : Launch) (D : va_G) (cB cI cJ cZ : ClassId) (rz n sz : Nat) (h_t : Nat) (hN : FX4_init n ≠ none) : Met l yX4_init (Cond.code yX4_init cX4_init 1 none :: AL) rmX4_init (PW D cB cI cJ cZ rz [.ref h_t] [(h_t, .inr (4, [.null, .int (0 : Int32), .int (0 : Int32), .int (0 : Int32), .int (0 : Int32), .int (0 : Int32), .long (0 : Int64), .int (0 : Int32)]))] sz) (QN D (FX4_init n) (fun u q => [(h_t, .inr (4, [.ref (q.getD 0 0), .int (0 : Int32), .int (0 : Int32), .int (0 : Int32), .int (0 : Int32), .int (0 : Int32), .long (0 : Int64), .int (0 : Int32)])), ((q.getD 0 0), .inl (cB, 1200, .inl (fun _ => 0)))]) 1 (va_A [(h_t, .inr (4, [.null, .int (0 : Int32), .int (0 : Int32), .int (0 : Int32), .int (0 : Int32), .int (0 : Int32), .long (0 : Int64), .int (0 : Int32)]))] sz)) 1 1200 (va_A [(h_t, .inr (4, [.null, .int (0 : Int32), .int (0 : Int32), .int (0 : Int32), .int (0 : Int32), .int (0 : Int32), .long (0 : Int64), .int (0 : Int32)]))] sz) := by
  obtain ⟨O, hF⟩ : ∃ O, FX4_init n = O := ⟨_, rfl⟩
  rw [hF] at hN ⊢
  refine enterN (cc := cX4_init) (nL := 1) (by decide) (Nat.le_of_ble_eq_true rfl) ?_
  intro p e s m below meth c A Q X hA hE hnm hsz hP hD hS hret ls hl
  obtain ⟨hx, hb, hml, hown0, ha⟩ := id X
  have hown : s.vm.findClass RX4 = some m.cls := hown0
  have hK := hE.1
  have hl : lv_has ls 1 [(0, .ref h_t)] := hl
  have hX : CallFix p m c cX4_init 1 s ([.ref h_t] : List Value).toArray AL RX4 := X
  have X := hX
  unfold FX4_init at hF
  obtain ⟨H, hH⟩ : ∃ H, H = s.heap := ⟨_, rfl⟩
  obtain ⟨locs, hlo⟩ : ∃ locs : List Loc, locs = [] := ⟨_, rfl⟩
  have hS : va_S A s.heap H locs := by rw [hH, hlo]; exact hS
  rw [← hH] at hP
  have goal : W p l e rmX4_init s m ([.ref h_t] : List Value).toArray below meth c H locs 0 0 Q (F0 m 0 ls []) := by
    refine lv_aload_n hx hb dX4_init_0 rfl (lv_at hl 0 rfl) ?_
    refine W.objInit hx hb hown (ha _ w_1_85) (ha _ w_1_19) (ha _ w_1_20) rfl (by rw [hml]; exact hl.1) rfl dX4_init_1 (Nat.le_of_ble_eq_true rfl) (Nat.le_of_ble_eq_true rfl) ?_
    refine W.eq (g2 := F0 m 4 ls []) rfl ?_
    refine lv_aload_n hx hb dX4_init_4 rfl (lv_at hl 0 rfl) ?_
    refine lv_sipush (v := 1200) hx hb dX4_init_5 (by decide) ?_
    refine nw_b (N' := 1200) hx hb (ha _ w_1_117) hK hP hD hS hA (by decide) (by decide) (by decide) (Nat.le_of_ble_eq_true rfl) (Nat.le_of_ble_eq_true rfl) (c2 := 1) (s2 := 1200) rfl rfl dX4_init_8 (fun q_1 H hP hD hS => ?_)
    have hP : va_P D classes [(h_t, .inr (4, [.null, .int (0 : Int32), .int (0 : Int32), .int (0 : Int32), .int (0 : Int32), .int (0 : Int32), .long (0 : Int64), .int (0 : Int32)])), (q_1, .inl (cB, 1200, .inl (fun _ => 0)))] H := hP
    have hD : va_D A [(h_t, .inr (4, [.null, .int (0 : Int32), .int (0 : Int32), .int (0 : Int32), .int (0 : Int32), .int (0 : Int32), .long (0 : Int64), .int (0 : Int32)])), (q_1, .inl (cB, 1200, .inl (fun _ => 0)))] := hD
    refine ptF (C := RX4) (T := TX4) (N := 8) (ci := 4) (v := .ref q_1) (W2 := [(h_t, .inr (4, [.ref q_1, .int (0 : Int32), .int (0 : Int32), .int (0 : Int32), .int (0 : Int32), .int (0 : Int32), .long (0 : Int64), .int (0 : Int32)])), (q_1, .inl (cB, 1200, .inl (fun _ => 0)))]) hx hb ha inAX4 tyX4 tyX4_ok nmX4 hown hK hP hD hS 0 rfl rfl 0 (by decide) (ha _ w_1_86) rfl rfl hnm rfl rfl rfl (Nat.le_of_ble_eq_true rfl) dX4_init_10 rfl (fun H locs hP hD hS => ?_)
    exact hret ((), ()) [q_1] H locs ls _ hF rfl hP hD hS dX4_init_13
  rw [hH, hlo] at goal
  exact goal
theorem dX3_init_0 : decode cX3_init 0 = .ok (.aload_n 0, 1) := by decide +kernel
theorem dX3_init_1 : decode cX3_init 1 = .ok (.invokespecial 3, 3) := by decide +kernel
theorem dX3_init_4 : decode cX3_init 4 = .ok (.aload_n 0, 1) := by decide +kernel
theorem dX3_init_5 : decode cX3_init 5 = .ok (.new 9, 3) := by decide +kernel
theorem dX3_init_8 : decode cX3_init 8 = .ok (.dup, 1) := by decide +kernel
theorem dX3_init_9 : decode cX3_init 9 = .ok (.invokespecial 11, 3) := by decide +kernel
theorem dX3_init_12 : decode cX3_init 12 = .ok (.putfield 12, 3) := by decide +kernel
theorem dX3_init_15 : decode cX3_init 15 = .ok (.aload_n 0, 1) := by decide +kernel
theorem dX3_init_16 : decode cX3_init 16 = .ok (.new 18, 3) := by decide +kernel
theorem dX3_init_19 : decode cX3_init 19 = .ok (.dup, 1) := by decide +kernel
theorem dX3_init_20 : decode cX3_init 20 = .ok (.invokespecial 20, 3) := by decide +kernel
theorem dX3_init_23 : decode cX3_init 23 = .ok (.putfield 21, 3) := by decide +kernel
theorem dX3_init_26 : decode cX3_init 26 = .ok (.aload_n 0, 1) := by decide +kernel
theorem dX3_init_27 : decode cX3_init 27 = .ok (.bipush 96, 2) := by decide +kernel
theorem dX3_init_29 : decode cX3_init 29 = .ok (.newarray .long, 2) := by decide +kernel
theorem dX3_init_31 : decode cX3_init 31 = .ok (.putfield 25, 3) := by decide +kernel
theorem dX3_init_34 : decode cX3_init 34 = .ok (.aload_n 0, 1) := by decide +kernel
theorem dX3_init_35 : decode cX3_init 35 = .ok (.bipush 96, 2) := by decide +kernel
theorem dX3_init_37 : decode cX3_init 37 = .ok (.newarray .int, 2) := by decide +kernel
theorem dX3_init_39 : decode cX3_init 39 = .ok (.putfield 29, 3) := by decide +kernel
theorem dX3_init_42 : decode cX3_init 42 = .ok (.aload_n 0, 1) := by decide +kernel
theorem dX3_init_43 : decode cX3_init 43 = .ok (.bipush 96, 2) := by decide +kernel
theorem dX3_init_45 : decode cX3_init 45 = .ok (.newarray .int, 2) := by decide +kernel
theorem dX3_init_47 : decode cX3_init 47 = .ok (.putfield 33, 3) := by decide +kernel
theorem dX3_init_50 : decode cX3_init 50 = .ok (.aload_n 0, 1) := by decide +kernel
theorem dX3_init_51 : decode cX3_init 51 = .ok (.bipush 96, 2) := by decide +kernel
theorem dX3_init_53 : decode cX3_init 53 = .ok (.newarray .int, 2) := by decide +kernel
theorem dX3_init_55 : decode cX3_init 55 = .ok (.putfield 36, 3) := by decide +kernel
theorem dX3_init_58 : decode cX3_init 58 = .ok (.aload_n 0, 1) := by decide +kernel
theorem dX3_init_59 : decode cX3_init 59 = .ok (.bipush 80, 2) := by decide +kernel
theorem dX3_init_61 : decode cX3_init 61 = .ok (.newarray .int, 2) := by decide +kernel
theorem dX3_init_63 : decode cX3_init 63 = .ok (.putfield 39, 3) := by decide +kernel
theorem dX3_init_66 : decode cX3_init 66 = .ok (.aload_n 0, 1) := by decide +kernel
theorem dX3_init_67 : decode cX3_init 67 = .ok (.sipush 400, 3) := by decide +kernel
theorem dX3_init_70 : decode cX3_init 70 = .ok (.newarray .int, 2) := by decide +kernel
theorem dX3_init_72 : decode cX3_init 72 = .ok (.putfield 42, 3) := by decide +kernel
theorem dX3_init_75 : decode cX3_init 75 = .ok (.return_, 1) := by decide +kernel
abbrev rmX3_init : Room := { frames := 2, cells := 17, slots := 2211, locals := 32 }
theorem cb_X3_init : CBn yX3_init 0 := ⟨by decide +kernel, by decide +kernel, by decide +kernel⟩
def FX3_init (n : Nat) : Option (Unit × Unit) := bd (FX4_init n) (fun u_3 => bd (FX2_init n) (fun u_7 => some ((), ())))
set_option maxHeartbeats 4000000 in
set_option maxRecDepth 100000 in
theorem kX3_init (l : Launch) (D : va_G) (cB cI cJ cZ : ClassId) (rz n sz : Nat) (h_t : Nat) (hN : FX3_init n ≠ none) : Met l yX3_init (Cond.code yX3_init cX3_init 1 none :: AL) rmX3_init (PW D cB cI cJ cZ rz [.ref h_t] [(h_t, .inr (3, [.int (0 : Int32), .int (0 : Int32), .null, .null, .null, .null, .null, .null, .int (0 : Int32), .null, .null, .int (0 : Int32)]))] sz) (QN D (FX3_init n) (fun u q => [(h_t, .inr (3, [.int (0 : Int32), .int (0 : Int32), .ref (q.getD 0 0), .ref (q.getD 2 0), .ref (q.getD 11 0), .ref (q.getD 12 0), .ref (q.getD 13 0), .ref (q.getD 14 0), .int (0 : Int32), .ref (q.getD 15 0), .ref (q.getD 16 0), .int (0 : Int32)])), ((q.getD 0 0), .inr (4, [.ref (q.getD 1 0), .int (0 : Int32), .int (0 : Int32), .int (0 : Int32), .int (0 : Int32), .int (0 : Int32), .long (0 : Int64), .int (0 : Int32)])), ((q.getD 1 0), .inl (cB, 1200, .inl (fun _ => 0))), ((q.getD 2 0), .inr (2, [.int (0 : Int32), .ref (q.getD 3 0), .ref (q.getD 4 0), .ref (q.getD 5 0), .ref (q.getD 6 0), .ref (q.getD 7 0), .ref (q.getD 8 0), .ref (q.getD 9 0), .ref (q.getD 10 0)])), ((q.getD 3 0), .inl (cI, 5, .inl (fun _ => 0))), ((q.getD 4 0), .inl (cI, 5, .inl (fun _ => 0))), ((q.getD 5 0), .inl (cI, 5, .inl (fun _ => 0))), ((q.getD 6 0), .inl (cI, 75, .inl (fun _ => 0))), ((q.getD 7 0), .inl (cI, 4, .inl (fun _ => 0))), ((q.getD 8 0), .inl (cI, 4, .inl (fun _ => 0))), ((q.getD 9 0), .inl (cI, 16, .inl (fun _ => 0))), ((q.getD 10 0), .inl (cI, 16, .inl (fun _ => 0))), ((q.getD 11 0), .inl (cJ, 96, .inr (.inl (fun _ => 0)))), ((q.getD 12 0), .inl (cI, 96, .inl (fun _ => 0))), ((q.getD 13 0), .inl (cI, 96, .inl (fun _ => 0))), ((q.getD 14 0), .inl (cI, 96, .inl (fun _ => 0))), ((q.getD 15 0), .inl (cI, 80, .inl (fun _ => 0))), ((q.getD 16 0), .inl (cI, 400, .inl (fun _ => 0)))]) 17 (va_A [(h_t, .inr (3, [.int (0 : Int32), .int (0 : Int32), .null, .null, .null, .null, .null, .null, .int (0 : Int32), .null, .null, .int (0 : Int32)]))] sz)) 17 2211 (va_A [(h_t, .inr (3, [.int (0 : Int32), .int (0 : Int32), .null, .null, .null, .null, .null, .null, .int (0 : Int32), .null, .null, .int (0 : Int32)]))] sz) := by
  obtain ⟨O, hF⟩ : ∃ O, FX3_init n = O := ⟨_, rfl⟩
  rw [hF] at hN ⊢
  refine enterN (cc := cX3_init) (nL := 1) (by decide) (Nat.le_of_ble_eq_true rfl) ?_
  intro p e s m below meth c A Q X hA hE hnm hsz hP hD hS hret ls hl
  obtain ⟨hx, hb, hml, hown0, ha⟩ := id X
  have hown : s.vm.findClass RX3 = some m.cls := hown0
  have hK := hE.1
  have hl : lv_has ls 1 [(0, .ref h_t)] := hl
  have hX : CallFix p m c cX3_init 1 s ([.ref h_t] : List Value).toArray AL RX3 := X
  have X := hX
  unfold FX3_init at hF
  obtain ⟨H, hH⟩ : ∃ H, H = s.heap := ⟨_, rfl⟩
  obtain ⟨locs, hlo⟩ : ∃ locs : List Loc, locs = [] := ⟨_, rfl⟩
  have hS : va_S A s.heap H locs := by rw [hH, hlo]; exact hS
  rw [← hH] at hP
  have goal : W p l e rmX3_init s m ([.ref h_t] : List Value).toArray below meth c H locs 0 0 Q (F0 m 0 ls []) := by
    refine lv_aload_n hx hb dX3_init_0 rfl (lv_at hl 0 rfl) ?_
    refine W.objInit hx hb hown (ha _ w_1_79) (ha _ w_1_19) (ha _ w_1_20) rfl (by rw [hml]; exact hl.1) rfl dX3_init_1 (Nat.le_of_ble_eq_true rfl) (Nat.le_of_ble_eq_true rfl) ?_
    refine W.eq (g2 := F0 m 4 ls []) rfl ?_
    refine lv_aload_n hx hb dX3_init_4 rfl (lv_at hl 0 rfl) ?_
    refine va_new (ci := 4) (fs := [.null, .int 0, .int 0, .int 0, .int 0, .int 0, .long 0, .int 0]) (C := RX4) (T := TX4) (N := 8) hx hb ha inAX4 tyX4 tyX4_ok hown (ha _ w_1_80) (ha _ w_1_81) (ha _ w_1_4) hK hP hD hS hA rfl (fun j hj => by match j, hj with | 0, _ => rfl | 1, _ => rfl | 2, _ => rfl | 3, _ => rfl | 4, _ => rfl | 5, _ => rfl | 6, _ => rfl | 7, _ => rfl | j + 8, hj => exact absurd hj (by omega)) (Nat.le_of_ble_eq_true rfl) (Nat.le_of_ble_eq_true rfl) dX3_init_5 (fun q_1 H hP hD hS => ?_)
    have hP : va_P D classes [(h_t, .inr (3, [.int (0 : Int32), .int (0 : Int32), .null, .null, .null, .null, .null, .null, .int (0 : Int32), .null, .null, .int (0 : Int32)])), (q_1, .inr (4, [.null, .int (0 : Int32), .int (0 : Int32), .int (0 : Int32), .int (0 : Int32), .int (0 : Int32), .long (0 : Int64), .int (0 : Int32)]))] H := hP
    have hD : va_D A [(h_t, .inr (3, [.int (0 : Int32), .int (0 : Int32), .null, .null, .null, .null, .null, .null, .int (0 : Int32), .null, .null, .int (0 : Int32)])), (q_1, .inr (4, [.null, .int (0 : Int32), .int (0 : Int32), .int (0 : Int32), .int (0 : Int32), .int (0 : Int32), .long (0 : Int64), .int (0 : Int32)]))] := hD
    refine W.widen (k := 1) (n := 8) (Nat.le_refl _) (Nat.le_refl _) ?_
    refine lv_dup hx hb dX3_init_8 rfl ?_
    have hn_2 := bdN hN hF
    refine callINN (As := []) (rest := [.ref q_1, .ref h_t]) (wr := [(h_t, .inr (3, [.int (0 : Int32), .int (0 : Int32), .null, .null, .null, .null, .null, .null, .int (0 : Int32), .null, .null, .int (0 : Int32)]))]) (W2 := fun u_3 q_4 => [(h_t, .inr (3, [.int (0 : Int32), .int (0 : Int32), .null, .null, .null, .null, .null, .null, .int (0 : Int32), .null, .null, .int (0 : Int32)])), (q_1, .inr (4, [.ref (q_4.getD 0 0), .int (0 : Int32), .int (0 : Int32), .int (0 : Int32), .int (0 : Int32), .int (0 : Int32), .long (0 : Int64), .int (0 : Int32)])), ((q_4.getD 0 0), .inl (cB, 1200, .inl (fun _ => 0)))]) X hE hP hD hS hA (kX4_init l D cB cI cJ cZ rz n H.size q_1 hn_2) w_1_82 w_1_83 rfl w_1_4 w_1_84 cb_X4_init rfl rfl ⟨Nat.le_of_ble_eq_true rfl, Nat.le_of_ble_eq_true rfl⟩ rfl hl.1 rfl (Nat.le_of_ble_eq_true rfl) dX3_init_9 ⟨Nat.le_of_ble_eq_true rfl, Nat.le_of_ble_eq_true rfl⟩ (c2 := 2) (s2 := 1208) rfl rfl [1] [0] [0, 1, 2] rfl rfl (by decide) (by decide) (by decide) (by decide) (fun _ _ => rfl) (fun u_3 q_4 H locs hG hqq_4 hP hD hS => ?_)
    replace hF := bdQ hG hF
    refine ptF (C := RX3) (T := TX3) (N := 12) (ci := 3) (v := .ref q_1) (W2 := [(h_t, .inr (3, [.int (0 : Int32), .int (0 : Int32), .ref q_1, .null, .null, .null, .null, .null, .int (0 : Int32), .null, .null, .int (0 : Int32)])), (q_1, .inr (4, [.ref (q_4.getD 0 0), .int (0 : Int32), .int (0 : Int32), .int (0 : Int32), .int (0 : Int32), .int (0 : Int32), .long (0 : Int64), .int (0 : Int32)])), ((q_4.getD 0 0), .inl (cB, 1200, .inl (fun _ => 0)))]) hx hb ha inAX3 tyX3 tyX3_ok nmX3 hown hK hP hD hS 0 rfl rfl 2 (by decide) (ha _ w_1_124) rfl rfl hnm rfl rfl rfl (Nat.le_of_ble_eq_true rfl) dX3_init_12 rfl (fun H locs hP hD hS => ?_)
    refine lv_aload_n hx hb dX3_init_15 rfl (lv_at hl 0 rfl) ?_
    refine va_new (ci := 2) (fs := [.int 0, .null, .null, .null, .null, .null, .null, .null, .null]) (C := RX2) (T := TX2) (N := 9) hx hb ha inAX2 tyX2 tyX2_ok hown (ha _ w_1_118) (ha _ w_1_22) (ha _ w_1_2) hK hP hD hS hA rfl (fun j hj => by match j, hj with | 0, _ => rfl | 1, _ => rfl | 2, _ => rfl | 3, _ => rfl | 4, _ => rfl | 5, _ => rfl | 6, _ => rfl | 7, _ => rfl | 8, _ => rfl | j + 9, hj => exact absurd hj (by omega)) (Nat.le_of_ble_eq_true rfl) (Nat.le_of_ble_eq_true rfl) dX3_init_16 (fun q_5 H hP hD hS => ?_)
    have hP : va_P D classes [(h_t, .inr (3, [.int (0 : Int32), .int (0 : Int32), .ref q_1, .null, .null, .null, .null, .null, .int (0 : Int32), .null, .null, .int (0 : Int32)])), (q_1, .inr (4, [.ref (q_4.getD 0 0), .int (0 : Int32), .int (0 : Int32), .int (0 : Int32), .int (0 : Int32), .int (0 : Int32), .long (0 : Int64), .int (0 : Int32)])), ((q_4.getD 0 0), .inl (cB, 1200, .inl (fun _ => 0))), (q_5, .inr (2, [.int (0 : Int32), .null, .null, .null, .null, .null, .null, .null, .null]))] H := hP
    have hD : va_D A [(h_t, .inr (3, [.int (0 : Int32), .int (0 : Int32), .ref q_1, .null, .null, .null, .null, .null, .int (0 : Int32), .null, .null, .int (0 : Int32)])), (q_1, .inr (4, [.ref (q_4.getD 0 0), .int (0 : Int32), .int (0 : Int32), .int (0 : Int32), .int (0 : Int32), .int (0 : Int32), .long (0 : Int64), .int (0 : Int32)])), ((q_4.getD 0 0), .inl (cB, 1200, .inl (fun _ => 0))), (q_5, .inr (2, [.int (0 : Int32), .null, .null, .null, .null, .null, .null, .null, .null]))] := hD
    refine W.widen (k := 3) (n := 1217) (Nat.le_refl _) (Nat.le_refl _) ?_
    refine lv_dup hx hb dX3_init_19 rfl ?_
    have hn_6 := bdN hN hF
    refine callINN (As := []) (rest := [.ref q_5, .ref h_t]) (wr := [(h_t, .inr (3, [.int (0 : Int32), .int (0 : Int32), .ref q_1, .null, .null, .null, .null, .null, .int (0 : Int32), .null, .null, .int (0 : Int32)])), (q_1, .inr (4, [.ref (q_4.getD 0 0), .int (0 : Int32), .int (0 : Int32), .int (0 : Int32), .int (0 : Int32), .int (0 : Int32), .long (0 : Int64), .int (0 : Int32)])), ((q_4.getD 0 0), .inl (cB, 1200, .inl (fun _ => 0)))]) (W2 := fun u_7 q_8 => [(h_t, .inr (3, [.int (0 : Int32), .int (0 : Int32), .ref q_1, .null, .null, .null, .null, .null, .int (0 : Int32), .null, .null, .int (0 : Int32)])), (q_1, .inr (4, [.ref (q_4.getD 0 0), .int (0 : Int32), .int (0 : Int32), .int (0 : Int32), .int (0 : Int32), .int (0 : Int32), .long (0 : Int64), .int (0 : Int32)])), ((q_4.getD 0 0), .inl (cB, 1200, .inl (fun _ => 0))), (q_5, .inr (2, [.int (0 : Int32), .ref (q_8.getD 0 0), .ref (q_8.getD 1 0), .ref (q_8.getD 2 0), .ref (q_8.getD 3 0), .ref (q_8.getD 4 0), .ref (q_8.getD 5 0), .ref (q_8.getD 6 0), .ref (q_8.getD 7 0)])), ((q_8.getD 0 0), .inl (cI, 5, .inl (fun _ => 0))), ((q_8.getD 1 0), .inl (cI, 5, .inl (fun _ => 0))), ((q_8.getD 2 0), .inl (cI, 5, .inl (fun _ => 0))), ((q_8.getD 3 0), .inl (cI, 75, .inl (fun _ => 0))), ((q_8.getD 4 0), .inl (cI, 4, .inl (fun _ => 0))), ((q_8.getD 5 0), .inl (cI, 4, .inl (fun _ => 0))), ((q_8.getD 6 0), .inl (cI, 16, .inl (fun _ => 0))), ((q_8.getD 7 0), .inl (cI, 16, .inl (fun _ => 0)))]) X hE hP hD hS hA (kX2_init l D cB cI cJ cZ rz n H.size q_5 hn_6) w_1_119 w_1_24 rfl w_1_2 w_1_25 cb_X2_init rfl rfl ⟨Nat.le_of_ble_eq_true rfl, Nat.le_of_ble_eq_true rfl⟩ rfl hl.1 rfl (Nat.le_of_ble_eq_true rfl) dX3_init_20 ⟨Nat.le_of_ble_eq_true rfl, Nat.le_of_ble_eq_true rfl⟩ (c2 := 11) (s2 := 1347) rfl rfl [3] [0, 1, 2] [0, 1, 2, 3, 4, 5, 6, 7, 8, 9, 10, 11] rfl rfl (by decide) (by decide) (by decide) (by decide) (fun _ _ => rfl) (fun u_7 q_8 H locs hG hqq_8 hP hD hS => ?_)
    replace hF := bdQ hG hF
    refine pt (C := RX3) (T := TX3) (N := 12) (ci := 3) (v := .ref q_5) (W2 := [(h_t, .inr (3, [.int (0 : Int32), .int (0 : Int32), .ref q_1, .ref q_5, .null, .null, .null, .null, .int (0 : Int32), .null, .null, .int (0 : Int32)])), (q_1, .inr (4, [.ref (q_4.getD 0 0), .int (0 : Int32), .int (0 : Int32), .int (0 : Int32), .int (0 : Int32), .int (0 : Int32), .long (0 : Int64), .int (0 : Int32)])), ((q_4.getD 0 0), .inl (cB, 1200, .inl (fun _ => 0))), (q_5, .inr (2, [.int (0 : Int32), .ref (q_8.getD 0 0), .ref (q_8.getD 1 0), .ref (q_8.getD 2 0), .ref (q_8.getD 3 0), .ref (q_8.getD 4 0), .ref (q_8.getD 5 0), .ref (q_8.getD 6 0), .ref (q_8.getD 7 0)])), ((q_8.getD 0 0), .inl (cI, 5, .inl (fun _ => 0))), ((q_8.getD 1 0), .inl (cI, 5, .inl (fun _ => 0))), ((q_8.getD 2 0), .inl (cI, 5, .inl (fun _ => 0))), ((q_8.getD 3 0), .inl (cI, 75, .inl (fun _ => 0))), ((q_8.getD 4 0), .inl (cI, 4, .inl (fun _ => 0))), ((q_8.getD 5 0), .inl (cI, 4, .inl (fun _ => 0))), ((q_8.getD 6 0), .inl (cI, 16, .inl (fun _ => 0))), ((q_8.getD 7 0), .inl (cI, 16, .inl (fun _ => 0)))]) hx hb ha inAX3 tyX3 tyX3_ok nmX3 hown hK hP hD hS 0 rfl rfl 3 (by decide) (ha _ w_1_126) rfl rfl rfl rfl (Nat.le_of_ble_eq_true rfl) dX3_init_23 rfl (fun H locs hP hD hS => ?_)
    refine lv_aload_n hx hb dX3_init_26 rfl (lv_at hl 0 rfl) ?_
    refine lv_bipush (v := 96) hx hb dX3_init_27 (by decide) ?_
    refine nw_l (N' := 96) hx hb (ha _ w_1_161) hK hP hD hS hA (by decide) (by decide) (by decide) (Nat.le_of_ble_eq_true rfl) (Nat.le_of_ble_eq_true rfl) (c2 := 12) (s2 := 1443) rfl rfl dX3_init_29 (fun q_9 H hP hD hS => ?_)
    have hP : va_P D classes [(h_t, .inr (3, [.int (0 : Int32), .int (0 : Int32), .ref q_1, .ref q_5, .null, .null, .null, .null, .int (0 : Int32), .null, .null, .int (0 : Int32)])), (q_1, .inr (4, [.ref (q_4.getD 0 0), .int (0 : Int32), .int (0 : Int32), .int (0 : Int32), .int (0 : Int32), .int (0 : Int32), .long (0 : Int64), .int (0 : Int32)])), ((q_4.getD 0 0), .inl (cB, 1200, .inl (fun _ => 0))), (q_5, .inr (2, [.int (0 : Int32), .ref (q_8.getD 0 0), .ref (q_8.getD 1 0), .ref (q_8.getD 2 0), .ref (q_8.getD 3 0), .ref (q_8.getD 4 0), .ref (q_8.getD 5 0), .ref (q_8.getD 6 0), .ref (q_8.getD 7 0)])), ((q_8.getD 0 0), .inl (cI, 5, .inl (fun _ => 0))), ((q_8.getD 1 0), .inl (cI, 5, .inl (fun _ => 0))), ((q_8.getD 2 0), .inl (cI, 5, .inl (fun _ => 0))), ((q_8.getD 3 0), .inl (cI, 75, .inl (fun _ => 0))), ((q_8.getD 4 0), .inl (cI, 4, .inl (fun _ => 0))), ((q_8.getD 5 0), .inl (cI, 4, .inl (fun _ => 0))), ((q_8.getD 6 0), .inl (cI, 16, .inl (fun _ => 0))), ((q_8.getD 7 0), .inl (cI, 16, .inl (fun _ => 0))), (q_9, .inl (cJ, 96, .inr (.inl (fun _ => 0))))] H := hP
    have hD : va_D A [(h_t, .inr (3, [.int (0 : Int32), .int (0 : Int32), .ref q_1, .ref q_5, .null, .null, .null, .null, .int (0 : Int32), .null, .null, .int (0 : Int32)])), (q_1, .inr (4, [.ref (q_4.getD 0 0), .int (0 : Int32), .int (0 : Int32), .int (0 : Int32), .int (0 : Int32), .int (0 : Int32), .long (0 : Int64), .int (0 : Int32)])), ((q_4.getD 0 0), .inl (cB, 1200, .inl (fun _ => 0))), (q_5, .inr (2, [.int (0 : Int32), .ref (q_8.getD 0 0), .ref (q_8.getD 1 0), .ref (q_8.getD 2 0), .ref (q_8.getD 3 0), .ref (q_8.getD 4 0), .ref (q_8.getD 5 0), .ref (q_8.getD 6 0), .ref (q_8.getD 7 0)])), ((q_8.getD 0 0), .inl (cI, 5, .inl (fun _ => 0))), ((q_8.getD 1 0), .inl (cI, 5, .inl (fun _ => 0))), ((q_8.getD 2 0), .inl (cI, 5, .inl (fun _ => 0))), ((q_8.getD 3 0), .inl (cI, 75, .inl (fun _ => 0))), ((q_8.getD 4 0), .inl (cI, 4, .inl (fun _ => 0))), ((q_8.getD 5 0), .inl (cI, 4, .inl (fun _ => 0))), ((q_8.getD 6 0), .inl (cI, 16, .inl (fun _ => 0))), ((q_8.getD 7 0), .inl (cI, 16, .inl (fun _ => 0))), (q_9, .inl (cJ, 96, .inr (.inl (fun _ => 0))))] := hD
    refine ptF (C := RX3) (T := TX3) (N := 12) (ci := 3) (v := .ref q_9) (W2 := [(h_t, .inr (3, [.int (0 : Int32), .int (0 : Int32), .ref q_1, .ref q_5, .ref q_9, .null, .null, .null, .int (0 : Int32), .null, .null, .int (0 : Int32)])), (q_1, .inr (4, [.ref (q_4.getD 0 0), .int (0 : Int32), .int (0 : Int32), .int (0 : Int32), .int (0 : Int32), .int (0 : Int32), .long (0 : Int64), .int (0 : Int32)])), ((q_4.getD 0 0), .inl (cB, 1200, .inl (fun _ => 0))), (q_5, .inr (2, [.int (0 : Int32), .ref (q_8.getD 0 0), .ref (q_8.getD 1 0), .ref (q_8.getD 2 0), .ref (q_8.getD 3 0), .ref (q_8.getD 4 0), .ref (q_8.getD 5 0), .ref (q_8.getD 6 0), .ref (q_8.getD 7 0)])), ((q_8.getD 0 0), .inl (cI, 5, .inl (fun _ => 0))), ((q_8.getD 1 0), .inl (cI, 5, .inl (fun _ => 0))), ((q_8.getD 2 0), .inl (cI, 5, .inl (fun _ => 0))), ((q_8.getD 3 0), .inl (cI, 75, .inl (fun _ => 0))), ((q_8.getD 4 0), .inl (cI, 4, .inl (fun _ => 0))), ((q_8.getD 5 0), .inl (cI, 4, .inl (fun _ => 0))), ((q_8.getD 6 0), .inl (cI, 16, .inl (fun _ => 0))), ((q_8.getD 7 0), .inl (cI, 16, .inl (fun _ => 0))), (q_9, .inl (cJ, 96, .inr (.inl (fun _ => 0))))]) hx hb ha inAX3 tyX3 tyX3_ok nmX3 hown hK hP hD hS 0 rfl rfl 4 (by decide) (ha _ w_1_128) rfl rfl hnm rfl rfl rfl (Nat.le_of_ble_eq_true rfl) dX3_init_31 rfl (fun H locs hP hD hS => ?_)
    refine lv_aload_n hx hb dX3_init_34 rfl (lv_at hl 0 rfl) ?_
    refine lv_bipush (v := 96) hx hb dX3_init_35 (by decide) ?_
    refine nw_i (N' := 96) hx hb (ha _ w_1_73) hK hP hD hS hA (by decide) (by decide) (by decide) (Nat.le_of_ble_eq_true rfl) (Nat.le_of_ble_eq_true rfl) (c2 := 13) (s2 := 1539) rfl rfl dX3_init_37 (fun q_10 H hP hD hS => ?_)
    have hP : va_P D classes [(h_t, .inr (3, [.int (0 : Int32), .int (0 : Int32), .ref q_1, .ref q_5, .ref q_9, .null, .null, .null, .int (0 : Int32), .null, .null, .int (0 : Int32)])), (q_1, .inr (4, [.ref (q_4.getD 0 0), .int (0 : Int32), .int (0 : Int32), .int (0 : Int32), .int (0 : Int32), .int (0 : Int32), .long (0 : Int64), .int (0 : Int32)])), ((q_4.getD 0 0), .inl (cB, 1200, .inl (fun _ => 0))), (q_5, .inr (2, [.int (0 : Int32), .ref (q_8.getD 0 0), .ref (q_8.getD 1 0), .ref (q_8.getD 2 0), .ref (q_8.getD 3 0), .ref (q_8.getD 4 0), .ref (q_8.getD 5 0), .ref (q_8.getD 6 0), .ref (q_8.getD 7 0)])), ((q_8.getD 0 0), .inl (cI, 5, .inl (fun _ => 0))), ((q_8.getD 1 0), .inl (cI, 5, .inl (fun _ => 0))), ((q_8.getD 2 0), .inl (cI, 5, .inl (fun _ => 0))), ((q_8.getD 3 0), .inl (cI, 75, .inl (fun _ => 0))), ((q_8.getD 4 0), .inl (cI, 4, .inl (fun _ => 0))), ((q_8.getD 5 0), .inl (cI, 4, .inl (fun _ => 0))), ((q_8.getD 6 0), .inl (cI, 16, .inl (fun _ => 0))), ((q_8.getD 7 0), .inl (cI, 16, .inl (fun _ => 0))), (q_9, .inl (cJ, 96, .inr (.inl (fun _ => 0)))), (q_10, .inl (cI, 96, .inl (fun _ => 0)))] H := hP
    have hD : va_D A [(h_t, .inr (3, [.int (0 : Int32), .int (0 : Int32), .ref q_1, .ref q_5, .ref q_9, .null, .null, .null, .int (0 : Int32), .null, .null, .int (0 : Int32)])), (q_1, .inr (4, [.ref (q_4.getD 0 0), .int (0 : Int32), .int (0 : Int32), .int (0 : Int32), .int (0 : Int32), .int (0 : Int32), .long (0 : Int64), .int (0 : Int32)])), ((q_4.getD 0 0), .inl (cB, 1200, .inl (fun _ => 0))), (q_5, .inr (2, [.int (0 : Int32), .ref (q_8.getD 0 0), .ref (q_8.getD 1 0), .ref (q_8.getD 2 0), .ref (q_8.getD 3 0), .ref (q_8.getD 4 0), .ref (q_8.getD 5 0), .ref (q_8.getD 6 0), .ref (q_8.getD 7 0)])), ((q_8.getD 0 0), .inl (cI, 5, .inl (fun _ => 0))), ((q_8.getD 1 0), .inl (cI, 5, .inl (fun _ => 0))), ((q_8.getD 2 0), .inl (cI, 5, .inl (fun _ => 0))), ((q_8.getD 3 0), .inl (cI, 75, .inl (fun _ => 0))), ((q_8.getD 4 0), .inl (cI, 4, .inl (fun _ => 0))), ((q_8.getD 5 0), .inl (cI, 4, .inl (fun _ => 0))), ((q_8.getD 6 0), .inl (cI, 16, .inl (fun _ => 0))), ((q_8.getD 7 0), .inl (cI, 16, .inl (fun _ => 0))), (q_9, .inl (cJ, 96, .inr (.inl (fun _ => 0)))), (q_10, .inl (cI, 96, .inl (fun _ => 0)))] := hD
    refine ptF (C := RX3) (T := TX3) (N := 12) (ci := 3) (v := .ref q_10) (W2 := [(h_t, .inr (3, [.int (0 : Int32), .int (0 : Int32), .ref q_1, .ref q_5, .ref q_9, .ref q_10, .null, .null, .int (0 : Int32), .null, .null, .int (0 : Int32)])), (q_1, .inr (4, [.ref (q_4.getD 0 0), .int (0 : Int32), .int (0 : Int32), .int (0 : Int32), .int (0 : Int32), .int (0 : Int32), .long (0 : Int64), .int (0 : Int32)])), ((q_4.getD 0 0), .inl (cB, 1200, .inl (fun _ => 0))), (q_5, .inr (2, [.int (0 : Int32), .ref (q_8.getD 0 0), .ref (q_8.getD 1 0), .ref (q_8.getD 2 0), .ref (q_8.getD 3 0), .ref (q_8.getD 4 0), .ref (q_8.getD 5 0), .ref (q_8.getD 6 0), .ref (q_8.getD 7 0)])), ((q_8.getD 0 0), .inl (cI, 5, .inl (fun _ => 0))), ((q_8.getD 1 0), .inl (cI, 5, .inl (fun _ => 0))), ((q_8.getD 2 0), .inl (cI, 5, .inl (fun _ => 0))), ((q_8.getD 3 0), .inl (cI, 75, .inl (fun _ => 0))), ((q_8.getD 4 0), .inl (cI, 4, .inl (fun _ => 0))), ((q_8.getD 5 0), .inl (cI, 4, .inl (fun _ => 0))), ((q_8.getD 6 0), .inl (cI, 16, .inl (fun _ => 0))), ((q_8.getD 7 0), .inl (cI, 16, .inl (fun _ => 0))), (q_9, .inl (cJ, 96, .inr (.inl (fun _ => 0)))), (q_10, .inl (cI, 96, .inl (fun _ => 0)))]) hx hb ha inAX3 tyX3 tyX3_ok nmX3 hown hK hP hD hS 0 rfl rfl 5 (by decide) (ha _ w_1_129) rfl rfl hnm rfl rfl rfl (Nat.le_of_ble_eq_true rfl) dX3_init_39 rfl (fun H locs hP hD hS => ?_)
    refine lv_aload_n hx hb dX3_init_42 rfl (lv_at hl 0 rfl) ?_
    refine lv_bipush (v := 96) hx hb dX3_init_43 (by decide) ?_
    refine nw_i (N' := 96) hx hb (ha _ w_1_73) hK hP hD hS hA (by decide) (by decide) (by decide) (Nat.le_of_ble_eq_true rfl) (Nat.le_of_ble_eq_true rfl) (c2 := 14) (s2 := 1635) rfl rfl dX3_init_45 (fun q_11 H hP hD hS => ?_)
    have hP : va_P D classes [(h_t, .inr (3, [.int (0 : Int32), .int (0 : Int32), .ref q_1, .ref q_5, .ref q_9, .ref q_10, .null, .null, .int (0 : Int32), .null, .null, .int (0 : Int32)])), (q_1, .inr (4, [.ref (q_4.getD 0 0), .int (0 : Int32), .int (0 : Int32), .int (0 : Int32), .int (0 : Int32), .int (0 : Int32), .long (0 : Int64), .int (0 : Int32)])), ((q_4.getD 0 0), .inl (cB, 1200, .inl (fun _ => 0))), (q_5, .inr (2, [.int (0 : Int32), .ref (q_8.getD 0 0), .ref (q_8.getD 1 0), .ref (q_8.getD 2 0), .ref (q_8.getD 3 0), .ref (q_8.getD 4 0), .ref (q_8.getD 5 0), .ref (q_8.getD 6 0), .ref (q_8.getD 7 0)])), ((q_8.getD 0 0), .inl (cI, 5, .inl (fun _ => 0))), ((q_8.getD 1 0), .inl (cI, 5, .inl (fun _ => 0))), ((q_8.getD 2 0), .inl (cI, 5, .inl (fun _ => 0))), ((q_8.getD 3 0), .inl (cI, 75, .inl (fun _ => 0))), ((q_8.getD 4 0), .inl (cI, 4, .inl (fun _ => 0))), ((q_8.getD 5 0), .inl (cI, 4, .inl (fun _ => 0))), ((q_8.getD 6 0), .inl (cI, 16, .inl (fun _ => 0))), ((q_8.getD 7 0), .inl (cI, 16, .inl (fun _ => 0))), (q_9, .inl (cJ, 96, .inr (.inl (fun _ => 0)))), (q_10, .inl (cI, 96, .inl (fun _ => 0))), (q_11, .inl (cI, 96, .inl (fun _ => 0)))] H := hP
    have hD : va_D A [(h_t, .inr (3, [.int (0 : Int32), .int (0 : Int32), .ref q_1, .ref q_5, .ref q_9, .ref q_10, .null, .null, .int (0 : Int32), .null, .null, .int (0 : Int32)])), (q_1, .inr (4, [.ref (q_4.getD 0 0), .int (0 : Int32), .int (0 : Int32), .int (0 : Int32), .int (0 : Int32), .int (0 : Int32), .long (0 : Int64), .int (0 : Int32)])), ((q_4.getD 0 0), .inl (cB, 1200, .inl (fun _ => 0))), (q_5, .inr (2, [.int (0 : Int32), .ref (q_8.getD 0 0), .ref (q_8.getD 1 0), .ref (q_8.getD 2 0), .ref (q_8.getD 3 0), .ref (q_8.getD 4 0), .ref (q_8.getD 5 0), .ref (q_8.getD 6 0), .ref (q_8.getD 7 0)])), ((q_8.getD 0 0), .inl (cI, 5, .inl (fun _ => 0))), ((q_8.getD 1 0), .inl (cI, 5, .inl (fun _ => 0))), ((q_8.getD 2 0), .inl (cI, 5, .inl (fun _ => 0))), ((q_8.getD 3 0), .inl (cI, 75, .inl (fun _ => 0))), ((q_8.getD 4 0), .inl (cI, 4, .inl (fun _ => 0))), ((q_8.getD 5 0), .inl (cI, 4, .inl (fun _ => 0))), ((q_8.getD 6 0), .inl (cI, 16, .inl (fun _ => 0))), ((q_8.getD 7 0), .inl (cI, 16, .inl (fun _ => 0))), (q_9, .inl (cJ, 96, .inr (.inl (fun _ => 0)))), (q_10, .inl (cI, 96, .inl (fun _ => 0))), (q_11, .inl (cI, 96, .inl (fun _ => 0)))] := hD
    refine ptF (C := RX3) (T := TX3) (N := 12) (ci := 3) (v := .ref q_11) (W2 := [(h_t, .inr (3, [.int (0 : Int32), .int (0 : Int32), .ref q_1, .ref q_5, .ref q_9, .ref q_10, .ref q_11, .null, .int (0 : Int32), .null, .null, .int (0 : Int32)])), (q_1, .inr (4, [.ref (q_4.getD 0 0), .int (0 : Int32), .int (0 : Int32), .int (0 : Int32), .int (0 : Int32), .int (0 : Int32), .long (0 : Int64), .int (0 : Int32)])), ((q_4.getD 0 0), .inl (cB, 1200, .inl (fun _ => 0))), (q_5, .inr (2, [.int (0 : Int32), .ref (q_8.getD 0 0), .ref (q_8.getD 1 0), .ref (q_8.getD 2 0), .ref (q_8.getD 3 0), .ref (q_8.getD 4 0), .ref (q_8.getD 5 0), .ref (q_8.getD 6 0), .ref (q_8.getD 7 0)])), ((q_8.getD 0 0), .inl (cI, 5, .inl (fun _ => 0))), ((q_8.getD 1 0), .inl (cI, 5, .inl (fun _ => 0))), ((q_8.getD 2 0), .inl (cI, 5, .inl (fun _ => 0))), ((q_8.getD 3 0), .inl (cI, 75, .inl (fun _ => 0))), ((q_8.getD 4 0), .inl (cI, 4, .inl (fun _ => 0))), ((q_8.getD 5 0), .inl (cI, 4, .inl (fun _ => 0))), ((q_8.getD 6 0), .inl (cI, 16, .inl (fun _ => 0))), ((q_8.getD 7 0), .inl (cI, 16, .inl (fun _ => 0))), (q_9, .inl (cJ, 96, .inr (.inl (fun _ => 0)))), (q_10, .inl (cI, 96, .inl (fun _ => 0))), (q_11, .inl (cI, 96, .inl (fun _ => 0)))]) hx hb ha inAX3 tyX3 tyX3_ok nmX3 hown hK hP hD hS 0 rfl rfl 6 (by decide) (ha _ w_1_130) rfl rfl hnm rfl rfl rfl (Nat.le_of_ble_eq_true rfl) dX3_init_47 rfl (fun H locs hP hD hS => ?_)
    refine lv_aload_n hx hb dX3_init_50 rfl (lv_at hl 0 rfl) ?_
    refine lv_bipush (v := 96) hx hb dX3_init_51 (by decide) ?_
    refine nw_i (N' := 96) hx hb (ha _ w_1_73) hK hP hD hS hA (by decide) (by decide) (by decide) (Nat.le_of_ble_eq_true rfl) (Nat.le_of_ble_eq_true rfl) (c2 := 15) (s2 := 1731) rfl rfl dX3_init_53 (fun q_12 H hP hD hS => ?_)
    have hP : va_P D classes [(h_t, .inr (3, [.int (0 : Int32), .int (0 : Int32), .ref q_1, .ref q_5, .ref q_9, .ref q_10, .ref q_11, .null, .int (0 : Int32), .null, .null, .int (0 : Int32)])), (q_1, .inr (4, [.ref (q_4.getD 0 0), .int (0 : Int32), .int (0 : Int32), .int (0 : Int32), .int (0 : Int32), .int (0 : Int32), .long (0 : Int64), .int (0 : Int32)])), ((q_4.getD 0 0), .inl (cB, 1200, .inl (fun _ => 0))), (q_5, .inr (2, [.int (0 : Int32), .ref (q_8.getD 0 0), .ref (q_8.getD 1 0), .ref (q_8.getD 2 0), .ref (q_8.getD 3 0), .ref (q_8.getD 4 0), .ref (q_8.getD 5 0), .ref (q_8.getD 6 0), .ref (q_8.getD 7 0)])), ((q_8.getD 0 0), .inl (cI, 5, .inl (fun _ => 0))), ((q_8.getD 1 0), .inl (cI, 5, .inl (fun _ => 0))), ((q_8.getD 2 0), .inl (cI, 5, .inl (fun _ => 0))), ((q_8.getD 3 0), .inl (cI, 75, .inl (fun _ => 0))), ((q_8.getD 4 0), .inl (cI, 4, .inl (fun _ => 0))), ((q_8.getD 5 0), .inl (cI, 4, .inl (fun _ => 0))), ((q_8.getD 6 0), .inl (cI, 16, .inl (fun _ => 0))), ((q_8.getD 7 0), .inl (cI, 16, .inl (fun _ => 0))), (q_9, .inl (cJ, 96, .inr (.inl (fun _ => 0)))), (q_10, .inl (cI, 96, .inl (fun _ => 0))), (q_11, .inl (cI, 96, .inl (fun _ => 0))), (q_12, .inl (cI, 96, .inl (fun _ => 0)))] H := hP
    have hD : va_D A [(h_t, .inr (3, [.int (0 : Int32), .int (0 : Int32), .ref q_1, .ref q_5, .ref q_9, .ref q_10, .ref q_11, .null, .int (0 : Int32), .null, .null, .int (0 : Int32)])), (q_1, .inr (4, [.ref (q_4.getD 0 0), .int (0 : Int32), .int (0 : Int32), .int (0 : Int32), .int (0 : Int32), .int (0 : Int32), .long (0 : Int64), .int (0 : Int32)])), ((q_4.getD 0 0), .inl (cB, 1200, .inl (fun _ => 0))), (q_5, .inr (2, [.int (0 : Int32), .ref (q_8.getD 0 0), .ref (q_8.getD 1 0), .ref (q_8.getD 2 0), .ref (q_8.getD 3 0), .ref (q_8.getD 4 0), .ref (q_8.getD 5 0), .ref (q_8.getD 6 0), .ref (q_8.getD 7 0)])), ((q_8.getD 0 0), .inl (cI, 5, .inl (fun _ => 0))), ((q_8.getD 1 0), .inl (cI, 5, .inl (fun _ => 0))), ((q_8.getD 2 0), .inl (cI, 5, .inl (fun _ => 0))), ((q_8.getD 3 0), .inl (cI, 75, .inl (fun _ => 0))), ((q_8.getD 4 0), .inl (cI, 4, .inl (fun _ => 0))), ((q_8.getD 5 0), .inl (cI, 4, .inl (fun _ => 0))), ((q_8.getD 6 0), .inl (cI, 16, .inl (fun _ => 0))), ((q_8.getD 7 0), .inl (cI, 16, .inl (fun _ => 0))), (q_9, .inl (cJ, 96, .inr (.inl (fun _ => 0)))), (q_10, .inl (cI, 96, .inl (fun _ => 0))), (q_11, .inl (cI, 96, .inl (fun _ => 0))), (q_12, .inl (cI, 96, .inl (fun _ => 0)))] := hD
    refine ptF (C := RX3) (T := TX3) (N := 12) (ci := 3) (v := .ref q_12) (W2 := [(h_t, .inr (3, [.int (0 : Int32), .int (0 : Int32), .ref q_1, .ref q_5, .ref q_9, .ref q_10, .ref q_11, .ref q_12, .int (0 : Int32), .null, .null, .int (0 : Int32)])), (q_1, .inr (4, [.ref (q_4.getD 0 0), .int (0 : Int32), .int (0 : Int32), .int (0 : Int32), .int (0 : Int32), .int (0 : Int32), .long (0 : Int64), .int (0 : Int32)])), ((q_4.getD 0 0), .inl (cB, 1200, .inl (fun _ => 0))), (q_5, .inr (2, [.int (0 : Int32), .ref (q_8.getD 0 0), .ref (q_8.getD 1 0), .ref (q_8.getD 2 0), .ref (q_8.getD 3 0), .ref (q_8.getD 4 0), .ref (q_8.getD 5 0), .ref (q_8.getD 6 0), .ref (q_8.getD 7 0)])), ((q_8.getD 0 0), .inl (cI, 5, .inl (fun _ => 0))), ((q_8.getD 1 0), .inl (cI, 5, .inl (fun _ => 0))), ((q_8.getD 2 0), .inl (cI, 5, .inl (fun _ => 0))), ((q_8.getD 3 0), .inl (cI, 75, .inl (fun _ => 0))), ((q_8.getD 4 0), .inl (cI, 4, .inl (fun _ => 0))), ((q_8.getD 5 0), .inl (cI, 4, .inl (fun _ => 0))), ((q_8.getD 6 0), .inl (cI, 16, .inl (fun _ => 0))), ((q_8.getD 7 0), .inl (cI, 16, .inl (fun _ => 0))), (q_9, .inl (cJ, 96, .inr (.inl (fun _ => 0)))), (q_10, .inl (cI, 96, .inl (fun _ => 0))), (q_11, .inl (cI, 96, .inl (fun _ => 0))), (q_12, .inl (cI, 96, .inl (fun _ => 0)))]) hx hb ha inAX3 tyX3 tyX3_ok nmX3 hown hK hP hD hS 0 rfl rfl 7 (by decide) (ha _ w_1_131) rfl rfl hnm rfl rfl rfl (Nat.le_of_ble_eq_true rfl) dX3_init_55 rfl (fun H locs hP hD hS => ?_)
    refine lv_aload_n hx hb dX3_init_58 rfl (lv_at hl 0 rfl) ?_
    refine lv_bipush (v := 80) hx hb dX3_init_59 (by decide) ?_
    refine nw_i (N' := 80) hx hb (ha _ w_1_73) hK hP hD hS hA (by decide) (by decide) (by decide) (Nat.le_of_ble_eq_true rfl) (Nat.le_of_ble_eq_true rfl) (c2 := 16) (s2 := 1811) rfl rfl dX3_init_61 (fun q_13 H hP hD hS => ?_)
    have hP : va_P D classes [(h_t, .inr (3, [.int (0 : Int32), .int (0 : Int32), .ref q_1, .ref q_5, .ref q_9, .ref q_10, .ref q_11, .ref q_12, .int (0 : Int32), .null, .null, .int (0 : Int32)])), (q_1, .inr (4, [.ref (q_4.getD 0 0), .int (0 : Int32), .int (0 : Int32), .int (0 : Int32), .int (0 : Int32), .int (0 : Int32), .long (0 : Int64), .int (0 : Int32)])), ((q_4.getD 0 0), .inl (cB, 1200, .inl (fun _ => 0))), (q_5, .inr (2, [.int (0 : Int32), .ref (q_8.getD 0 0), .ref (q_8.getD 1 0), .ref (q_8.getD 2 0), .ref (q_8.getD 3 0), .ref (q_8.getD 4 0), .ref (q_8.getD 5 0), .ref (q_8.getD 6 0), .ref (q_8.getD 7 0)])), ((q_8.getD 0 0), .inl (cI, 5, .inl (fun _ => 0))), ((q_8.getD 1 0), .inl (cI, 5, .inl (fun _ => 0))), ((q_8.getD 2 0), .inl (cI, 5, .inl (fun _ => 0))), ((q_8.getD 3 0), .inl (cI, 75, .inl (fun _ => 0))), ((q_8.getD 4 0), .inl (cI, 4, .inl (fun _ => 0))), ((q_8.getD 5 0), .inl (cI, 4, .inl (fun _ => 0))), ((q_8.getD 6 0), .inl (cI, 16, .inl (fun _ => 0))), ((q_8.getD 7 0), .inl (cI, 16, .inl (fun _ => 0))), (q_9, .inl (cJ, 96, .inr (.inl (fun _ => 0)))), (q_10, .inl (cI, 96, .inl (fun _ => 0))), (q_11, .inl (cI, 96, .inl (fun _ => 0))), (q_12, .inl (cI, 96, .inl (fun _ => 0))), (q_13, .inl (cI, 80, .inl (fun _ => 0)))] H := hP
    have hD : va_D A [(h_t, .inr (3, [.int (0 : Int32), .int (0 : Int32), .ref q_1, .ref q_5, .ref q_9, .ref q_10, .ref q_11, .ref q_12, .int (0 : Int32), .null, .null, .int (0 : Int32)])), (q_1, .inr (4, [.ref (q_4.getD 0 0), .int (0 : Int32), .int (0 : Int32), .int (0 : Int32), .int (0 : Int32), .int (0 : Int32), .long (0 : Int64), .int (0 : Int32)])), ((q_4.getD 0 0), .inl (cB, 1200, .inl (fun _ => 0))), (q_5, .inr (2, [.int (0 : Int32), .ref (q_8.getD 0 0), .ref (q_8.getD 1 0), .ref (q_8.getD 2 0), .ref (q_8.getD 3 0), .ref (q_8.getD 4 0), .ref (q_8.getD 5 0), .ref (q_8.getD 6 0), .ref (q_8.getD 7 0)])), ((q_8.getD 0 0), .inl (cI, 5, .inl (fun _ => 0))), ((q_8.getD 1 0), .inl (cI, 5, .inl (fun _ => 0))), ((q_8.getD 2 0), .inl (cI, 5, .inl (fun _ => 0))), ((q_8.getD 3 0), .inl (cI, 75, .inl (fun _ => 0))), ((q_8.getD 4 0), .inl (cI, 4, .inl (fun _ => 0))), ((q_8.getD 5 0), .inl (cI, 4, .inl (fun _ => 0))), ((q_8.getD 6 0), .inl (cI, 16, .inl (fun _ => 0))), ((q_8.getD 7 0), .inl (cI, 16, .inl (fun _ => 0))), (q_9, .inl (cJ, 96, .inr (.inl (fun _ => 0)))), (q_10, .inl (cI, 96, .inl (fun _ => 0))), (q_11, .inl (cI, 96, .inl (fun _ => 0))), (q_12, .inl (cI, 96, .inl (fun _ => 0))), (q_13, .inl (cI, 80, .inl (fun _ => 0)))] := hD
    refine ptF (C := RX3) (T := TX3) (N := 12) (ci := 3) (v := .ref q_13) (W2 := [(h_t, .inr (3, [.int (0 : Int32), .int (0 : Int32), .ref q_1, .ref q_5, .ref q_9, .ref q_10, .ref q_11, .ref q_12, .int (0 : Int32), .ref q_13, .null, .int (0 : Int32)])), (q_1, .inr (4, [.ref (q_4.getD 0 0), .int (0 : Int32), .int (0 : Int32), .int (0 : Int32), .int (0 : Int32), .int (0 : Int32), .long (0 : Int64), .int (0 : Int32)])), ((q_4.getD 0 0), .inl (cB, 1200, .inl (fun _ => 0))), (q_5, .inr (2, [.int (0 : Int32), .ref (q_8.getD 0 0), .ref (q_8.getD 1 0), .ref (q_8.getD 2 0), .ref (q_8.getD 3 0), .ref (q_8.getD 4 0), .ref (q_8.getD 5 0), .ref (q_8.getD 6 0), .ref (q_8.getD 7 0)])), ((q_8.getD 0 0), .inl (cI, 5, .inl (fun _ => 0))), ((q_8.getD 1 0), .inl (cI, 5, .inl (fun _ => 0))), ((q_8.getD 2 0), .inl (cI, 5, .inl (fun _ => 0))), ((q_8.getD 3 0), .inl (cI, 75, .inl (fun _ => 0))), ((q_8.getD 4 0), .inl (cI, 4, .inl (fun _ => 0))), ((q_8.getD 5 0), .inl (cI, 4, .inl (fun _ => 0))), ((q_8.getD 6 0), .inl (cI, 16, .inl (fun _ => 0))), ((q_8.getD 7 0), .inl (cI, 16, .inl (fun _ => 0))), (q_9, .inl (cJ, 96, .inr (.inl (fun _ => 0)))), (q_10, .inl (cI, 96, .inl (fun _ => 0))), (q_11, .inl (cI, 96, .inl (fun _ => 0))), (q_12, .inl (cI, 96, .inl (fun _ => 0))), (q_13, .inl (cI, 80, .inl (fun _ => 0)))]) hx hb ha inAX3 tyX3 tyX3_ok nmX3 hown hK hP hD hS 0 rfl rfl 9 (by decide) (ha _ w_1_133) rfl rfl hnm rfl rfl rfl (Nat.le_of_ble_eq_true rfl) dX3_init_63 rfl (fun H locs hP hD hS => ?_)
    refine lv_aload_n hx hb dX3_init_66 rfl (lv_at hl 0 rfl) ?_
    refine lv_sipush (v := 400) hx hb dX3_init_67 (by decide) ?_
    refine nw_i (N' := 400) hx hb (ha _ w_1_73) hK hP hD hS hA (by decide) (by decide) (by decide) (Nat.le_of_ble_eq_true rfl) (Nat.le_of_ble_eq_true rfl) (c2 := 17) (s2 := 2211) rfl rfl dX3_init_70 (fun q_14 H hP hD hS => ?_)
    have hP : va_P D classes [(h_t, .inr (3, [.int (0 : Int32), .int (0 : Int32), .ref q_1, .ref q_5, .ref q_9, .ref q_10, .ref q_11, .ref q_12, .int (0 : Int32), .ref q_13, .null, .int (0 : Int32)])), (q_1, .inr (4, [.ref (q_4.getD 0 0), .int (0 : Int32), .int (0 : Int32), .int (0 : Int32), .int (0 : Int32), .int (0 : Int32), .long (0 : Int64), .int (0 : Int32)])), ((q_4.getD 0 0), .inl (cB, 1200, .inl (fun _ => 0))), (q_5, .inr (2, [.int (0 : Int32), .ref (q_8.getD 0 0), .ref (q_8.getD 1 0), .ref (q_8.getD 2 0), .ref (q_8.getD 3 0), .ref (q_8.getD 4 0), .ref (q_8.getD 5 0), .ref (q_8.getD 6 0), .ref (q_8.getD 7 0)])), ((q_8.getD 0 0), .inl (cI, 5, .inl (fun _ => 0))), ((q_8.getD 1 0), .inl (cI, 5, .inl (fun _ => 0))), ((q_8.getD 2 0), .inl (cI, 5, .inl (fun _ => 0))), ((q_8.getD 3 0), .inl (cI, 75, .inl (fun _ => 0))), ((q_8.getD 4 0), .inl (cI, 4, .inl (fun _ => 0))), ((q_8.getD 5 0), .inl (cI, 4, .inl (fun _ => 0))), ((q_8.getD 6 0), .inl (cI, 16, .inl (fun _ => 0))), ((q_8.getD 7 0), .inl (cI, 16, .inl (fun _ => 0))), (q_9, .inl (cJ, 96, .inr (.inl (fun _ => 0)))), (q_10, .inl (cI, 96, .inl (fun _ => 0))), (q_11, .inl (cI, 96, .inl (fun _ => 0))), (q_12, .inl (cI, 96, .inl (fun _ => 0))), (q_13, .inl (cI, 80, .inl (fun _ => 0))), (q_14, .inl (cI, 400, .inl (fun _ => 0)))] H := hP
    have hD : va_D A [(h_t, .inr (3, [.int (0 : Int32), .int (0 : Int32), .ref q_1, .ref q_5, .ref q_9, .ref q_10, .ref q_11, .ref q_12, .int (0 : Int32), .ref q_13, .null, .int (0 : Int32)])), (q_1, .inr (4, [.ref (q_4.getD 0 0), .int (0 : Int32), .int (0 : Int32), .int (0 : Int32), .int (0 : Int32), .int (0 : Int32), .long (0 : Int64), .int (0 : Int32)])), ((q_4.getD 0 0), .inl (cB, 1200, .inl (fun _ => 0))), (q_5, .inr (2, [.int (0 : Int32), .ref (q_8.getD 0 0), .ref (q_8.getD 1 0), .ref (q_8.getD 2 0), .ref (q_8.getD 3 0), .ref (q_8.getD 4 0), .ref (q_8.getD 5 0), .ref (q_8.getD 6 0), .ref (q_8.getD 7 0)])), ((q_8.getD 0 0), .inl (cI, 5, .inl (fun _ => 0))), ((q_8.getD 1 0), .inl (cI, 5, .inl (fun _ => 0))), ((q_8.getD 2 0), .inl (cI, 5, .inl (fun _ => 0))), ((q_8.getD 3 0), .inl (cI, 75, .inl (fun _ => 0))), ((q_8.getD 4 0), .inl (cI, 4, .inl (fun _ => 0))), ((q_8.getD 5 0), .inl (cI, 4, .inl (fun _ => 0))), ((q_8.getD 6 0), .inl (cI, 16, .inl (fun _ => 0))), ((q_8.getD 7 0), .inl (cI, 16, .inl (fun _ => 0))), (q_9, .inl (cJ, 96, .inr (.inl (fun _ => 0)))), (q_10, .inl (cI, 96, .inl (fun _ => 0))), (q_11, .inl (cI, 96, .inl (fun _ => 0))), (q_12, .inl (cI, 96, .inl (fun _ => 0))), (q_13, .inl (cI, 80, .inl (fun _ => 0))), (q_14, .inl (cI, 400, .inl (fun _ => 0)))] := hD
    refine ptF (C := RX3) (T := TX3) (N := 12) (ci := 3) (v := .ref q_14) (W2 := [(h_t, .inr (3, [.int (0 : Int32), .int (0 : Int32), .ref q_1, .ref q_5, .ref q_9, .ref q_10, .ref q_11, .ref q_12, .int (0 : Int32), .ref q_13, .ref q_14, .int (0 : Int32)])), (q_1, .inr (4, [.ref (q_4.getD 0 0), .int (0 : Int32), .int (0 : Int32), .int (0 : Int32), .int (0 : Int32), .int (0 : Int32), .long (0 : Int64), .int (0 : Int32)])), ((q_4.getD 0 0), .inl (cB, 1200, .inl (fun _ => 0))), (q_5, .inr (2, [.int (0 : Int32), .ref (q_8.getD 0 0), .ref (q_8.getD 1 0), .ref (q_8.getD 2 0), .ref (q_8.getD 3 0), .ref (q_8.getD 4 0), .ref (q_8.getD 5 0), .ref (q_8.getD 6 0), .ref (q_8.getD 7 0)])), ((q_8.getD 0 0), .inl (cI, 5, .inl (fun _ => 0))), ((q_8.getD 1 0), .inl (cI, 5, .inl (fun _ => 0))), ((q_8.getD 2 0), .inl (cI, 5, .inl (fun _ => 0))), ((q_8.getD 3 0), .inl (cI, 75, .inl (fun _ => 0))), ((q_8.getD 4 0), .inl (cI, 4, .inl (fun _ => 0))), ((q_8.getD 5 0), .inl (cI, 4, .inl (fun _ => 0))), ((q_8.getD 6 0), .inl (cI, 16, .inl (fun _ => 0))), ((q_8.getD 7 0), .inl (cI, 16, .inl (fun _ => 0))), (q_9, .inl (cJ, 96, .inr (.inl (fun _ => 0)))), (q_10, .inl (cI, 96, .inl (fun _ => 0))), (q_11, .inl (cI, 96, .inl (fun _ => 0))), (q_12, .inl (cI, 96, .inl (fun _ => 0))), (q_13, .inl (cI, 80, .inl (fun _ => 0))), (q_14, .inl (cI, 400, .inl (fun _ => 0)))]) hx hb ha inAX3 tyX3 tyX3_ok nmX3 hown hK hP hD hS 0 rfl rfl 10 (by decide) (ha _ w_1_134) rfl rfl hnm rfl rfl rfl (Nat.le_of_ble_eq_true rfl) dX3_init_72 rfl (fun H locs hP hD hS => ?_)
    exact hret ((), ()) [q_1, (q_4.getD 0 0), q_5, (q_8.getD 0 0), (q_8.getD 1 0), (q_8.getD 2 0), (q_8.getD 3 0), (q_8.getD 4 0), (q_8.getD 5 0), (q_8.getD 6 0), (q_8.getD 7 0), q_9, q_10, q_11, q_12, q_13, q_14] H locs ls _ hF rfl hP hD hS dX3_init_75
  rw [hH, hlo] at goal
  exact goal
theorem dX4_isLetter_0 : decode cX4_isLetter 0 = .ok (.iload_n 0, 1) := by decide +kernel
theorem dX4_isLetter_1 : decode cX4_isLetter 1 = .ok (.bipush 97, 2) := by decide +kernel
theorem dX4_isLetter_3 : decode cX4_isLetter 3 = .ok (.if_icmp .lt 13, 3) := by decide +kernel
theorem dX4_isLetter_6 : decode cX4_isLetter 6 = .ok (.iload_n 0, 1) := by decide +kernel
theorem dX4_isLetter_7 : decode cX4_isLetter 7 = .ok (.bipush 122, 2) := by decide +kernel
theorem dX4_isLetter_9 : decode cX4_isLetter 9 = .ok (.if_icmp .gt 7, 3) := by decide +kernel
theorem dX4_isLetter_12 : decode cX4_isLetter 12 = .ok (.iconst 1, 1) := by decide +kernel
theorem dX4_isLetter_13 : decode cX4_isLetter 13 = .ok (.goto 4, 3) := by decide +kernel
theorem dX4_isLetter_16 : decode cX4_isLetter 16 = .ok (.iconst 0, 1) := by decide +kernel
theorem dX4_isLetter_17 : decode cX4_isLetter 17 = .ok (.ireturn, 1) := by decide +kernel
abbrev rmX4_isLetter : Room := { frames := 0, cells := 0, slots := 0, locals := 0 }
theorem cb_X4_isLetter : CBn yX4_isLetter 1 := ⟨by decide +kernel, by decide +kernel, by decide +kernel⟩
def FX4_isLetter (n : Nat) (z0 : Int32) : Option (Int32 × Unit) := if z0 < (97 : Int32) then (some ((0 : Int32), ())) else (if (122 : Int32) < z0 then (some ((0 : Int32), ())) else (some ((1 : Int32), ())))
set_option maxHeartbeats 4000000 in
set_option maxRecDepth 100000 in
theorem kX4_isLetter (l : Launch) (D : va_G) (cB cI cJ cZ : ClassId) (rz n sz : Nat) (z0 : Int32) (hN : FX4_isLetter n z0 ≠ none) : Met l yX4_isLetter (Cond.code yX4_isLetter cX4_isLetter 1 (some .boolean) :: AL) rmX4_isLetter (PW D cB cI cJ cZ rz [.int z0] [] sz) (QZ D (FX4_isLetter n z0) (fun u => []) (va_A [] sz)) 0 0 (va_A [] sz) := by
  obtain ⟨O, hF⟩ : ∃ O, FX4_isLetter n z0 = O := ⟨_, rfl⟩
  rw [hF] at hN ⊢
  refine enterZ (cc := cX4_isLetter) (nL := 1) (by decide) (Nat.le_of_ble_eq_true rfl) ?_
  intro p e s m below meth c A Q X hA hE hnm hsz hP hD hS hret ls hl
  obtain ⟨hx, hb, hml, hown0, ha⟩ := id X
  have hown : s.vm.findClass RX4 = some m.cls := hown0
  have hK := hE.1
  have hl : lv_has ls 1 [(0, .int z0)] := hl
  have hX : CallFix p m c cX4_isLetter 1 s ([.int z0] : List Value).toArray AL RX4 := X
  have X := hX
  unfold FX4_isLetter at hF
  obtain ⟨H, hH⟩ : ∃ H, H = s.heap := ⟨_, rfl⟩
  obtain ⟨locs, hlo⟩ : ∃ locs : List Loc, locs = [] := ⟨_, rfl⟩
  have hS : va_S A s.heap H locs := by rw [hH, hlo]; exact hS
  rw [← hH] at hP
  have goal : W p l e rmX4_isLetter s m ([.int z0] : List Value).toArray below meth c H locs 0 0 Q (F0 m 0 ls []) := by
    refine lv_iload_n hx hb dX4_isLetter_0 rfl (lv_at hl 0 rfl) ?_
    refine lv_bipush (v := 97) hx hb dX4_isLetter_1 (by decide) ?_
    refine lv_icmp_lt (tgt := 16) hx hb dX4_isLetter_3 (by decide) (fun c_1 => ?_) (fun c_1 => ?_)
    · replace hF := ifT c_1 hF
      refine lv_iconst (v := 0) hx hb dX4_isLetter_16 (by decide) ?_
      exact hret ((0 : Int32), ()) H locs ls _ hF nz0 hP hD hS dX4_isLetter_17
    · replace hF := ifF c_1 hF
      refine lv_iload_n hx hb dX4_isLetter_6 rfl (lv_at hl 0 rfl) ?_
      refine lv_bipush (v := 122) hx hb dX4_isLetter_7 (by decide) ?_
      refine lv_icmp_gt (tgt := 16) hx hb dX4_isLetter_9 (by decide) (fun c_2 => ?_) (fun c_2 => ?_)
      · replace hF := ifT c_2 hF
        refine lv_iconst (v := 0) hx hb dX4_isLetter_16 (by decide) ?_
        exact hret ((0 : Int32), ()) H locs ls _ hF nz0 hP hD hS dX4_isLetter_17
      · replace hF := ifF c_2 hF
        refine lv_iconst (v := 1) hx hb dX4_isLetter_12 (by decide) ?_
        refine lv_goto (tgt := 17) hx hb dX4_isLetter_13 (by decide) ?_
        exact hret ((1 : Int32), ()) H locs ls _ hF nz1 hP hD hS dX4_isLetter_17
  rw [hH, hlo] at goal
  exact goal
