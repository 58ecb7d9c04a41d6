theorem dX6_feed_0 : decode cX6_feed 0 = .ok (.aload_n 0, 1) := by decide +kernel
theorem dX6_feed_1 : decode cX6_feed 1 = .ok (.getfield 19, 3) := by decide +kernel
theorem dX6_feed_4 : decode cX6_feed 4 = .ok (.getfield 70, 3) := by decide +kernel
theorem dX6_feed_7 : decode cX6_feed 7 = .ok (.astore 6, 2) := by decide +kernel
theorem dX6_feed_9 : decode cX6_feed 9 = .ok (.aload 6, 2) := by decide +kernel
theorem dX6_feed_11 : decode cX6_feed 11 = .ok (.getfield 74, 3) := by decide +kernel
theorem dX6_feed_14 : decode cX6_feed 14 = .ok (.bipush 20, 2) := by decide +kernel
theorem dX6_feed_16 : decode cX6_feed 16 = .ok (.iadd, 1) := by decide +kernel
theorem dX6_feed_17 : decode cX6_feed 17 = .ok (.sipush 1200, 3) := by decide +kernel
theorem dX6_feed_20 : decode cX6_feed 20 = .ok (.if_icmp .le 5, 3) := by decide +kernel
theorem dX6_feed_23 : decode cX6_feed 23 = .ok (.iconst (-1), 1) := by decide +kernel
theorem dX6_feed_24 : decode cX6_feed 24 = .ok (.ireturn, 1) := by decide +kernel
theorem dX6_feed_25 : decode cX6_feed 25 = .ok (.aload 6, 2) := by decide +kernel
theorem dX6_feed_27 : decode cX6_feed 27 = .ok (.iload_n 1, 1) := by decide +kernel
theorem dX6_feed_28 : decode cX6_feed 28 = .ok (.invokevirtual 79, 3) := by decide +kernel
theorem dX6_feed_31 : decode cX6_feed 31 = .ok (.aload 6, 2) := by decide +kernel
theorem dX6_feed_33 : decode cX6_feed 33 = .ok (.iload_n 2, 1) := by decide +kernel
theorem dX6_feed_34 : decode cX6_feed 34 = .ok (.invokevirtual 79, 3) := by decide +kernel
theorem dX6_feed_37 : decode cX6_feed 37 = .ok (.aload 6, 2) := by decide +kernel
theorem dX6_feed_39 : decode cX6_feed 39 = .ok (.iload_n 3, 1) := by decide +kernel
theorem dX6_feed_40 : decode cX6_feed 40 = .ok (.invokevirtual 79, 3) := by decide +kernel
theorem dX6_feed_43 : decode cX6_feed 43 = .ok (.aload 6, 2) := by decide +kernel
theorem dX6_feed_45 : decode cX6_feed 45 = .ok (.iload 4, 2) := by decide +kernel
theorem dX6_feed_47 : decode cX6_feed 47 = .ok (.invokevirtual 79, 3) := by decide +kernel
theorem dX6_feed_50 : decode cX6_feed 50 = .ok (.aload 6, 2) := by decide +kernel
theorem dX6_feed_52 : decode cX6_feed 52 = .ok (.iload 5, 2) := by decide +kernel
theorem dX6_feed_54 : decode cX6_feed 54 = .ok (.invokevirtual 79, 3) := by decide +kernel
theorem dX6_feed_57 : decode cX6_feed 57 = .ok (.aload 6, 2) := by decide +kernel
theorem dX6_feed_59 : decode cX6_feed 59 = .ok (.getfield 74, 3) := by decide +kernel
theorem dX6_feed_62 : decode cX6_feed 62 = .ok (.ireturn, 1) := by decide +kernel
abbrev rmX6_feed : Room := { frames := 1, cells := 0, slots := 0, locals := 22 }
theorem cb_X6_feed : CBn yX6_feed 5 := ⟨by decide +kernel, by decide +kernel, by decide +kernel⟩
def FX6_feed (n : Nat) (v_reader_tape_length : Int32) (a_reader_tape_bytes : Nat → Int32) (z1 : Int32) (z2 : Int32) (z3 : Int32) (z4 : Int32) (z5 : Int32) : Option (Int32 × Int32 × (Nat → Int32)) := if (v_reader_tape_length + (20 : Int32)) ≤ (1200 : Int32) then (bd (FX4_put n v_reader_tape_length a_reader_tape_bytes z1) (fun u_3 => bd (FX4_put n u_3.2.1 u_3.2.2 z2) (fun u_5 => bd (FX4_put n u_5.2.1 u_5.2.2 z3) (fun u_7 => bd (FX4_put n u_7.2.1 u_7.2.2 z4) (fun u_9 => bd (FX4_put n u_9.2.1 u_9.2.2 z5) (fun u_11 => some (u_11.2.1, u_11.2.1, u_11.2.2))))))) else (some ((-1 : Int32), v_reader_tape_length, a_reader_tape_bytes))
set_option maxHeartbeats 4000000 in
set_option maxRecDepth 100000 in
theorem kX6_feed (l : Launch) (D : va_G) (cB cI cJ cZ : ClassId) (rz n sz : Nat) (h_t : Nat) (h_reader : Nat) (h_reader_tape : Nat) (h_reader_tape_bytes : Nat) (h_told : Nat) (h_chosen : Nat) (h_tried : Nat) (h_byHand : Nat) (h_coming : Nat) (h_ends : Nat) (h_heaps : Nat) (h_yard : Nat) (h_reader_draft : Nat) (h_reader_names : Nat) (h_reader_namePlaces : Nat) (h_reader_nameUnits : Nat) (h_reader_nameSettings : Nat) (h_reader_setNames : Nat) (h_reader_setValues : Nat) (v_faultNumber : Int32) (v_faultPlace : Int32) (v_costOfKilogram : Int32) (v_reader_fault : Int32) (v_reader_faultPlace : Int32) (v_reader_nameCount : Int32) (v_reader_setCount : Int32) (v_reader_tape_length : Int32) (v_reader_tape_next : Int32) (v_reader_tape_type : Int32) (v_reader_tape_place : Int32) (v_reader_tape_formerPlace : Int32) (v_reader_tape_word : Int64) (v_reader_tape_number : Int32) (a_reader_tape_bytes : Nat → Int32) (z1 : Int32) (z2 : Int32) (z3 : Int32) (z4 : Int32) (z5 : Int32) (hN : FX6_feed n v_reader_tape_length a_reader_tape_bytes z1 z2 z3 z4 z5 ≠ none) : Met l yX6_feed (Cond.code yX6_feed cX6_feed 7 (some .int) :: AL) rmX6_feed (PW D cB cI cJ cZ rz [.ref h_t, .int z1, .int z2, .int z3, .int z4, .int z5] [(h_t, .inr (6, [.ref h_told, .ref h_reader, .int v_faultNumber, .int v_faultPlace, .ref h_chosen, .ref h_tried, .ref h_byHand, .ref h_coming, .ref h_ends, .ref h_heaps, .ref h_yard, .int v_costOfKilogram])), (h_reader, .inr (3, [.int v_reader_fault, .int v_reader_faultPlace, .ref h_reader_tape, .ref h_reader_draft, .ref h_reader_names, .ref h_reader_namePlaces, .ref h_reader_nameUnits, .ref h_reader_nameSettings, .int v_reader_nameCount, .ref h_reader_setNames, .ref h_reader_setValues, .int v_reader_setCount])), (h_reader_tape, .inr (4, [.ref h_reader_tape_bytes, .int v_reader_tape_length, .int v_reader_tape_next, .int v_reader_tape_type, .int v_reader_tape_place, .int v_reader_tape_formerPlace, .long v_reader_tape_word, .int v_reader_tape_number])), (h_reader_tape_bytes, .inl (cB, 1200, .inl a_reader_tape_bytes))] sz) (QI D (FX6_feed n v_reader_tape_length a_reader_tape_bytes z1 z2 z3 z4 z5) (fun u => [(h_t, .inr (6, [.ref h_told, .ref h_reader, .int v_faultNumber, .int v_faultPlace, .ref h_chosen, .ref h_tried, .ref h_byHand, .ref h_coming, .ref h_ends, .ref h_heaps, .ref h_yard, .int v_costOfKilogram])), (h_reader, .inr (3, [.int v_reader_fault, .int v_reader_faultPlace, .ref h_reader_tape, .ref h_reader_draft, .ref h_reader_names, .ref h_reader_namePlaces, .ref h_reader_nameUnits, .ref h_reader_nameSettings, .int v_reader_nameCount, .ref h_reader_setNames, .ref h_reader_setValues, .int v_reader_setCount])), (h_reader_tape, .inr (4, [.ref h_reader_tape_bytes, .int u.2.1, .int v_reader_tape_next, .int v_reader_tape_type, .int v_reader_tape_place, .int v_reader_tape_formerPlace, .long v_reader_tape_word, .int v_reader_tape_number])), (h_reader_tape_bytes, .inl (cB, 1200, .inl u.2.2))]) (va_A [(h_t, .inr (6, [.ref h_told, .ref h_reader, .int v_faultNumber, .int v_faultPlace, .ref h_chosen, .ref h_tried, .ref h_byHand, .ref h_coming, .ref h_ends, .ref h_heaps, .ref h_yard, .int v_costOfKilogram])), (h_reader, .inr (3, [.int v_reader_fault, .int v_reader_faultPlace, .ref h_reader_tape, .ref h_reader_draft, .ref h_reader_names, .ref h_reader_namePlaces, .ref h_reader_nameUnits, .ref h_reader_nameSettings, .int v_reader_nameCount, .ref h_reader_setNames, .ref h_reader_setValues, .int v_reader_setCount])), (h_reader_tape, .inr (4, [.ref h_reader_tape_bytes, .int v_reader_tape_length, .int v_reader_tape_next, .int v_reader_tape_type, .int v_reader_tape_place, .int v_reader_tape_formerPlace, .long v_reader_tape_word, .int v_reader_tape_number])), (h_reader_tape_bytes, .inl (cB, 1200, .inl a_reader_tape_bytes))] sz)) 0 0 (va_A [(h_t, .inr (6, [.ref h_told, .ref h_reader, .int v_faultNumber, .int v_faultPlace, .ref h_chosen, .ref h_tried, .ref h_byHand, .ref h_coming, .ref h_ends, .ref h_heaps, .ref h_yard, .int v_costOfKilogram])), (h_reader, .inr (3, [.int v_reader_fault, .int v_reader_faultPlace, .ref h_reader_tape, .ref h_reader_draft, .ref h_reader_names, .ref h_reader_namePlaces, .ref h_reader_nameUnits, .ref h_reader_nameSettings, .int v_reader_nameCount, .ref h_reader_setNames, .ref h_reader_setValues, .int v_reader_setCount])), (h_reader_tape, .inr (4, [.ref h_reader_tape_bytes, .int v_reader_tape_length, .int v_reader_tape_next, .int v_reader_tape_type, .int v_reader_tape_place, .int v_reader_tape_formerPlace, .long v_reader_tape_word, .int v_reader_tape_number])), (h_reader_tape_bytes, .inl (cB, 1200, .inl a_reader_tape_bytes))] sz) := by
  obtain ⟨O, hF⟩ : ∃ O, FX6_feed n v_reader_tape_length a_reader_tape_bytes z1 z2 z3 z4 z5 = O := ⟨_, rfl⟩
  rw [hF] at hN ⊢
  refine enterI (cc := cX6_feed) (nL := 7) (by decide) (Nat.le_of_ble_eq_true rfl) ?_
  intro p e s m below meth c A Q X hA hE hnm hsz hP hD hS hret ls hl
  obtain ⟨hx, hb, hml, hown0, ha⟩ := id X
  have hown : s.vm.findClass RX6 = some m.cls := hown0
  have hK := hE.1
  have hl : lv_has ls 7 [(0, .ref h_t), (1, .int z1), (2, .int z2), (3, .int z3), (4, .int z4), (5, .int z5)] := hl
  have hX : CallFix p m c cX6_feed 7 s ([.ref h_t, .int z1, .int z2, .int z3, .int z4, .int z5] : List Value).toArray AL RX6 := X
  have X := hX
  unfold FX6_feed at hF
  obtain ⟨H, hH⟩ : ∃ H, H = s.heap := ⟨_, rfl⟩
  obtain ⟨locs, hlo⟩ : ∃ locs : List Loc, locs = [] := ⟨_, rfl⟩
  have hS : va_S A s.heap H locs := by rw [hH, hlo]; exact hS
  rw [← hH] at hP
  have goal : W p l e rmX6_feed s m ([.ref h_t, .int z1, .int z2, .int z3, .int z4, .int z5] : List Value).toArray below meth c H locs 0 0 Q (F0 m 0 ls []) := by
    refine lv_aload_n hx hb dX6_feed_0 rfl (lv_at hl 0 rfl) ?_
    refine va_get (D := D) (ci := 6) (C := RX6) (T := TX6) (N := 12) hx hb ha inAX6 hown hK hP 0 rfl rfl 1 (by decide) (ha _ w_1_235) (fun _ h9 => h9) rfl dX6_feed_1 ?_
    refine va_getN (D := D) (ci := 3) (C := RX3) (T := TX3) (N := 12) hx hb ha inAX3 hown hK hP 1 rfl rfl 2 (by decide) (va_Nw.use rfl (hE.2.1 _ w_1_125)) (fun _ h9 => h9) rfl dX6_feed_4 ?_
    refine lv_astore (lv' := [(6, .ref h_reader_tape), (0, .ref h_t), (1, .int z1), (2, .int z2), (3, .int z3), (4, .int z4), (5, .int z5)]) hx hb dX6_feed_7 hl (by decide) rfl (fun ls hl => ?_)
    refine lv_aload hx hb dX6_feed_9 (lv_at hl 0 rfl) ?_
    refine va_getN (D := D) (ci := 4) (C := RX4) (T := TX4) (N := 8) hx hb ha inAX4 hown hK hP 2 rfl rfl 1 (by decide) (va_Nw.use rfl (hE.2.1 _ w_1_88)) (fun _ h9 => h9) rfl dX6_feed_11 ?_
    refine lv_bipush (v := 20) hx hb dX6_feed_14 (by decide) ?_
    refine lv_iadd hx hb dX6_feed_16 ?_
    refine lv_sipush (v := 1200) hx hb dX6_feed_17 (by decide) ?_
    refine lv_icmp_le (tgt := 25) hx hb dX6_feed_20 (by decide) (fun c_1 => ?_) (fun c_1 => ?_)
    · replace hF := ifT c_1 hF
      refine lv_aload hx hb dX6_feed_25 (lv_at hl 0 rfl) ?_
      refine lv_iload_n hx hb dX6_feed_27 rfl (lv_at hl 2 rfl) ?_
      have hn_2 := bdN hN hF
      refine callVNV (As := [.int z1]) (rest := []) (wr := [(h_t, .inr (6, [.ref h_told, .ref h_reader, .int v_faultNumber, .int v_faultPlace, .ref h_chosen, .ref h_tried, .ref h_byHand, .ref h_coming, .ref h_ends, .ref h_heaps, .ref h_yard, .int v_costOfKilogram])), (h_reader, .inr (3, [.int v_reader_fault, .int v_reader_faultPlace, .ref h_reader_tape, .ref h_reader_draft, .ref h_reader_names, .ref h_reader_namePlaces, .ref h_reader_nameUnits, .ref h_reader_nameSettings, .int v_reader_nameCount, .ref h_reader_setNames, .ref h_reader_setValues, .int v_reader_setCount]))]) (W2 := fun u_3 => [(h_t, .inr (6, [.ref h_told, .ref h_reader, .int v_faultNumber, .int v_faultPlace, .ref h_chosen, .ref h_tried, .ref h_byHand, .ref h_coming, .ref h_ends, .ref h_heaps, .ref h_yard, .int v_costOfKilogram])), (h_reader, .inr (3, [.int v_reader_fault, .int v_reader_faultPlace, .ref h_reader_tape, .ref h_reader_draft, .ref h_reader_names, .ref h_reader_namePlaces, .ref h_reader_nameUnits, .ref h_reader_nameSettings, .int v_reader_nameCount, .ref h_reader_setNames, .ref h_reader_setValues, .int v_reader_setCount])), (h_reader_tape, .inr (4, [.ref h_reader_tape_bytes, .int u_3.2.1, .int v_reader_tape_next, .int v_reader_tape_type, .int v_reader_tape_place, .int v_reader_tape_formerPlace, .long v_reader_tape_word, .int v_reader_tape_number])), (h_reader_tape_bytes, .inl (cB, 1200, .inl u_3.2.2))]) X hE hP hD hS hA (kX4_put l D cB cI cJ cZ rz n H.size h_reader_tape h_reader_tape_bytes v_reader_tape_length v_reader_tape_next v_reader_tape_type v_reader_tape_place v_reader_tape_formerPlace v_reader_tape_word v_reader_tape_number a_reader_tape_bytes z1 hn_2) w_2_35 w_2_37 ws_0 w_1_4 w_2_38 cb_X4_put rfl rfl ⟨Nat.le_of_ble_eq_true rfl, Nat.le_of_ble_eq_true rfl⟩ rfl hl.1 rfl (Nat.le_of_ble_eq_true rfl) dX6_feed_28 ⟨Nat.le_of_ble_eq_true rfl, Nat.le_of_ble_eq_true rfl⟩ (c2 := 0) (s2 := 0) rfl rfl (k0 := 2) rfl rfl [2, 3] [0, 1] [0, 1, 2, 3] rfl rfl (by decide) (by decide) (by decide) (by decide) (fun _ => rfl) (fun u_3 H locs hG hP hD hS => ?_)
      replace hF := bdQ hG hF
      refine lv_aload hx hb dX6_feed_31 (lv_at hl 0 rfl) ?_
      refine lv_iload_n hx hb dX6_feed_33 rfl (lv_at hl 3 rfl) ?_
      have hn_4 := bdN hN hF
      refine callVNV (As := [.int z2]) (rest := []) (wr := [(h_t, .inr (6, [.ref h_told, .ref h_reader, .int v_faultNumber, .int v_faultPlace, .ref h_chosen, .ref h_tried, .ref h_byHand, .ref h_coming, .ref h_ends, .ref h_heaps, .ref h_yard, .int v_costOfKilogram])), (h_reader, .inr (3, [.int v_reader_fault, .int v_reader_faultPlace, .ref h_reader_tape, .ref h_reader_draft, .ref h_reader_names, .ref h_reader_namePlaces, .ref h_reader_nameUnits, .ref h_reader_nameSettings, .int v_reader_nameCount, .ref h_reader_setNames, .ref h_reader_setValues, .int v_reader_setCount]))]) (W2 := fun u_5 => [(h_t, .inr (6, [.ref h_told, .ref h_reader, .int v_faultNumber, .int v_faultPlace, .ref h_chosen, .ref h_tried, .ref h_byHand, .ref h_coming, .ref h_ends, .ref h_heaps, .ref h_yard, .int v_costOfKilogram])), (h_reader, .inr (3, [.int v_reader_fault, .int v_reader_faultPlace, .ref h_reader_tape, .ref h_reader_draft, .ref h_reader_names, .ref h_reader_namePlaces, .ref h_reader_nameUnits, .ref h_reader_nameSettings, .int v_reader_nameCount, .ref h_reader_setNames, .ref h_reader_setValues, .int v_reader_setCount])), (h_reader_tape, .inr (4, [.ref h_reader_tape_bytes, .int u_5.2.1, .int v_reader_tape_next, .int v_reader_tape_type, .int v_reader_tape_place, .int v_reader_tape_formerPlace, .long v_reader_tape_word, .int v_reader_tape_number])), (h_reader_tape_bytes, .inl (cB, 1200, .inl u_5.2.2))]) X hE hP hD hS hA (kX4_put l D cB cI cJ cZ rz n H.size h_reader_tape h_reader_tape_bytes u_3.2.1 v_reader_tape_next v_reader_tape_type v_reader_tape_place v_reader_tape_formerPlace v_reader_tape_word v_reader_tape_number u_3.2.2 z2 hn_4) w_2_35 w_2_37 ws_0 w_1_4 w_2_38 cb_X4_put rfl rfl ⟨Nat.le_of_ble_eq_true rfl, Nat.le_of_ble_eq_true rfl⟩ rfl hl.1 rfl (Nat.le_of_ble_eq_true rfl) dX6_feed_34 ⟨Nat.le_of_ble_eq_true rfl, Nat.le_of_ble_eq_true rfl⟩ (c2 := 0) (s2 := 0) rfl rfl (k0 := 2) rfl rfl [2, 3] [0, 1] [0, 1, 2, 3] rfl rfl (by decide) (by decide) (by decide) (by decide) (fun _ => rfl) (fun u_5 H locs hG hP hD hS => ?_)
      replace hF := bdQ hG hF
      refine lv_aload hx hb dX6_feed_37 (lv_at hl 0 rfl) ?_
      refine lv_iload_n hx hb dX6_feed_39 rfl (lv_at hl 4 rfl) ?_
      have hn_6 := bdN hN hF
      refine callVNV (As := [.int z3]) (rest := []) (wr := [(h_t, .inr (6, [.ref h_told, .ref h_reader, .int v_faultNumber, .int v_faultPlace, .ref h_chosen, .ref h_tried, .ref h_byHand, .ref h_coming, .ref h_ends, .ref h_heaps, .ref h_yard, .int v_costOfKilogram])), (h_reader, .inr (3, [.int v_reader_fault, .int v_reader_faultPlace, .ref h_reader_tape, .ref h_reader_draft, .ref h_reader_names, .ref h_reader_namePlaces, .ref h_reader_nameUnits, .ref h_reader_nameSettings, .int v_reader_nameCount, .ref h_reader_setNames, .ref h_reader_setValues, .int v_reader_setCount]))]) (W2 := fun u_7 => [(h_t, .inr (6, [.ref h_told, .ref h_reader, .int v_faultNumber, .int v_faultPlace, .ref h_chosen, .ref h_tried, .ref h_byHand, .ref h_coming, .ref h_ends, .ref h_heaps, .ref h_yard, .int v_costOfKilogram])), (h_reader, .inr (3, [.int v_reader_fault, .int v_reader_faultPlace, .ref h_reader_tape, .ref h_reader_draft, .ref h_reader_names, .ref h_reader_namePlaces, .ref h_reader_nameUnits, .ref h_reader_nameSettings, .int v_reader_nameCount, .ref h_reader_setNames, .ref h_reader_setValues, .int v_reader_setCount])), (h_reader_tape, .inr (4, [.ref h_reader_tape_bytes, .int u_7.2.1, .int v_reader_tape_next, .int v_reader_tape_type, .int v_reader_tape_place, .int v_reader_tape_formerPlace, .long v_reader_tape_word, .int v_reader_tape_number])), (h_reader_tape_bytes, .inl (cB, 1200, .inl u_7.2.2))]) X hE hP hD hS hA (kX4_put l D cB cI cJ cZ rz n H.size h_reader_tape h_reader_tape_bytes u_5.2.1 v_reader_tape_next v_reader_tape_type v_reader_tape_place v_reader_tape_formerPlace v_reader_tape_word v_reader_tape_number u_5.2.2 z3 hn_6) w_2_35 w_2_37 ws_0 w_1_4 w_2_38 cb_X4_put rfl rfl ⟨Nat.le_of_ble_eq_true rfl, Nat.le_of_ble_eq_true rfl⟩ rfl hl.1 rfl (Nat.le_of_ble_eq_true rfl) dX6_feed_40 ⟨Nat.le_of_ble_eq_true rfl, Nat.le_of_ble_eq_true rfl⟩ (c2 := 0) (s2 := 0) rfl rfl (k0 := 2) rfl rfl [2, 3] [0, 1] [0, 1, 2, 3] rfl rfl (by decide) (by decide) (by decide) (by decide) (fun _ => rfl) (fun u_7 H locs hG hP hD hS => ?_)
      replace hF := bdQ hG hF
      refine lv_aload hx hb dX6_feed_43 (lv_at hl 0 rfl) ?_
      refine lv_iload hx hb dX6_feed_45 (lv_at hl 5 rfl) ?_
      have hn_8 := bdN hN hF
      refine callVNV (As := [.int z4]) (rest := []) (wr := [(h_t, .inr (6, [.ref h_told, .ref h_reader, .int v_faultNumber, .int v_faultPlace, .ref h_chosen, .ref h_tried, .ref h_byHand, .ref h_coming, .ref h_ends, .ref h_heaps, .ref h_yard, .int v_costOfKilogram])), (h_reader, .inr (3, [.int v_reader_fault, .int v_reader_faultPlace, .ref h_reader_tape, .ref h_reader_draft, .ref h_reader_names, .ref h_reader_namePlaces, .ref h_reader_nameUnits, .ref h_reader_nameSettings, .int v_reader_nameCount, .ref h_reader_setNames, .ref h_reader_setValues, .int v_reader_setCount]))]) (W2 := fun u_9 => [(h_t, .inr (6, [.ref h_told, .ref h_reader, .int v_faultNumber, .int v_faultPlace, .ref h_chosen, .ref h_tried, .ref h_byHand, .ref h_coming, .ref h_ends, .ref h_heaps, .ref h_yard, .int v_costOfKilogram])), (h_reader, .inr (3, [.int v_reader_fault, .int v_reader_faultPlace, .ref h_reader_tape, .ref h_reader_draft, .ref h_reader_names, .ref h_reader_namePlaces, .ref h_reader_nameUnits, .ref h_reader_nameSettings, .int v_reader_nameCount, .ref h_reader_setNames, .ref h_reader_setValues, .int v_reader_setCount])), (h_reader_tape, .inr (4, [.ref h_reader_tape_bytes, .int u_9.2.1, .int v_reader_tape_next, .int v_reader_tape_type, .int v_reader_tape_place, .int v_reader_tape_formerPlace, .long v_reader_tape_word, .int v_reader_tape_number])), (h_reader_tape_bytes, .inl (cB, 1200, .inl u_9.2.2))]) X hE hP hD hS hA (kX4_put l D cB cI cJ cZ rz n H.size h_reader_tape h_reader_tape_bytes u_7.2.1 v_reader_tape_next v_reader_tape_type v_reader_tape_place v_reader_tape_formerPlace v_reader_tape_word v_reader_tape_number u_7.2.2 z4 hn_8) w_2_35 w_2_37 ws_0 w_1_4 w_2_38 cb_X4_put rfl rfl ⟨Nat.le_of_ble_eq_true rfl, Nat.le_of_ble_eq_true rfl⟩ rfl hl.1 rfl (Nat.le_of_ble_eq_true rfl) dX6_feed_47 ⟨Nat.le_of_ble_eq_true rfl, Nat.le_of_ble_eq_true rfl⟩ (c2 := 0) (s2 := 0) rfl rfl (k0 := 2) rfl rfl [2, 3] [0, 1] [0, 1, 2, 3] rfl rfl (by decide) (by decide) (by decide) (by decide) (fun _ => rfl) (fun u_9 H locs hG hP hD hS => ?_)
      replace hF := bdQ hG hF
      refine lv_aload hx hb dX6_feed_50 (lv_at hl 0 rfl) ?_
      refine lv_iload hx hb dX6_feed_52 (lv_at hl 6 rfl) ?_
      have hn_10 := bdN hN hF
      refine callVNV (As := [.int z5]) (rest := []) (wr := [(h_t, .inr (6, [.ref h_told, .ref h_reader, .int v_faultNumber, .int v_faultPlace, .ref h_chosen, .ref h_tried, .ref h_byHand, .ref h_coming, .ref h_ends, .ref h_heaps, .ref h_yard, .int v_costOfKilogram])), (h_reader, .inr (3, [.int v_reader_fault, .int v_reader_faultPlace, .ref h_reader_tape, .ref h_reader_draft, .ref h_reader_names, .ref h_reader_namePlaces, .ref h_reader_nameUnits, .ref h_reader_nameSettings, .int v_reader_nameCount, .ref h_reader_setNames, .ref h_reader_setValues, .int v_reader_setCount]))]) (W2 := fun u_11 => [(h_t, .inr (6, [.ref h_told, .ref h_reader, .int v_faultNumber, .int v_faultPlace, .ref h_chosen, .ref h_tried, .ref h_byHand, .ref h_coming, .ref h_ends, .ref h_heaps, .ref h_yard, .int v_costOfKilogram])), (h_reader, .inr (3, [.int v_reader_fault, .int v_reader_faultPlace, .ref h_reader_tape, .ref h_reader_draft, .ref h_reader_names, .ref h_reader_namePlaces, .ref h_reader_nameUnits, .ref h_reader_nameSettings, .int v_reader_nameCount, .ref h_reader_setNames, .ref h_reader_setValues, .int v_reader_setCount])), (h_reader_tape, .inr (4, [.ref h_reader_tape_bytes, .int u_11.2.1, .int v_reader_tape_next, .int v_reader_tape_type, .int v_reader_tape_place, .int v_reader_tape_formerPlace, .long v_reader_tape_word, .int v_reader_tape_number])), (h_reader_tape_bytes, .inl (cB, 1200, .inl u_11.2.2))]) X hE hP hD hS hA (kX4_put l D cB cI cJ cZ rz n H.size h_reader_tape h_reader_tape_bytes u_9.2.1 v_reader_tape_next v_reader_tape_type v_reader_tape_place v_reader_tape_formerPlace v_reader_tape_word v_reader_tape_number u_9.2.2 z5 hn_10) w_2_35 w_2_37 ws_0 w_1_4 w_2_38 cb_X4_put rfl rfl ⟨Nat.le_of_ble_eq_true rfl, Nat.le_of_ble_eq_true rfl⟩ rfl hl.1 rfl (Nat.le_of_ble_eq_true rfl) dX6_feed_54 ⟨Nat.le_of_ble_eq_true rfl, Nat.le_of_ble_eq_true rfl⟩ (c2 := 0) (s2 := 0) rfl rfl (k0 := 2) rfl rfl [2, 3] [0, 1] [0, 1, 2, 3] rfl rfl (by decide) (by decide) (by decide) (by decide) (fun _ => rfl) (fun u_11 H locs hG hP hD hS => ?_)
      replace hF := bdQ hG hF
      refine lv_aload hx hb dX6_feed_57 (lv_at hl 0 rfl) ?_
      refine va_getN (D := D) (ci := 4) (C := RX4) (T := TX4) (N := 8) hx hb ha inAX4 hown hK hP 2 rfl rfl 1 (by decide) (va_Nw.use rfl (hE.2.1 _ w_1_88)) (fun _ h9 => h9) rfl dX6_feed_59 ?_
      exact hret (u_11.2.1, u_11.2.1, u_11.2.2) H locs ls _ hF hP hD hS dX6_feed_62
    · replace hF := ifF c_1 hF
      refine lv_iconst (v := -1) hx hb dX6_feed_23 (by decide) ?_
      exact hret ((-1 : Int32), v_reader_tape_length, a_reader_tape_bytes) H locs ls _ hF hP hD hS dX6_feed_24
  rw [hH, hlo] at goal
  exact goal
theorem dX6_end_0 : decode cX6_end 0 = .ok (.iload_n 1, 1) := by decide +kernel
theorem dX6_end_1 : decode cX6_end 1 = .ok (.ifCond .lt 17, 3) := by decide +kernel
theorem dX6_end_4 : decode cX6_end 4 = .ok (.iload_n 1, 1) := by decide +kernel
theorem dX6_end_5 : decode cX6_end 5 = .ok (.aload_n 0, 1) := by decide +kernel
theorem dX6_end_6 : decode cX6_end 6 = .ok (.getfield 19, 3) := by decide +kernel
theorem dX6_end_9 : decode cX6_end 9 = .ok (.getfield 70, 3) := by decide +kernel
theorem dX6_end_12 : decode cX6_end 12 = .ok (.getfield 74, 3) := by decide +kernel
theorem dX6_end_15 : decode cX6_end 15 = .ok (.if_icmp .le 5, 3) := by decide +kernel
theorem dX6_end_18 : decode cX6_end 18 = .ok (.iconst (-1), 1) := by decide +kernel
theorem dX6_end_19 : decode cX6_end 19 = .ok (.ireturn, 1) := by decide +kernel
theorem dX6_end_20 : decode cX6_end 20 = .ok (.aload_n 0, 1) := by decide +kernel
theorem dX6_end_21 : decode cX6_end 21 = .ok (.getfield 19, 3) := by decide +kernel
theorem dX6_end_24 : decode cX6_end 24 = .ok (.getfield 70, 3) := by decide +kernel
theorem dX6_end_27 : decode cX6_end 27 = .ok (.iload_n 1, 1) := by decide +kernel
theorem dX6_end_28 : decode cX6_end 28 = .ok (.putfield 74, 3) := by decide +kernel
theorem dX6_end_31 : decode cX6_end 31 = .ok (.iload_n 1, 1) := by decide +kernel
theorem dX6_end_32 : decode cX6_end 32 = .ok (.ireturn, 1) := by decide +kernel
abbrev rmX6_end : Room := { frames := 0, cells := 0, slots := 0, locals := 0 }
theorem cb_X6_end : CBn yX6_end 1 := ⟨by decide +kernel, by decide +kernel, by decide +kernel⟩
def FX6_end (n : Nat) (v_reader_tape_length : Int32) (z1 : Int32) : Option (Int32 × Int32) := if z1 < 0 then (some ((-1 : Int32), v_reader_tape_length)) else (if z1 ≤ v_reader_tape_length then (some (z1, z1)) else (some ((-1 : Int32), v_reader_tape_length)))
set_option maxHeartbeats 4000000 in
set_option maxRecDepth 100000 in
theorem kX6_end (l : Launch) (D : va_G) (cB cI cJ cZ : ClassId) (rz n sz : Nat) (h_t : Nat) (h_reader : Nat) (h_reader_tape : Nat) (h_told : Nat) (h_chosen : Nat) (h_tried : Nat) (h_byHand : Nat) (h_coming : Nat) (h_ends : Nat) (h_heaps : Nat) (h_yard : Nat) (h_reader_draft : Nat) (h_reader_names : Nat) (h_reader_namePlaces : Nat) (h_reader_nameUnits : Nat) (h_reader_nameSettings : Nat) (h_reader_setNames : Nat) (h_reader_setValues : Nat) (h_reader_tape_bytes : Nat) (v_faultNumber : Int32) (v_faultPlace : Int32) (v_costOfKilogram : Int32) (v_reader_fault : Int32) (v_reader_faultPlace : Int32) (v_reader_nameCount : Int32) (v_reader_setCount : Int32) (v_reader_tape_length : Int32) (v_reader_tape_next : Int32) (v_reader_tape_type : Int32) (v_reader_tape_place : Int32) (v_reader_tape_formerPlace : Int32) (v_reader_tape_word : Int64) (v_reader_tape_number : Int32) (z1 : Int32) (hN : FX6_end n v_reader_tape_length z1 ≠ none) : Met l yX6_end (Cond.code yX6_end cX6_end 2 (some .int) :: AL) rmX6_end (PW D cB cI cJ cZ rz [.ref h_t, .int z1] [(h_t, .inr (6, [.ref h_told, .ref h_reader, .int v_faultNumber, .int v_faultPlace, .ref h_chosen, .ref h_tried, .ref h_byHand, .ref h_coming, .ref h_ends, .ref h_heaps, .ref h_yard, .int v_costOfKilogram])), (h_reader, .inr (3, [.int v_reader_fault, .int v_reader_faultPlace, .ref h_reader_tape, .ref h_reader_draft, .ref h_reader_names, .ref h_reader_namePlaces, .ref h_reader_nameUnits, .ref h_reader_nameSettings, .int v_reader_nameCount, .ref h_reader_setNames, .ref h_reader_setValues, .int v_reader_setCount])), (h_reader_tape, .inr (4, [.ref h_reader_tape_bytes, .int v_reader_tape_length, .int v_reader_tape_next, .int v_reader_tape_type, .int v_reader_tape_place, .int v_reader_tape_formerPlace, .long v_reader_tape_word, .int v_reader_tape_number]))] sz) (QI D (FX6_end n v_reader_tape_length z1) (fun u => [(h_t, .inr (6, [.ref h_told, .ref h_reader, .int v_faultNumber, .int v_faultPlace, .ref h_chosen, .ref h_tried, .ref h_byHand, .ref h_coming, .ref h_ends, .ref h_heaps, .ref h_yard, .int v_costOfKilogram])), (h_reader, .inr (3, [.int v_reader_fault, .int v_reader_faultPlace, .ref h_reader_tape, .ref h_reader_draft, .ref h_reader_names, .ref h_reader_namePlaces, .ref h_reader_nameUnits, .ref h_reader_nameSettings, .int v_reader_nameCount, .ref h_reader_setNames, .ref h_reader_setValues, .int v_reader_setCount])), (h_reader_tape, .inr (4, [.ref h_reader_tape_bytes, .int u.2, .int v_reader_tape_next, .int v_reader_tape_type, .int v_reader_tape_place, .int v_reader_tape_formerPlace, .long v_reader_tape_word, .int v_reader_tape_number]))]) (va_A [(h_t, .inr (6, [.ref h_told, .ref h_reader, .int v_faultNumber, .int v_faultPlace, .ref h_chosen, .ref h_tried, .ref h_byHand, .ref h_coming, .ref h_ends, .ref h_heaps, .ref h_yard, .int v_costOfKilogram])), (h_reader, .inr (3, [.int v_reader_fault, .int v_reader_faultPlace, .ref h_reader_tape, .ref h_reader_draft, .ref h_reader_names, .ref h_reader_namePlaces, .ref h_reader_nameUnits, .ref h_reader_nameSettings, .int v_reader_nameCount, .ref h_reader_setNames, .ref h_reader_setValues, .int v_reader_setCount])), (h_reader_tape, .inr (4, [.ref h_reader_tape_bytes, .int v_reader_tape_length, .int v_reader_tape_next, .int v_reader_tape_type, .int v_reader_tape_place, .int v_reader_tape_formerPlace, .long v_reader_tape_word, .int v_reader_tape_number]))] sz)) 0 0 (va_A [(h_t, .inr (6, [.ref h_told, .ref h_reader, .int v_faultNumber, .int v_faultPlace, .ref h_chosen, .ref h_tried, .ref h_byHand, .ref h_coming, .ref h_ends, .ref h_heaps, .ref h_yard, .int v_costOfKilogram])), (h_reader, .inr (3, [.int v_reader_fault, .int v_reader_faultPlace, .ref h_reader_tape, .ref h_reader_draft, .ref h_reader_names, .ref h_reader_namePlaces, .ref h_reader_nameUnits, .ref h_reader_nameSettings, .int v_reader_nameCount, .ref h_reader_setNames, .ref h_reader_setValues, .int v_reader_setCount])), (h_reader_tape, .inr (4, [.ref h_reader_tape_bytes, .int v_reader_tape_length, .int v_reader_tape_next, .int v_reader_tape_type, .int v_reader_tape_place, .int v_reader_tape_formerPlace, .long v_reader_tape_word, .int v_reader_tape_number]))] sz) := by
  obtain ⟨O, hF⟩ : ∃ O, FX6_end n v_reader_tape_length z1 = O := ⟨_, rfl⟩
  rw [hF] at hN ⊢
  refine enterI (cc := cX6_end) (nL := 2) (by decide) (Nat.le_of_ble_eq_true rfl) ?_
  intro p e s m below meth c A Q X hA hE hnm hsz hP hD hS hret ls hl
  obtain ⟨hx, hb, hml, hown0, ha⟩ := id X
  have hown : s.vm.findClass RX6 = some m.cls := hown0
  have hK := hE.1
  have hl : lv_has ls 2 [(0, .ref h_t), (1, .int z1)] := hl
  have hX : CallFix p m c cX6_end 2 s ([.ref h_t, .int z1] : List Value).toArray AL RX6 := X
  have X := hX
  unfold FX6_end at hF
  obtain ⟨H, hH⟩ : ∃ H, H = s.heap := ⟨_, rfl⟩
  obtain ⟨locs, hlo⟩ : ∃ locs : List Loc, locs = [] := ⟨_, rfl⟩
  have hS : va_S A s.heap H locs := by rw [hH, hlo]; exact hS
  rw [← hH] at hP
  have goal : W p l e rmX6_end s m ([.ref h_t, .int z1] : List Value).toArray below meth c H locs 0 0 Q (F0 m 0 ls []) := by
    refine lv_iload_n hx hb dX6_end_0 rfl (lv_at hl 1 rfl) ?_
    refine lv_if_lt (tgt := 18) hx hb dX6_end_1 (by decide) (fun c_1 => ?_) (fun c_1 => ?_)
    · replace hF := ifT c_1 hF
      refine lv_iconst (v := -1) hx hb dX6_end_18 (by decide) ?_
      exact hret ((-1 : Int32), v_reader_tape_length) H locs ls _ hF hP hD hS dX6_end_19
    · replace hF := ifF c_1 hF
      refine lv_iload_n hx hb dX6_end_4 rfl (lv_at hl 1 rfl) ?_
      refine lv_aload_n hx hb dX6_end_5 rfl (lv_at hl 0 rfl) ?_
      refine va_get (D := D) (ci := 6) (C := RX6) (T := TX6) (N := 12) hx hb ha inAX6 hown hK hP 0 rfl rfl 1 (by decide) (ha _ w_1_235) (fun _ h9 => h9) rfl dX6_end_6 ?_
      refine va_getN (D := D) (ci := 3) (C := RX3) (T := TX3) (N := 12) hx hb ha inAX3 hown hK hP 1 rfl rfl 2 (by decide) (va_Nw.use rfl (hE.2.1 _ w_1_125)) (fun _ h9 => h9) rfl dX6_end_9 ?_
      refine va_getN (D := D) (ci := 4) (C := RX4) (T := TX4) (N := 8) hx hb ha inAX4 hown hK hP 2 rfl rfl 1 (by decide) (va_Nw.use rfl (hE.2.1 _ w_1_88)) (fun _ h9 => h9) rfl dX6_end_12 ?_
      refine lv_icmp_le (tgt := 20) hx hb dX6_end_15 (by decide) (fun c_2 => ?_) (fun c_2 => ?_)
      · replace hF := ifT c_2 hF
        refine lv_aload_n hx hb dX6_end_20 rfl (lv_at hl 0 rfl) ?_
        refine va_get (D := D) (ci := 6) (C := RX6) (T := TX6) (N := 12) hx hb ha inAX6 hown hK hP 0 rfl rfl 1 (by decide) (ha _ w_1_235) (fun _ h9 => h9) rfl dX6_end_21 ?_
        refine va_getN (D := D) (ci := 3) (C := RX3) (T := TX3) (N := 12) hx hb ha inAX3 hown hK hP 1 rfl rfl 2 (by decide) (va_Nw.use rfl (hE.2.1 _ w_1_125)) (fun _ h9 => h9) rfl dX6_end_24 ?_
        refine lv_iload_n hx hb dX6_end_27 rfl (lv_at hl 1 rfl) ?_
        refine ptN (C := RX4) (T := TX4) (N := 8) (ci := 4) (v := .int z1) (W2 := [(h_t, .inr (6, [.ref h_told, .ref h_reader, .int v_faultNumber, .int v_faultPlace, .ref h_chosen, .ref h_tried, .ref h_byHand, .ref h_coming, .ref h_ends, .ref h_heaps, .ref h_yard, .int v_costOfKilogram])), (h_reader, .inr (3, [.int v_reader_fault, .int v_reader_faultPlace, .ref h_reader_tape, .ref h_reader_draft, .ref h_reader_names, .ref h_reader_namePlaces, .ref h_reader_nameUnits, .ref h_reader_nameSettings, .int v_reader_nameCount, .ref h_reader_setNames, .ref h_reader_setValues, .int v_reader_setCount])), (h_reader_tape, .inr (4, [.ref h_reader_tape_bytes, .int z1, .int v_reader_tape_next, .int v_reader_tape_type, .int v_reader_tape_place, .int v_reader_tape_formerPlace, .long v_reader_tape_word, .int v_reader_tape_number]))]) hx hb ha inAX4 tyX4 tyX4_ok nmX4 hown hK hP hD hS 2 rfl rfl 1 (by decide) (va_Nw.use rfl (hE.2.1 _ w_1_88)) rfl rfl rfl rfl (Nat.le_of_ble_eq_true rfl) dX6_end_28 rfl (fun H locs hP hD hS => ?_)
        refine lv_iload_n hx hb dX6_end_31 rfl (lv_at hl 1 rfl) ?_
        exact hret (z1, z1) H locs ls _ hF hP hD hS dX6_end_32
      · replace hF := ifF c_2 hF
        refine lv_iconst (v := -1) hx hb dX6_end_18 (by decide) ?_
        exact hret ((-1 : Int32), v_reader_tape_length) H locs ls _ hF hP hD hS dX6_end_19
  rw [hH, hlo] at goal
  exact goal
theorem dX6_plan_0 : decode cX6_plan 0 = .ok (.aload_n 0, 1) := by decide +kernel
theorem dX6_plan_1 : decode cX6_plan 1 = .ok (.getfield 19, 3) := by decide +kernel
theorem dX6_plan_4 : decode cX6_plan 4 = .ok (.invokevirtual 83, 3) := by decide +kernel
theorem dX6_plan_7 : decode cX6_plan 7 = .ok (.aload_n 0, 1) := by decide +kernel
theorem dX6_plan_8 : decode cX6_plan 8 = .ok (.aload_n 0, 1) := by decide +kernel
theorem dX6_plan_9 : decode cX6_plan 9 = .ok (.getfield 19, 3) := by decide +kernel
theorem dX6_plan_12 : decode cX6_plan 12 = .ok (.getfield 86, 3) := by decide +kernel
theorem dX6_plan_15 : decode cX6_plan 15 = .ok (.putfield 89, 3) := by decide +kernel
theorem dX6_plan_18 : decode cX6_plan 18 = .ok (.aload_n 0, 1) := by decide +kernel
theorem dX6_plan_19 : decode cX6_plan 19 = .ok (.aload_n 0, 1) := by decide +kernel
theorem dX6_plan_20 : decode cX6_plan 20 = .ok (.getfield 19, 3) := by decide +kernel
theorem dX6_plan_23 : decode cX6_plan 23 = .ok (.getfield 92, 3) := by decide +kernel
theorem dX6_plan_26 : decode cX6_plan 26 = .ok (.putfield 23, 3) := by decide +kernel
theorem dX6_plan_29 : decode cX6_plan 29 = .ok (.aload_n 0, 1) := by decide +kernel
theorem dX6_plan_30 : decode cX6_plan 30 = .ok (.getfield 89, 3) := by decide +kernel
theorem dX6_plan_33 : decode cX6_plan 33 = .ok (.ifCond .eq 5, 3) := by decide +kernel
theorem dX6_plan_36 : decode cX6_plan 36 = .ok (.iconst (-1), 1) := by decide +kernel
theorem dX6_plan_37 : decode cX6_plan 37 = .ok (.ireturn, 1) := by decide +kernel
theorem dX6_plan_38 : decode cX6_plan 38 = .ok (.aload_n 0, 1) := by decide +kernel
theorem dX6_plan_39 : decode cX6_plan 39 = .ok (.getfield 10, 3) := by decide +kernel
theorem dX6_plan_42 : decode cX6_plan 42 = .ok (.astore_n 1, 1) := by decide +kernel
theorem dX6_plan_43 : decode cX6_plan 43 = .ok (.aload_n 0, 1) := by decide +kernel
theorem dX6_plan_44 : decode cX6_plan 44 = .ok (.aload_n 0, 1) := by decide +kernel
theorem dX6_plan_45 : decode cX6_plan 45 = .ok (.getfield 19, 3) := by decide +kernel
theorem dX6_plan_48 : decode cX6_plan 48 = .ok (.getfield 93, 3) := by decide +kernel
theorem dX6_plan_51 : decode cX6_plan 51 = .ok (.putfield 10, 3) := by decide +kernel
theorem dX6_plan_54 : decode cX6_plan 54 = .ok (.aload_n 0, 1) := by decide +kernel
theorem dX6_plan_55 : decode cX6_plan 55 = .ok (.getfield 19, 3) := by decide +kernel
theorem dX6_plan_58 : decode cX6_plan 58 = .ok (.aload_n 1, 1) := by decide +kernel
theorem dX6_plan_59 : decode cX6_plan 59 = .ok (.putfield 93, 3) := by decide +kernel
theorem dX6_plan_62 : decode cX6_plan 62 = .ok (.aload_n 0, 1) := by decide +kernel
theorem dX6_plan_63 : decode cX6_plan 63 = .ok (.getfield 19, 3) := by decide +kernel
theorem dX6_plan_66 : decode cX6_plan 66 = .ok (.getfield 70, 3) := by decide +kernel
theorem dX6_plan_69 : decode cX6_plan 69 = .ok (.iconst 0, 1) := by decide +kernel
theorem dX6_plan_70 : decode cX6_plan 70 = .ok (.putfield 74, 3) := by decide +kernel
theorem dX6_plan_73 : decode cX6_plan 73 = .ok (.aload_n 0, 1) := by decide +kernel
theorem dX6_plan_74 : decode cX6_plan 74 = .ok (.getfield 27, 3) := by decide +kernel
theorem dX6_plan_77 : decode cX6_plan 77 = .ok (.iconst 0, 1) := by decide +kernel
theorem dX6_plan_78 : decode cX6_plan 78 = .ok (.invokestatic 64, 3) := by decide +kernel
theorem dX6_plan_81 : decode cX6_plan 81 = .ok (.aload_n 0, 1) := by decide +kernel
theorem dX6_plan_82 : decode cX6_plan 82 = .ok (.getfield 10, 3) := by decide +kernel
theorem dX6_plan_85 : decode cX6_plan 85 = .ok (.getfield 96, 3) := by decide +kernel
theorem dX6_plan_88 : decode cX6_plan 88 = .ok (.ireturn, 1) := by decide +kernel
abbrev rmX6_plan : Room := { frames := 7, cells := 0, slots := 0, locals := 149 }
theorem cb_X6_plan : CBn yX6_plan 0 := ⟨by decide +kernel, by decide +kernel, by decide +kernel⟩
def FX6_plan (n : Nat) (v_faultNumber : Int32) (v_faultPlace : Int32) (v_reader_fault : Int32) (v_reader_faultPlace : Int32) (v_reader_nameCount : Int32) (v_reader_setCount : Int32) (v_reader_draft_units : Int32) (a_reader_draft_settings : Nat → Int32) (a_reader_draft_percents : Nat → Int32) (a_reader_draft_grades : Nat → Int32) (v_reader_tape_length : Int32) (v_reader_tape_next : Int32) (v_reader_tape_type : Int32) (v_reader_tape_place : Int32) (v_reader_tape_formerPlace : Int32) (v_reader_tape_word : Int64) (v_reader_tape_number : Int32) (a_reader_tape_bytes : Nat → Int32) (a_reader_names : Nat → Int64) (a_reader_namePlaces : Nat → Int32) (a_reader_nameUnits : Nat → Int32) (a_reader_nameSettings : Nat → Int32) (a_reader_draft_yesLeads : Nat → Int32) (a_reader_draft_noLeads : Nat → Int32) (a_reader_setValues : Nat → Int32) (a_reader_setNames : Nat → Int32) (a_reader_draft_gradeKinds : Nat → Int32) (a_reader_draft_gradePurities : Nat → Int32) (a_reader_draft_gradePrices : Nat → Int32) (v_told_units : Int32) (a_chosen : Nat → Int32) : Option (Int32 × Bool × Int32 × Int32 × Int32 × Int32 × Bool × Int32 × Int32 × Int32 × (Nat → Int32) × (Nat → Int32) × (Nat → Int32) × Int32 × Int32 × Int32 × Int32 × Int32 × Int64 × Int32 × (Nat → Int64) × (Nat → Int32) × (Nat → Int32) × (Nat → Int32) × (Nat → Int32) × (Nat → Int32) × (Nat → Int32) × (Nat → Int32) × (Nat → Int32) × (Nat → Int32) × (Nat → Int32) × (Nat → Int32)) := bd (FX3_read n v_reader_fault v_reader_faultPlace v_reader_nameCount v_reader_setCount v_reader_draft_units a_reader_draft_settings a_reader_draft_percents a_reader_draft_grades v_reader_tape_length v_reader_tape_next v_reader_tape_type v_reader_tape_place v_reader_tape_formerPlace v_reader_tape_word v_reader_tape_number a_reader_tape_bytes a_reader_names a_reader_namePlaces a_reader_nameUnits a_reader_nameSettings a_reader_draft_yesLeads a_reader_draft_noLeads a_reader_setValues a_reader_setNames a_reader_draft_gradeKinds a_reader_draft_gradePurities a_reader_draft_gradePrices) (fun u_2 => if u_2.2.1 = 0 then (bd (FJ7_fill_53178 n 5 a_chosen (0 : Int32)) (fun u_5 => some (u_2.2.2.2.2.2.1, true, u_2.2.1, u_2.2.2.1, u_2.2.1, u_2.2.2.1, true, u_2.2.2.2.1, u_2.2.2.2.2.1, u_2.2.2.2.2.2.1, u_2.2.2.2.2.2.2.1, u_2.2.2.2.2.2.2.2.1, u_2.2.2.2.2.2.2.2.2.1, (0 : Int32), u_2.2.2.2.2.2.2.2.2.2.1, u_2.2.2.2.2.2.2.2.2.2.2.1, u_2.2.2.2.2.2.2.2.2.2.2.2.1, u_2.2.2.2.2.2.2.2.2.2.2.2.2.1, u_2.2.2.2.2.2.2.2.2.2.2.2.2.2.1, u_2.2.2.2.2.2.2.2.2.2.2.2.2.2.2.1, u_2.2.2.2.2.2.2.2.2.2.2.2.2.2.2.2.1, u_2.2.2.2.2.2.2.2.2.2.2.2.2.2.2.2.2.1, u_2.2.2.2.2.2.2.2.2.2.2.2.2.2.2.2.2.2.1, u_2.2.2.2.2.2.2.2.2.2.2.2.2.2.2.2.2.2.2.1, u_2.2.2.2.2.2.2.2.2.2.2.2.2.2.2.2.2.2.2.2.1, u_2.2.2.2.2.2.2.2.2.2.2.2.2.2.2.2.2.2.2.2.2.1, u_2.2.2.2.2.2.2.2.2.2.2.2.2.2.2.2.2.2.2.2.2.2.1, u_2.2.2.2.2.2.2.2.2.2.2.2.2.2.2.2.2.2.2.2.2.2.2.1, u_2.2.2.2.2.2.2.2.2.2.2.2.2.2.2.2.2.2.2.2.2.2.2.2.1, u_2.2.2.2.2.2.2.2.2.2.2.2.2.2.2.2.2.2.2.2.2.2.2.2.2.1, u_2.2.2.2.2.2.2.2.2.2.2.2.2.2.2.2.2.2.2.2.2.2.2.2.2.2, u_5.2))) else (some ((-1 : Int32), false, u_2.2.1, u_2.2.2.1, u_2.2.1, u_2.2.2.1, false, u_2.2.2.2.1, u_2.2.2.2.2.1, u_2.2.2.2.2.2.1, u_2.2.2.2.2.2.2.1, u_2.2.2.2.2.2.2.2.1, u_2.2.2.2.2.2.2.2.2.1, v_reader_tape_length, u_2.2.2.2.2.2.2.2.2.2.1, u_2.2.2.2.2.2.2.2.2.2.2.1, u_2.2.2.2.2.2.2.2.2.2.2.2.1, u_2.2.2.2.2.2.2.2.2.2.2.2.2.1, u_2.2.2.2.2.2.2.2.2.2.2.2.2.2.1, u_2.2.2.2.2.2.2.2.2.2.2.2.2.2.2.1, u_2.2.2.2.2.2.2.2.2.2.2.2.2.2.2.2.1, u_2.2.2.2.2.2.2.2.2.2.2.2.2.2.2.2.2.1, u_2.2.2.2.2.2.2.2.2.2.2.2.2.2.2.2.2.2.1, u_2.2.2.2.2.2.2.2.2.2.2.2.2.2.2.2.2.2.2.1, u_2.2.2.2.2.2.2.2.2.2.2.2.2.2.2.2.2.2.2.2.1, u_2.2.2.2.2.2.2.2.2.2.2.2.2.2.2.2.2.2.2.2.2.1, u_2.2.2.2.2.2.2.2.2.2.2.2.2.2.2.2.2.2.2.2.2.2.1, u_2.2.2.2.2.2.2.2.2.2.2.2.2.2.2.2.2.2.2.2.2.2.2.1, u_2.2.2.2.2.2.2.2.2.2.2.2.2.2.2.2.2.2.2.2.2.2.2.2.1, u_2.2.2.2.2.2.2.2.2.2.2.2.2.2.2.2.2.2.2.2.2.2.2.2.2.1, u_2.2.2.2.2.2.2.2.2.2.2.2.2.2.2.2.2.2.2.2.2.2.2.2.2.2, a_chosen)))
set_option maxHeartbeats 4000000 in
set_option maxRecDepth 100000 in
theorem kX6_plan (l : Launch) (D : va_G) (cB cI cJ cZ : ClassId) (rz n sz : Nat) (h_t : Nat) (h_reader : Nat) (h_reader_draft : Nat) (h_reader_draft_settings : Nat) (h_reader_draft_percents : Nat) (h_reader_draft_grades : Nat) (h_reader_tape : Nat) (h_reader_tape_bytes : Nat) (h_reader_names : Nat) (h_reader_namePlaces : Nat) (h_reader_nameUnits : Nat) (h_reader_nameSettings : Nat) (h_reader_draft_yesLeads : Nat) (h_reader_draft_noLeads : Nat) (h_reader_setValues : Nat) (h_reader_setNames : Nat) (h_reader_draft_gradeKinds : Nat) (h_reader_draft_gradePurities : Nat) (h_reader_draft_gradePrices : Nat) (h_told : Nat) (h_chosen : Nat) (h_tried : Nat) (h_byHand : Nat) (h_coming : Nat) (h_ends : Nat) (h_heaps : Nat) (h_yard : Nat) (h_told_settings : Nat) (h_told_yesLeads : Nat) (h_told_noLeads : Nat) (h_told_percents : Nat) (h_told_grades : Nat) (h_told_gradeKinds : Nat) (h_told_gradePurities : Nat) (h_told_gradePrices : Nat) (v_faultNumber : Int32) (v_faultPlace : Int32) (v_costOfKilogram : Int32) (v_reader_fault : Int32) (v_reader_faultPlace : Int32) (v_reader_nameCount : Int32) (v_reader_setCount : Int32) (v_reader_draft_units : Int32) (v_reader_tape_length : Int32) (v_reader_tape_next : Int32) (v_reader_tape_type : Int32) (v_reader_tape_place : Int32) (v_reader_tape_formerPlace : Int32) (v_reader_tape_word : Int64) (v_reader_tape_number : Int32) (v_told_units : Int32) (a_reader_draft_settings : Nat → Int32) (a_reader_draft_percents : Nat → Int32) (a_reader_draft_grades : Nat → Int32) (a_reader_tape_bytes : Nat → Int32) (a_reader_names : Nat → Int64) (a_reader_namePlaces : Nat → Int32) (a_reader_nameUnits : Nat → Int32) (a_reader_nameSettings : Nat → Int32) (a_reader_draft_yesLeads : Nat → Int32) (a_reader_draft_noLeads : Nat → Int32) (a_reader_setValues : Nat → Int32) (a_reader_setNames : Nat → Int32) (a_reader_draft_gradeKinds : Nat → Int32) (a_reader_draft_gradePurities : Nat → Int32) (a_reader_draft_gradePrices : Nat → Int32) (a_chosen : Nat → Int32) (hN : FX6_plan n v_faultNumber v_faultPlace v_reader_fault v_reader_faultPlace v_reader_nameCount v_reader_setCount v_reader_draft_units a_reader_draft_settings a_reader_draft_percents a_reader_draft_grades v_reader_tape_length v_reader_tape_next v_reader_tape_type v_reader_tape_place v_reader_tape_formerPlace v_reader_tape_word v_reader_tape_number a_reader_tape_bytes a_reader_names a_reader_namePlaces a_reader_nameUnits a_reader_nameSettings a_reader_draft_yesLeads a_reader_draft_noLeads a_reader_setValues a_reader_setNames a_reader_draft_gradeKinds a_reader_draft_gradePurities a_reader_draft_gradePrices v_told_units a_chosen ≠ none) : Met l yX6_plan (Cond.code yX6_plan cX6_plan 2 (some .int) :: AL) rmX6_plan (PW D cB cI cJ cZ rz [.ref h_t] [(h_t, .inr (6, [.ref h_told, .ref h_reader, .int v_faultNumber, .int v_faultPlace, .ref h_chosen, .ref h_tried, .ref h_byHand, .ref h_coming, .ref h_ends, .ref h_heaps, .ref h_yard, .int v_costOfKilogram])), (h_reader, .inr (3, [.int v_reader_fault, .int v_reader_faultPlace, .ref h_reader_tape, .ref h_reader_draft, .ref h_reader_names, .ref h_reader_namePlaces, .ref h_reader_nameUnits, .ref h_reader_nameSettings, .int v_reader_nameCount, .ref h_reader_setNames, .ref h_reader_setValues, .int v_reader_setCount])), (h_reader_draft, .inr (2, [.int v_reader_draft_units, .ref h_reader_draft_settings, .ref h_reader_draft_yesLeads, .ref h_reader_draft_noLeads, .ref h_reader_draft_percents, .ref h_reader_draft_grades, .ref h_reader_draft_gradeKinds, .ref h_reader_draft_gradePurities, .ref h_reader_draft_gradePrices])), (h_reader_draft_settings, .inl (cI, 5, .inl a_reader_draft_settings)), (h_reader_draft_percents, .inl (cI, 75, .inl a_reader_draft_percents)), (h_reader_draft_grades, .inl (cI, 4, .inl a_reader_draft_grades)), (h_reader_tape, .inr (4, [.ref h_reader_tape_bytes, .int v_reader_tape_length, .int v_reader_tape_next, .int v_reader_tape_type, .int v_reader_tape_place, .int v_reader_tape_formerPlace, .long v_reader_tape_word, .int v_reader_tape_number])), (h_reader_tape_bytes, .inl (cB, 1200, .inl a_reader_tape_bytes)), (h_reader_names, .inl (cJ, 96, .inr (.inl a_reader_names))), (h_reader_namePlaces, .inl (cI, 96, .inl a_reader_namePlaces)), (h_reader_nameUnits, .inl (cI, 96, .inl a_reader_nameUnits)), (h_reader_nameSettings, .inl (cI, 96, .inl a_reader_nameSettings)), (h_reader_draft_yesLeads, .inl (cI, 5, .inl a_reader_draft_yesLeads)), (h_reader_draft_noLeads, .inl (cI, 5, .inl a_reader_draft_noLeads)), (h_reader_setValues, .inl (cI, 400, .inl a_reader_setValues)), (h_reader_setNames, .inl (cI, 80, .inl a_reader_setNames)), (h_reader_draft_gradeKinds, .inl (cI, 4, .inl a_reader_draft_gradeKinds)), (h_reader_draft_gradePurities, .inl (cI, 16, .inl a_reader_draft_gradePurities)), (h_reader_draft_gradePrices, .inl (cI, 16, .inl a_reader_draft_gradePrices)), (h_told, .inr (2, [.int v_told_units, .ref h_told_settings, .ref h_told_yesLeads, .ref h_told_noLeads, .ref h_told_percents, .ref h_told_grades, .ref h_told_gradeKinds, .ref h_told_gradePurities, .ref h_told_gradePrices])), (h_chosen, .inl (cI, 5, .inl a_chosen))] sz) (QI D (FX6_plan n v_faultNumber v_faultPlace v_reader_fault v_reader_faultPlace v_reader_nameCount v_reader_setCount v_reader_draft_units a_reader_draft_settings a_reader_draft_percents a_reader_draft_grades v_reader_tape_length v_reader_tape_next v_reader_tape_type v_reader_tape_place v_reader_tape_formerPlace v_reader_tape_word v_reader_tape_number a_reader_tape_bytes a_reader_names a_reader_namePlaces a_reader_nameUnits a_reader_nameSettings a_reader_draft_yesLeads a_reader_draft_noLeads a_reader_setValues a_reader_setNames a_reader_draft_gradeKinds a_reader_draft_gradePurities a_reader_draft_gradePrices v_told_units a_chosen) (fun u => [(h_t, .inr (6, [.ref (cond u.2.1 h_reader_draft h_told), .ref h_reader, .int u.2.2.1, .int u.2.2.2.1, .ref h_chosen, .ref h_tried, .ref h_byHand, .ref h_coming, .ref h_ends, .ref h_heaps, .ref h_yard, .int v_costOfKilogram])), (h_reader, .inr (3, [.int u.2.2.2.2.1, .int u.2.2.2.2.2.1, .ref h_reader_tape, .ref (cond u.2.2.2.2.2.2.1 h_told h_reader_draft), .ref h_reader_names, .ref h_reader_namePlaces, .ref h_reader_nameUnits, .ref h_reader_nameSettings, .int u.2.2.2.2.2.2.2.1, .ref h_reader_setNames, .ref h_reader_setValues, .int u.2.2.2.2.2.2.2.2.1])), (h_reader_draft, .inr (2, [.int u.2.2.2.2.2.2.2.2.2.1, .ref h_reader_draft_settings, .ref h_reader_draft_yesLeads, .ref h_reader_draft_noLeads, .ref h_reader_draft_percents, .ref h_reader_draft_grades, .ref h_reader_draft_gradeKinds, .ref h_reader_draft_gradePurities, .ref h_reader_draft_gradePrices])), (h_reader_draft_settings, .inl (cI, 5, .inl u.2.2.2.2.2.2.2.2.2.2.1)), (h_reader_draft_percents, .inl (cI, 75, .inl u.2.2.2.2.2.2.2.2.2.2.2.1)), (h_reader_draft_grades, .inl (cI, 4, .inl u.2.2.2.2.2.2.2.2.2.2.2.2.1)), (h_reader_tape, .inr (4, [.ref h_reader_tape_bytes, .int u.2.2.2.2.2.2.2.2.2.2.2.2.2.1, .int u.2.2.2.2.2.2.2.2.2.2.2.2.2.2.1, .int u.2.2.2.2.2.2.2.2.2.2.2.2.2.2.2.1, .int u.2.2.2.2.2.2.2.2.2.2.2.2.2.2.2.2.1, .int u.2.2.2.2.2.2.2.2.2.2.2.2.2.2.2.2.2.1, .long u.2.2.2.2.2.2.2.2.2.2.2.2.2.2.2.2.2.2.1, .int u.2.2.2.2.2.2.2.2.2.2.2.2.2.2.2.2.2.2.2.1])), (h_reader_tape_bytes, .inl (cB, 1200, .inl a_reader_tape_bytes)), (h_reader_names, .inl (cJ, 96, .inr (.inl u.2.2.2.2.2.2.2.2.2.2.2.2.2.2.2.2.2.2.2.2.1))), (h_reader_namePlaces, .inl (cI, 96, .inl u.2.2.2.2.2.2.2.2.2.2.2.2.2.2.2.2.2.2.2.2.2.1)), (h_reader_nameUnits, .inl (cI, 96, .inl u.2.2.2.2.2.2.2.2.2.2.2.2.2.2.2.2.2.2.2.2.2.2.1)), (h_reader_nameSettings, .inl (cI, 96, .inl u.2.2.2.2.2.2.2.2.2.2.2.2.2.2.2.2.2.2.2.2.2.2.2.1)), (h_reader_draft_yesLeads, .inl (cI, 5, .inl u.2.2.2.2.2.2.2.2.2.2.2.2.2.2.2.2.2.2.2.2.2.2.2.2.1)), (h_reader_draft_noLeads, .inl (cI, 5, .inl u.2.2.2.2.2.2.2.2.2.2.2.2.2.2.2.2.2.2.2.2.2.2.2.2.2.1)), (h_reader_setValues, .inl (cI, 400, .inl u.2.2.2.2.2.2.2.2.2.2.2.2.2.2.2.2.2.2.2.2.2.2.2.2.2.2.1)), (h_reader_setNames, .inl (cI, 80, .inl u.2.2.2.2.2.2.2.2.2.2.2.2.2.2.2.2.2.2.2.2.2.2.2.2.2.2.2.1)), (h_reader_draft_gradeKinds, .inl (cI, 4, .inl u.2.2.2.2.2.2.2.2.2.2.2.2.2.2.2.2.2.2.2.2.2.2.2.2.2.2.2.2.1)), (h_reader_draft_gradePurities, .inl (cI, 16, .inl u.2.2.2.2.2.2.2.2.2.2.2.2.2.2.2.2.2.2.2.2.2.2.2.2.2.2.2.2.2.1)), (h_reader_draft_gradePrices, .inl (cI, 16, .inl u.2.2.2.2.2.2.2.2.2.2.2.2.2.2.2.2.2.2.2.2.2.2.2.2.2.2.2.2.2.2.1)), (h_told, .inr (2, [.int v_told_units, .ref h_told_settings, .ref h_told_yesLeads, .ref h_told_noLeads, .ref h_told_percents, .ref h_told_grades, .ref h_told_gradeKinds, .ref h_told_gradePurities, .ref h_told_gradePrices])), (h_chosen, .inl (cI, 5, .inl u.2.2.2.2.2.2.2.2.2.2.2.2.2.2.2.2.2.2.2.2.2.2.2.2.2.2.2.2.2.2.2))]) (va_A [(h_t, .inr (6, [.ref h_told, .ref h_reader, .int v_faultNumber, .int v_faultPlace, .ref h_chosen, .ref h_tried, .ref h_byHand, .ref h_coming, .ref h_ends, .ref h_heaps, .ref h_yard, .int v_costOfKilogram])), (h_reader, .inr (3, [.int v_reader_fault, .int v_reader_faultPlace, .ref h_reader_tape, .ref h_reader_draft, .ref h_reader_names, .ref h_reader_namePlaces, .ref h_reader_nameUnits, .ref h_reader_nameSettings, .int v_reader_nameCount, .ref h_reader_setNames, .ref h_reader_setValues, .int v_reader_setCount])), (h_reader_draft, .inr (2, [.int v_reader_draft_units, .ref h_reader_draft_settings, .ref h_reader_draft_yesLeads, .ref h_reader_draft_noLeads, .ref h_reader_draft_percents, .ref h_reader_draft_grades, .ref h_reader_draft_gradeKinds, .ref h_reader_draft_gradePurities, .ref h_reader_draft_gradePrices])), (h_reader_draft_settings, .inl (cI, 5, .inl a_reader_draft_settings)), (h_reader_draft_percents, .inl (cI, 75, .inl a_reader_draft_percents)), (h_reader_draft_grades, .inl (cI, 4, .inl a_reader_draft_grades)), (h_reader_tape, .inr (4, [.ref h_reader_tape_bytes, .int v_reader_tape_length, .int v_reader_tape_next, .int v_reader_tape_type, .int v_reader_tape_place, .int v_reader_tape_formerPlace, .long v_reader_tape_word, .int v_reader_tape_number])), (h_reader_tape_bytes, .inl (cB, 1200, .inl a_reader_tape_bytes)), (h_reader_names, .inl (cJ, 96, .inr (.inl a_reader_names))), (h_reader_namePlaces, .inl (cI, 96, .inl a_reader_namePlaces)), (h_reader_nameUnits, .inl (cI, 96, .inl a_reader_nameUnits)), (h_reader_nameSettings, .inl (cI, 96, .inl a_reader_nameSettings)), (h_reader_draft_yesLeads, .inl (cI, 5, .inl a_reader_draft_yesLeads)), (h_reader_draft_noLeads, .inl (cI, 5, .inl a_reader_draft_noLeads)), (h_reader_setValues, .inl (cI, 400, .inl a_reader_setValues)), (h_reader_setNames, .inl (cI, 80, .inl a_reader_setNames)), (h_reader_draft_gradeKinds, .inl (cI, 4, .inl a_reader_draft_gradeKinds)), (h_reader_draft_gradePurities, .inl (cI, 16, .inl a_reader_draft_gradePurities)), (h_reader_draft_gradePrices, .inl (cI, 16, .inl a_reader_draft_gradePrices)), (h_told, .inr (2, [.int v_told_units, .ref h_told_settings, .ref h_told_yesLeads, .ref h_told_noLeads, .ref h_told_percents, .ref h_told_grades, .ref h_told_gradeKinds, .ref h_told_gradePurities, .ref h_told_gradePrices])), (h_chosen, .inl (cI, 5, .inl a_chosen))] sz)) 0 0 (va_A [(h_t, .inr (6, [.ref h_told, .ref h_reader, .int v_faultNumber, .int v_faultPlace, .ref h_chosen, .ref h_tried, .ref h_byHand, .ref h_coming, .ref h_ends, .ref h_heaps, .ref h_yard, .int v_costOfKilogram])), (h_reader, .inr (3, [.int v_reader_fault, .int v_reader_faultPlace, .ref h_reader_tape, .ref h_reader_draft, .ref h_reader_names, .ref h_reader_namePlaces, .ref h_reader_nameUnits, .ref h_reader_nameSettings, .int v_reader_nameCount, .ref h_reader_setNames, .ref h_reader_setValues, .int v_reader_setCount])), (h_reader_draft, .inr (2, [.int v_reader_draft_units, .ref h_reader_draft_settings, .ref h_reader_draft_yesLeads, .ref h_reader_draft_noLeads, .ref h_reader_draft_percents, .ref h_reader_draft_grades, .ref h_reader_draft_gradeKinds, .ref h_reader_draft_gradePurities, .ref h_reader_draft_gradePrices])), (h_reader_draft_settings, .inl (cI, 5, .inl a_reader_draft_settings)), (h_reader_draft_percents, .inl (cI, 75, .inl a_reader_draft_percents)), (h_reader_draft_grades, .inl (cI, 4, .inl a_reader_draft_grades)), (h_reader_tape, .inr (4, [.ref h_reader_tape_bytes, .int v_reader_tape_length, .int v_reader_tape_next, .int v_reader_tape_type, .int v_reader_tape_place, .int v_reader_tape_formerPlace, .long v_reader_tape_word, .int v_reader_tape_number])), (h_reader_tape_bytes, .inl (cB, 1200, .inl a_reader_tape_bytes)), (h_reader_names, .inl (cJ, 96, .inr (.inl a_reader_names))), (h_reader_namePlaces, .inl (cI, 96, .inl a_reader_namePlaces)), (h_reader_nameUnits, .inl (cI, 96, .inl a_reader_nameUnits)), (h_reader_nameSettings, .inl (cI, 96, .inl a_reader_nameSettings)), (h_reader_draft_yesLeads, .inl (cI, 5, .inl a_reader_draft_yesLeads)), (h_reader_draft_noLeads, .inl (cI, 5, .inl a_reader_draft_noLeads)), (h_reader_setValues, .inl (cI, 400, .inl a_reader_setValues)), (h_reader_setNames, .inl (cI, 80, .inl a_reader_setNames)), (h_reader_draft_gradeKinds, .inl (cI, 4, .inl a_reader_draft_gradeKinds)), (h_reader_draft_gradePurities, .inl (cI, 16, .inl a_reader_draft_gradePurities)), (h_reader_draft_gradePrices, .inl (cI, 16, .inl a_reader_draft_gradePrices)), (h_told, .inr (2, [.int v_told_units, .ref h_told_settings, .ref h_told_yesLeads, .ref h_told_noLeads, .ref h_told_percents, .ref h_told_grades, .ref h_told_gradeKinds, .ref h_told_gradePurities, .ref h_told_gradePrices])), (h_chosen, .inl (cI, 5, .inl a_chosen))] sz) := by
  obtain ⟨O, hF⟩ : ∃ O, FX6_plan n v_faultNumber v_faultPlace v_reader_fault v_reader_faultPlace v_reader_nameCount v_reader_setCount v_reader_draft_units a_reader_draft_settings a_reader_draft_percents a_reader_draft_grades v_reader_tape_length v_reader_tape_next v_reader_tape_type v_reader_tape_place v_reader_tape_formerPlace v_reader_tape_word v_reader_tape_number a_reader_tape_bytes a_reader_names a_reader_namePlaces a_reader_nameUnits a_reader_nameSettings a_reader_draft_yesLeads a_reader_draft_noLeads a_reader_setValues a_reader_setNames a_reader_draft_gradeKinds a_reader_draft_gradePurities a_reader_draft_gradePrices v_told_units a_chosen = O := ⟨_, rfl⟩
  rw [hF] at hN ⊢
  refine enterI (cc := cX6_plan) (nL := 2) (by decide) (Nat.le_of_ble_eq_true rfl) ?_
  intro p e s m below meth c A Q X hA hE hnm hsz hP hD hS hret ls hl
  obtain ⟨hx, hb, hml, hown0, ha⟩ := id X
  have hown : s.vm.findClass RX6 = some m.cls := hown0
  have hK := hE.1
  have hl : lv_has ls 2 [(0, .ref h_t)] := hl
  have hX : CallFix p m c cX6_plan 2 s ([.ref h_t] : List Value).toArray AL RX6 := X
  have X := hX
  unfold FX6_plan at hF
  obtain ⟨H, hH⟩ : ∃ H, H = s.heap := ⟨_, rfl⟩
  obtain ⟨locs, hlo⟩ : ∃ locs : List Loc, locs = [] := ⟨_, rfl⟩
  have hS : va_S A s.heap H locs := by rw [hH, hlo]; exact hS
  rw [← hH] at hP
  have goal : W p l e rmX6_plan s m ([.ref h_t] : List Value).toArray below meth c H locs 0 0 Q (F0 m 0 ls []) := by
    refine lv_aload_n hx hb dX6_plan_0 rfl (lv_at hl 0 rfl) ?_
    refine va_get (D := D) (ci := 6) (C := RX6) (T := TX6) (N := 12) hx hb ha inAX6 hown hK hP 0 rfl rfl 1 (by decide) (ha _ w_1_235) (fun _ h9 => h9) rfl dX6_plan_1 ?_
    have hn_1 := bdN hN hF
    refine callVNV (As := []) (rest := []) (wr := [(h_t, .inr (6, [.ref h_told, .ref h_reader, .int v_faultNumber, .int v_faultPlace, .ref h_chosen, .ref h_tried, .ref h_byHand, .ref h_coming, .ref h_ends, .ref h_heaps, .ref h_yard, .int v_costOfKilogram])), (h_told, .inr (2, [.int v_told_units, .ref h_told_settings, .ref h_told_yesLeads, .ref h_told_noLeads, .ref h_told_percents, .ref h_told_grades, .ref h_told_gradeKinds, .ref h_told_gradePurities, .ref h_told_gradePrices])), (h_chosen, .inl (cI, 5, .inl a_chosen))]) (W2 := fun u_2 => [(h_t, .inr (6, [.ref h_told, .ref h_reader, .int v_faultNumber, .int v_faultPlace, .ref h_chosen, .ref h_tried, .ref h_byHand, .ref h_coming, .ref h_ends, .ref h_heaps, .ref h_yard, .int v_costOfKilogram])), (h_reader, .inr (3, [.int u_2.2.1, .int u_2.2.2.1, .ref h_reader_tape, .ref h_reader_draft, .ref h_reader_names, .ref h_reader_namePlaces, .ref h_reader_nameUnits, .ref h_reader_nameSettings, .int u_2.2.2.2.1, .ref h_reader_setNames, .ref h_reader_setValues, .int u_2.2.2.2.2.1])), (h_reader_draft, .inr (2, [.int u_2.2.2.2.2.2.1, .ref h_reader_draft_settings, .ref h_reader_draft_yesLeads, .ref h_reader_draft_noLeads, .ref h_reader_draft_percents, .ref h_reader_draft_grades, .ref h_reader_draft_gradeKinds, .ref h_reader_draft_gradePurities, .ref h_reader_draft_gradePrices])), (h_reader_draft_settings, .inl (cI, 5, .inl u_2.2.2.2.2.2.2.1)), (h_reader_draft_percents, .inl (cI, 75, .inl u_2.2.2.2.2.2.2.2.1)), (h_reader_draft_grades, .inl (cI, 4, .inl u_2.2.2.2.2.2.2.2.2.1)), (h_reader_tape, .inr (4, [.ref h_reader_tape_bytes, .int v_reader_tape_length, .int u_2.2.2.2.2.2.2.2.2.2.1, .int u_2.2.2.2.2.2.2.2.2.2.2.1, .int u_2.2.2.2.2.2.2.2.2.2.2.2.1, .int u_2.2.2.2.2.2.2.2.2.2.2.2.2.1, .long u_2.2.2.2.2.2.2.2.2.2.2.2.2.2.1, .int u_2.2.2.2.2.2.2.2.2.2.2.2.2.2.2.1])), (h_reader_tape_bytes, .inl (cB, 1200, .inl a_reader_tape_bytes)), (h_reader_names, .inl (cJ, 96, .inr (.inl u_2.2.2.2.2.2.2.2.2.2.2.2.2.2.2.2.1))), (h_reader_namePlaces, .inl (cI, 96, .inl u_2.2.2.2.2.2.2.2.2.2.2.2.2.2.2.2.2.1)), (h_reader_nameUnits, .inl (cI, 96, .inl u_2.2.2.2.2.2.2.2.2.2.2.2.2.2.2.2.2.2.1)), (h_reader_nameSettings, .inl (cI, 96, .inl u_2.2.2.2.2.2.2.2.2.2.2.2.2.2.2.2.2.2.2.1)), (h_reader_draft_yesLeads, .inl (cI, 5, .inl u_2.2.2.2.2.2.2.2.2.2.2.2.2.2.2.2.2.2.2.2.1)), (h_reader_draft_noLeads, .inl (cI, 5, .inl u_2.2.2.2.2.2.2.2.2.2.2.2.2.2.2.2.2.2.2.2.2.1)), (h_reader_setValues, .inl (cI, 400, .inl u_2.2.2.2.2.2.2.2.2.2.2.2.2.2.2.2.2.2.2.2.2.2.1)), (h_reader_setNames, .inl (cI, 80, .inl u_2.2.2.2.2.2.2.2.2.2.2.2.2.2.2.2.2.2.2.2.2.2.2.1)), (h_reader_draft_gradeKinds, .inl (cI, 4, .inl u_2.2.2.2.2.2.2.2.2.2.2.2.2.2.2.2.2.2.2.2.2.2.2.2.1)), (h_reader_draft_gradePurities, .inl (cI, 16, .inl u_2.2.2.2.2.2.2.2.2.2.2.2.2.2.2.2.2.2.2.2.2.2.2.2.2.1)), (h_reader_draft_gradePrices, .inl (cI, 16, .inl u_2.2.2.2.2.2.2.2.2.2.2.2.2.2.2.2.2.2.2.2.2.2.2.2.2.2)), (h_told, .inr (2, [.int v_told_units, .ref h_told_settings, .ref h_told_yesLeads, .ref h_told_noLeads, .ref h_told_percents, .ref h_told_grades, .ref h_told_gradeKinds, .ref h_told_gradePurities, .ref h_told_gradePrices])), (h_chosen, .inl (cI, 5, .inl a_chosen))]) X hE hP hD hS hA (kX3_read l D cB cI cJ cZ rz n H.size h_reader h_reader_draft h_reader_draft_settings h_reader_draft_percents h_reader_draft_grades h_reader_tape h_reader_tape_bytes h_reader_names h_reader_namePlaces h_reader_nameUnits h_reader_nameSettings h_reader_draft_yesLeads h_reader_draft_noLeads h_reader_setValues h_reader_setNames h_reader_draft_gradeKinds h_reader_draft_gradePurities h_reader_draft_gradePrices v_reader_fault v_reader_faultPlace v_reader_nameCount v_reader_setCount v_reader_draft_units v_reader_tape_length v_reader_tape_next v_reader_tape_type v_reader_tape_place v_reader_tape_formerPlace v_reader_tape_word v_reader_tape_number a_reader_draft_settings a_reader_draft_percents a_reader_draft_grades a_reader_tape_bytes a_reader_names a_reader_namePlaces a_reader_nameUnits a_reader_nameSettings a_reader_draft_yesLeads a_reader_draft_noLeads a_reader_setValues a_reader_setNames a_reader_draft_gradeKinds a_reader_draft_gradePurities a_reader_draft_gradePrices hn_1) w_2_47 w_2_49 ws_1 w_1_3 w_2_50 cb_X3_read rfl rfl ⟨Nat.le_of_ble_eq_true rfl, Nat.le_of_ble_eq_true rfl⟩ rfl hl.1 rfl (Nat.le_of_ble_eq_true rfl) dX6_plan_4 ⟨Nat.le_of_ble_eq_true rfl, Nat.le_of_ble_eq_true rfl⟩ (c2 := 0) (s2 := 0) rfl rfl (k0 := 1) rfl rfl [1, 2, 3, 4, 5, 6, 7, 8, 9, 10, 11, 12, 13, 14, 15, 16, 17, 18] [0, 19, 20] [0, 3, 4, 5, 6, 7, 8, 9, 10, 11, 12, 13, 14, 15, 16, 17, 18, 19, 20, 1, 2] rfl rfl (by decide) (by decide) (by decide) (by decide) (fun _ => rfl) (fun u_2 H locs hG hP hD hS => ?_)
    replace hF := bdQ hG hF
    refine lv_aload_n hx hb dX6_plan_7 rfl (lv_at hl 0 rfl) ?_
    refine lv_aload_n hx hb dX6_plan_8 rfl (lv_at hl 0 rfl) ?_
    refine va_get (D := D) (ci := 6) (C := RX6) (T := TX6) (N := 12) hx hb ha inAX6 hown hK hP 0 rfl rfl 1 (by decide) (ha _ w_1_235) (fun _ h9 => h9) rfl dX6_plan_9 ?_
    refine va_getN (D := D) (ci := 3) (C := RX3) (T := TX3) (N := 12) hx hb ha inAX3 hown hK hP 1 rfl rfl 0 (by decide) (va_Nw.use rfl (hE.2.1 _ w_1_121)) (fun _ h9 => h9) rfl dX6_plan_12 ?_
    refine pt (C := RX6) (T := TX6) (N := 12) (ci := 6) (v := .int u_2.2.1) (W2 := [(h_t, .inr (6, [.ref h_told, .ref h_reader, .int u_2.2.1, .int v_faultPlace, .ref h_chosen, .ref h_tried, .ref h_byHand, .ref h_coming, .ref h_ends, .ref h_heaps, .ref h_yard, .int v_costOfKilogram])), (h_reader, .inr (3, [.int u_2.2.1, .int u_2.2.2.1, .ref h_reader_tape, .ref h_reader_draft, .ref h_reader_names, .ref h_reader_namePlaces, .ref h_reader_nameUnits, .ref h_reader_nameSettings, .int u_2.2.2.2.1, .ref h_reader_setNames, .ref h_reader_setValues, .int u_2.2.2.2.2.1])), (h_reader_draft, .inr (2, [.int u_2.2.2.2.2.2.1, .ref h_reader_draft_settings, .ref h_reader_draft_yesLeads, .ref h_reader_draft_noLeads, .ref h_reader_draft_percents, .ref h_reader_draft_grades, .ref h_reader_draft_gradeKinds, .ref h_reader_draft_gradePurities, .ref h_reader_draft_gradePrices])), (h_reader_draft_settings, .inl (cI, 5, .inl u_2.2.2.2.2.2.2.1)), (h_reader_draft_percents, .inl (cI, 75, .inl u_2.2.2.2.2.2.2.2.1)), (h_reader_draft_grades, .inl (cI, 4, .inl u_2.2.2.2.2.2.2.2.2.1)), (h_reader_tape, .inr (4, [.ref h_reader_tape_bytes, .int v_reader_tape_length, .int u_2.2.2.2.2.2.2.2.2.2.1, .int u_2.2.2.2.2.2.2.2.2.2.2.1, .int u_2.2.2.2.2.2.2.2.2.2.2.2.1, .int u_2.2.2.2.2.2.2.2.2.2.2.2.2.1, .long u_2.2.2.2.2.2.2.2.2.2.2.2.2.2.1, .int u_2.2.2.2.2.2.2.2.2.2.2.2.2.2.2.1])), (h_reader_tape_bytes, .inl (cB, 1200, .inl a_reader_tape_bytes)), (h_reader_names, .inl (cJ, 96, .inr (.inl u_2.2.2.2.2.2.2.2.2.2.2.2.2.2.2.2.1))), (h_reader_namePlaces, .inl (cI, 96, .inl u_2.2.2.2.2.2.2.2.2.2.2.2.2.2.2.2.2.1)), (h_reader_nameUnits, .inl (cI, 96, .inl u_2.2.2.2.2.2.2.2.2.2.2.2.2.2.2.2.2.2.1)), (h_reader_nameSettings, .inl (cI, 96, .inl u_2.2.2.2.2.2.2.2.2.2.2.2.2.2.2.2.2.2.2.1)), (h_reader_draft_yesLeads, .inl (cI, 5, .inl u_2.2.2.2.2.2.2.2.2.2.2.2.2.2.2.2.2.2.2.2.1)), (h_reader_draft_noLeads, .inl (cI, 5, .inl u_2.2.2.2.2.2.2.2.2.2.2.2.2.2.2.2.2.2.2.2.2.1)), (h_reader_setValues, .inl (cI, 400, .inl u_2.2.2.2.2.2.2.2.2.2.2.2.2.2.2.2.2.2.2.2.2.2.1)), (h_reader_setNames, .inl (cI, 80, .inl u_2.2.2.2.2.2.2.2.2.2.2.2.2.2.2.2.2.2.2.2.2.2.2.1)), (h_reader_draft_gradeKinds, .inl (cI, 4, .inl u_2.2.2.2.2.2.2.2.2.2.2.2.2.2.2.2.2.2.2.2.2.2.2.2.1)), (h_reader_draft_gradePurities, .inl (cI, 16, .inl u_2.2.2.2.2.2.2.2.2.2.2.2.2.2.2.2.2.2.2.2.2.2.2.2.2.1)), (h_reader_draft_gradePrices, .inl (cI, 16, .inl u_2.2.2.2.2.2.2.2.2.2.2.2.2.2.2.2.2.2.2.2.2.2.2.2.2.2)), (h_told, .inr (2, [.int v_told_units, .ref h_told_settings, .ref h_told_yesLeads, .ref h_told_noLeads, .ref h_told_percents, .ref h_told_grades, .ref h_told_gradeKinds, .ref h_told_gradePurities, .ref h_told_gradePrices])), (h_chosen, .inl (cI, 5, .inl a_chosen))]) hx hb ha inAX6 tyX6 tyX6_ok nmX6 hown hK hP hD hS 0 rfl rfl 2 (by decide) (ha _ w_1_236) rfl rfl rfl rfl (Nat.le_of_ble_eq_true rfl) dX6_plan_15 rfl (fun H locs hP hD hS => ?_)
    refine lv_aload_n hx hb dX6_plan_18 rfl (lv_at hl 0 rfl) ?_
    refine lv_aload_n hx hb dX6_plan_19 rfl (lv_at hl 0 rfl) ?_
    refine va_get (D := D) (ci := 6) (C := RX6) (T := TX6) (N := 12) hx hb ha inAX6 hown hK hP 0 rfl rfl 1 (by decide) (ha _ w_1_235) (fun _ h9 => h9) rfl dX6_plan_20 ?_
    refine va_getN (D := D) (ci := 3) (C := RX3) (T := TX3) (N := 12) hx hb ha inAX3 hown hK hP 1 rfl rfl 1 (by decide) (va_Nw.use rfl (hE.2.1 _ w_1_123)) (fun _ h9 => h9) rfl dX6_plan_23 ?_
    refine pt (C := RX6) (T := TX6) (N := 12) (ci := 6) (v := .int u_2.2.2.1) (W2 := [(h_t, .inr (6, [.ref h_told, .ref h_reader, .int u_2.2.1, .int u_2.2.2.1, .ref h_chosen, .ref h_tried, .ref h_byHand, .ref h_coming, .ref h_ends, .ref h_heaps, .ref h_yard, .int v_costOfKilogram])), (h_reader, .inr (3, [.int u_2.2.1, .int u_2.2.2.1, .ref h_reader_tape, .ref h_reader_draft, .ref h_reader_names, .ref h_reader_namePlaces, .ref h_reader_nameUnits, .ref h_reader_nameSettings, .int u_2.2.2.2.1, .ref h_reader_setNames, .ref h_reader_setValues, .int u_2.2.2.2.2.1])), (h_reader_draft, .inr (2, [.int u_2.2.2.2.2.2.1, .ref h_reader_draft_settings, .ref h_reader_draft_yesLeads, .ref h_reader_draft_noLeads, .ref h_reader_draft_percents, .ref h_reader_draft_grades, .ref h_reader_draft_gradeKinds, .ref h_reader_draft_gradePurities, .ref h_reader_draft_gradePrices])), (h_reader_draft_settings, .inl (cI, 5, .inl u_2.2.2.2.2.2.2.1)), (h_reader_draft_percents, .inl (cI, 75, .inl u_2.2.2.2.2.2.2.2.1)), (h_reader_draft_grades, .inl (cI, 4, .inl u_2.2.2.2.2.2.2.2.2.1)), (h_reader_tape, .inr (4, [.ref h_reader_tape_bytes, .int v_reader_tape_length, .int u_2.2.2.2.2.2.2.2.2.2.1, .int u_2.2.2.2.2.2.2.2.2.2.2.1, .int u_2.2.2.2.2.2.2.2.2.2.2.2.1, .int u_2.2.2.2.2.2.2.2.2.2.2.2.2.1, .long u_2.2.2.2.2.2.2.2.2.2.2.2.2.2.1, .int u_2.2.2.2.2.2.2.2.2.2.2.2.2.2.2.1])), (h_reader_tape_bytes, .inl (cB, 1200, .inl a_reader_tape_bytes)), (h_reader_names, .inl (cJ, 96, .inr (.inl u_2.2.2.2.2.2.2.2.2.2.2.2.2.2.2.2.1))), (h_reader_namePlaces, .inl (cI, 96, .inl u_2.2.2.2.2.2.2.2.2.2.2.2.2.2.2.2.2.1)), (h_reader_nameUnits, .inl (cI, 96, .inl u_2.2.2.2.2.2.2.2.2.2.2.2.2.2.2.2.2.2.1)), (h_reader_nameSettings, .inl (cI, 96, .inl u_2.2.2.2.2.2.2.2.2.2.2.2.2.2.2.2.2.2.2.1)), (h_reader_draft_yesLeads, .inl (cI, 5, .inl u_2.2.2.2.2.2.2.2.2.2.2.2.2.2.2.2.2.2.2.2.1)), (h_reader_draft_noLeads, .inl (cI, 5, .inl u_2.2.2.2.2.2.2.2.2.2.2.2.2.2.2.2.2.2.2.2.2.1)), (h_reader_setValues, .inl (cI, 400, .inl u_2.2.2.2.2.2.2.2.2.2.2.2.2.2.2.2.2.2.2.2.2.2.1)), (h_reader_setNames, .inl (cI, 80, .inl u_2.2.2.2.2.2.2.2.2.2.2.2.2.2.2.2.2.2.2.2.2.2.2.1)), (h_reader_draft_gradeKinds, .inl (cI, 4, .inl u_2.2.2.2.2.2.2.2.2.2.2.2.2.2.2.2.2.2.2.2.2.2.2.2.1)), (h_reader_draft_gradePurities, .inl (cI, 16, .inl u_2.2.2.2.2.2.2.2.2.2.2.2.2.2.2.2.2.2.2.2.2.2.2.2.2.1)), (h_reader_draft_gradePrices, .inl (cI, 16, .inl u_2.2.2.2.2.2.2.2.2.2.2.2.2.2.2.2.2.2.2.2.2.2.2.2.2.2)), (h_told, .inr (2, [.int v_told_units, .ref h_told_settings, .ref h_told_yesLeads, .ref h_told_noLeads, .ref h_told_percents, .ref h_told_grades, .ref h_told_gradeKinds, .ref h_told_gradePurities, .ref h_told_gradePrices])), (h_chosen, .inl (cI, 5, .inl a_chosen))]) hx hb ha inAX6 tyX6 tyX6_ok nmX6 hown hK hP hD hS 0 rfl rfl 3 (by decide) (ha _ w_1_237) rfl rfl rfl rfl (Nat.le_of_ble_eq_true rfl) dX6_plan_26 rfl (fun H locs hP hD hS => ?_)
    refine lv_aload_n hx hb dX6_plan_29 rfl (lv_at hl 0 rfl) ?_
    refine va_get (D := D) (ci := 6) (C := RX6) (T := TX6) (N := 12) hx hb ha inAX6 hown hK hP 0 rfl rfl 2 (by decide) (ha _ w_1_236) (fun _ h9 => h9) rfl dX6_plan_30 ?_
    refine lv_if_eq (tgt := 38) hx hb dX6_plan_33 (by decide) (fun c_3 => ?_) (fun c_3 => ?_)
    · replace hF := ifT c_3 hF
      refine lv_aload_n hx hb dX6_plan_38 rfl (lv_at hl 0 rfl) ?_
      refine va_get (D := D) (ci := 6) (C := RX6) (T := TX6) (N := 12) hx hb ha inAX6 hown hK hP 0 rfl rfl 0 (by decide) (ha _ w_1_234) (fun _ h9 => h9) rfl dX6_plan_39 ?_
      refine lv_astore_n (lv' := [(1, .ref h_told), (0, .ref h_t)]) hx hb dX6_plan_42 rfl hl (by decide) rfl (fun ls hl => ?_)
      refine lv_aload_n hx hb dX6_plan_43 rfl (lv_at hl 1 rfl) ?_
      refine lv_aload_n hx hb dX6_plan_44 rfl (lv_at hl 1 rfl) ?_
      refine va_get (D := D) (ci := 6) (C := RX6) (T := TX6) (N := 12) hx hb ha inAX6 hown hK hP 0 rfl rfl 1 (by decide) (ha _ w_1_235) (fun _ h9 => h9) rfl dX6_plan_45 ?_
      refine va_getN (D := D) (ci := 3) (C := RX3) (T := TX3) (N := 12) hx hb ha inAX3 hown hK hP 1 rfl rfl 3 (by decide) (va_Nw.use rfl (hE.2.1 _ w_1_127)) (fun _ h9 => h9) rfl dX6_plan_48 ?_
      refine pt (C := RX6) (T := TX6) (N := 12) (ci := 6) (v := .ref h_reader_draft) (W2 := [(h_t, .inr (6, [.ref h_reader_draft, .ref h_reader, .int u_2.2.1, .int u_2.2.2.1, .ref h_chosen, .ref h_tried, .ref h_byHand, .ref h_coming, .ref h_ends, .ref h_heaps, .ref h_yard, .int v_costOfKilogram])), (h_reader, .inr (3, [.int u_2.2.1, .int u_2.2.2.1, .ref h_reader_tape, .ref h_reader_draft, .ref h_reader_names, .ref h_reader_namePlaces, .ref h_reader_nameUnits, .ref h_reader_nameSettings, .int u_2.2.2.2.1, .ref h_reader_setNames, .ref h_reader_setValues, .int u_2.2.2.2.2.1])), (h_reader_draft, .inr (2, [.int u_2.2.2.2.2.2.1, .ref h_reader_draft_settings, .ref h_reader_draft_yesLeads, .ref h_reader_draft_noLeads, .ref h_reader_draft_percents, .ref h_reader_draft_grades, .ref h_reader_draft_gradeKinds, .ref h_reader_draft_gradePurities, .ref h_reader_draft_gradePrices])), (h_reader_draft_settings, .inl (cI, 5, .inl u_2.2.2.2.2.2.2.1)), (h_reader_draft_percents, .inl (cI, 75, .inl u_2.2.2.2.2.2.2.2.1)), (h_reader_draft_grades, .inl (cI, 4, .inl u_2.2.2.2.2.2.2.2.2.1)), (h_reader_tape, .inr (4, [.ref h_reader_tape_bytes, .int v_reader_tape_length, .int u_2.2.2.2.2.2.2.2.2.2.1, .int u_2.2.2.2.2.2.2.2.2.2.2.1, .int u_2.2.2.2.2.2.2.2.2.2.2.2.1, .int u_2.2.2.2.2.2.2.2.2.2.2.2.2.1, .long u_2.2.2.2.2.2.2.2.2.2.2.2.2.2.1, .int u_2.2.2.2.2.2.2.2.2.2.2.2.2.2.2.1])), (h_reader_tape_bytes, .inl (cB, 1200, .inl a_reader_tape_bytes)), (h_reader_names, .inl (cJ, 96, .inr (.inl u_2.2.2.2.2.2.2.2.2.2.2.2.2.2.2.2.1))), (h_reader_namePlaces, .inl (cI, 96, .inl u_2.2.2.2.2.2.2.2.2.2.2.2.2.2.2.2.2.1)), (h_reader_nameUnits, .inl (cI, 96, .inl u_2.2.2.2.2.2.2.2.2.2.2.2.2.2.2.2.2.2.1)), (h_reader_nameSettings, .inl (cI, 96, .inl u_2.2.2.2.2.2.2.2.2.2.2.2.2.2.2.2.2.2.2.1)), (h_reader_draft_yesLeads, .inl (cI, 5, .inl u_2.2.2.2.2.2.2.2.2.2.2.2.2.2.2.2.2.2.2.2.1)), (h_reader_draft_noLeads, .inl (cI, 5, .inl u_2.2.2.2.2.2.2.2.2.2.2.2.2.2.2.2.2.2.2.2.2.1)), (h_reader_setValues, .inl (cI, 400, .inl u_2.2.2.2.2.2.2.2.2.2.2.2.2.2.2.2.2.2.2.2.2.2.1)), (h_reader_setNames, .inl (cI, 80, .inl u_2.2.2.2.2.2.2.2.2.2.2.2.2.2.2.2.2.2.2.2.2.2.2.1)), (h_reader_draft_gradeKinds, .inl (cI, 4, .inl u_2.2.2.2.2.2.2.2.2.2.2.2.2.2.2.2.2.2.2.2.2.2.2.2.1)), (h_reader_draft_gradePurities, .inl (cI, 16, .inl u_2.2.2.2.2.2.2.2.2.2.2.2.2.2.2.2.2.2.2.2.2.2.2.2.2.1)), (h_reader_draft_gradePrices, .inl (cI, 16, .inl u_2.2.2.2.2.2.2.2.2.2.2.2.2.2.2.2.2.2.2.2.2.2.2.2.2.2)), (h_told, .inr (2, [.int v_told_units, .ref h_told_settings, .ref h_told_yesLeads, .ref h_told_noLeads, .ref h_told_percents, .ref h_told_grades, .ref h_told_gradeKinds, .ref h_told_gradePurities, .ref h_told_gradePrices])), (h_chosen, .inl (cI, 5, .inl a_chosen))]) hx hb ha inAX6 tyX6 tyX6_ok nmX6 hown hK hP hD hS 0 rfl rfl 0 (by decide) (ha _ w_1_234) rfl rfl rfl rfl (Nat.le_of_ble_eq_true rfl) dX6_plan_51 rfl (fun H locs hP hD hS => ?_)
      refine lv_aload_n hx hb dX6_plan_54 rfl (lv_at hl 1 rfl) ?_
      refine va_get (D := D) (ci := 6) (C := RX6) (T := TX6) (N := 12) hx hb ha inAX6 hown hK hP 0 rfl rfl 1 (by decide) (ha _ w_1_235) (fun _ h9 => h9) rfl dX6_plan_55 ?_
      refine lv_aload_n hx hb dX6_plan_58 rfl (lv_at hl 0 rfl) ?_
      refine ptN (C := RX3) (T := TX3) (N := 12) (ci := 3) (v := .ref h_told) (W2 := [(h_t, .inr (6, [.ref h_reader_draft, .ref h_reader, .int u_2.2.1, .int u_2.2.2.1, .ref h_chosen, .ref h_tried, .ref h_byHand, .ref h_coming, .ref h_ends, .ref h_heaps, .ref h_yard, .int v_costOfKilogram])), (h_reader, .inr (3, [.int u_2.2.1, .int u_2.2.2.1, .ref h_reader_tape, .ref h_told, .ref h_reader_names, .ref h_reader_namePlaces, .ref h_reader_nameUnits, .ref h_reader_nameSettings, .int u_2.2.2.2.1, .ref h_reader_setNames, .ref h_reader_setValues, .int u_2.2.2.2.2.1])), (h_reader_draft, .inr (2, [.int u_2.2.2.2.2.2.1, .ref h_reader_draft_settings, .ref h_reader_draft_yesLeads, .ref h_reader_draft_noLeads, .ref h_reader_draft_percents, .ref h_reader_draft_grades, .ref h_reader_draft_gradeKinds, .ref h_reader_draft_gradePurities, .ref h_reader_draft_gradePrices])), (h_reader_draft_settings, .inl (cI, 5, .inl u_2.2.2.2.2.2.2.1)), (h_reader_draft_percents, .inl (cI, 75, .inl u_2.2.2.2.2.2.2.2.1)), (h_reader_draft_grades, .inl (cI, 4, .inl u_2.2.2.2.2.2.2.2.2.1)), (h_reader_tape, .inr (4, [.ref h_reader_tape_bytes, .int v_reader_tape_length, .int u_2.2.2.2.2.2.2.2.2.2.1, .int u_2.2.2.2.2.2.2.2.2.2.2.1, .int u_2.2.2.2.2.2.2.2.2.2.2.2.1, .int u_2.2.2.2.2.2.2.2.2.2.2.2.2.1, .long u_2.2.2.2.2.2.2.2.2.2.2.2.2.2.1, .int u_2.2.2.2.2.2.2.2.2.2.2.2.2.2.2.1])), (h_reader_tape_bytes, .inl (cB, 1200, .inl a_reader_tape_bytes)), (h_reader_names, .inl (cJ, 96, .inr (.inl u_2.2.2.2.2.2.2.2.2.2.2.2.2.2.2.2.1))), (h_reader_namePlaces, .inl (cI, 96, .inl u_2.2.2.2.2.2.2.2.2.2.2.2.2.2.2.2.2.1)), (h_reader_nameUnits, .inl (cI, 96, .inl u_2.2.2.2.2.2.2.2.2.2.2.2.2.2.2.2.2.2.1)), (h_reader_nameSettings, .inl (cI, 96, .inl u_2.2.2.2.2.2.2.2.2.2.2.2.2.2.2.2.2.2.2.1)), (h_reader_draft_yesLeads, .inl (cI, 5, .inl u_2.2.2.2.2.2.2.2.2.2.2.2.2.2.2.2.2.2.2.2.1)), (h_reader_draft_noLeads, .inl (cI, 5, .inl u_2.2.2.2.2.2.2.2.2.2.2.2.2.2.2.2.2.2.2.2.2.1)), (h_reader_setValues, .inl (cI, 400, .inl u_2.2.2.2.2.2.2.2.2.2.2.2.2.2.2.2.2.2.2.2.2.2.1)), (h_reader_setNames, .inl (cI, 80, .inl u_2.2.2.2.2.2.2.2.2.2.2.2.2.2.2.2.2.2.2.2.2.2.2.1)), (h_reader_draft_gradeKinds, .inl (cI, 4, .inl u_2.2.2.2.2.2.2.2.2.2.2.2.2.2.2.2.2.2.2.2.2.2.2.2.1)), (h_reader_draft_gradePurities, .inl (cI, 16, .inl u_2.2.2.2.2.2.2.2.2.2.2.2.2.2.2.2.2.2.2.2.2.2.2.2.2.1)), (h_reader_draft_gradePrices, .inl (cI, 16, .inl u_2.2.2.2.2.2.2.2.2.2.2.2.2.2.2.2.2.2.2.2.2.2.2.2.2.2)), (h_told, .inr (2, [.int v_told_units, .ref h_told_settings, .ref h_told_yesLeads, .ref h_told_noLeads, .ref h_told_percents, .ref h_told_grades, .ref h_told_gradeKinds, .ref h_told_gradePurities, .ref h_told_gradePrices])), (h_chosen, .inl (cI, 5, .inl a_chosen))]) hx hb ha inAX3 tyX3 tyX3_ok nmX3 hown hK hP hD hS 1 rfl rfl 3 (by decide) (va_Nw.use rfl (hE.2.1 _ w_1_127)) rfl rfl rfl rfl (Nat.le_of_ble_eq_true rfl) dX6_plan_59 rfl (fun H locs hP hD hS => ?_)
      refine lv_aload_n hx hb dX6_plan_62 rfl (lv_at hl 1 rfl) ?_
      refine va_get (D := D) (ci := 6) (C := RX6) (T := TX6) (N := 12) hx hb ha inAX6 hown hK hP 0 rfl rfl 1 (by decide) (ha _ w_1_235) (fun _ h9 => h9) rfl dX6_plan_63 ?_
      refine va_getN (D := D) (ci := 3) (C := RX3) (T := TX3) (N := 12) hx hb ha inAX3 hown hK hP 1 rfl rfl 2 (by decide) (va_Nw.use rfl (hE.2.1 _ w_1_125)) (fun _ h9 => h9) rfl dX6_plan_66 ?_
      refine lv_iconst (v := 0) hx hb dX6_plan_69 (by decide) ?_
      refine ptN (C := RX4) (T := TX4) (N := 8) (ci := 4) (v := .int (0 : Int32)) (W2 := [(h_t, .inr (6, [.ref h_reader_draft, .ref h_reader, .int u_2.2.1, .int u_2.2.2.1, .ref h_chosen, .ref h_tried, .ref h_byHand, .ref h_coming, .ref h_ends, .ref h_heaps, .ref h_yard, .int v_costOfKilogram])), (h_reader, .inr (3, [.int u_2.2.1, .int u_2.2.2.1, .ref h_reader_tape, .ref h_told, .ref h_reader_names, .ref h_reader_namePlaces, .ref h_reader_nameUnits, .ref h_reader_nameSettings, .int u_2.2.2.2.1, .ref h_reader_setNames, .ref h_reader_setValues, .int u_2.2.2.2.2.1])), (h_reader_draft, .inr (2, [.int u_2.2.2.2.2.2.1, .ref h_reader_draft_settings, .ref h_reader_draft_yesLeads, .ref h_reader_draft_noLeads, .ref h_reader_draft_percents, .ref h_reader_draft_grades, .ref h_reader_draft_gradeKinds, .ref h_reader_draft_gradePurities, .ref h_reader_draft_gradePrices])), (h_reader_draft_settings, .inl (cI, 5, .inl u_2.2.2.2.2.2.2.1)), (h_reader_draft_percents, .inl (cI, 75, .inl u_2.2.2.2.2.2.2.2.1)), (h_reader_draft_grades, .inl (cI, 4, .inl u_2.2.2.2.2.2.2.2.2.1)), (h_reader_tape, .inr (4, [.ref h_reader_tape_bytes, .int (0 : Int32), .int u_2.2.2.2.2.2.2.2.2.2.1, .int u_2.2.2.2.2.2.2.2.2.2.2.1, .int u_2.2.2.2.2.2.2.2.2.2.2.2.1, .int u_2.2.2.2.2.2.2.2.2.2.2.2.2.1, .long u_2.2.2.2.2.2.2.2.2.2.2.2.2.2.1, .int u_2.2.2.2.2.2.2.2.2.2.2.2.2.2.2.1])), (h_reader_tape_bytes, .inl (cB, 1200, .inl a_reader_tape_bytes)), (h_reader_names, .inl (cJ, 96, .inr (.inl u_2.2.2.2.2.2.2.2.2.2.2.2.2.2.2.2.1))), (h_reader_namePlaces, .inl (cI, 96, .inl u_2.2.2.2.2.2.2.2.2.2.2.2.2.2.2.2.2.1)), (h_reader_nameUnits, .inl (cI, 96, .inl u_2.2.2.2.2.2.2.2.2.2.2.2.2.2.2.2.2.2.1)), (h_reader_nameSettings, .inl (cI, 96, .inl u_2.2.2.2.2.2.2.2.2.2.2.2.2.2.2.2.2.2.2.1)), (h_reader_draft_yesLeads, .inl (cI, 5, .inl u_2.2.2.2.2.2.2.2.2.2.2.2.2.2.2.2.2.2.2.2.1)), (h_reader_draft_noLeads, .inl (cI, 5, .inl u_2.2.2.2.2.2.2.2.2.2.2.2.2.2.2.2.2.2.2.2.2.1)), (h_reader_setValues, .inl (cI, 400, .inl u_2.2.2.2.2.2.2.2.2.2.2.2.2.2.2.2.2.2.2.2.2.2.1)), (h_reader_setNames, .inl (cI, 80, .inl u_2.2.2.2.2.2.2.2.2.2.2.2.2.2.2.2.2.2.2.2.2.2.2.1)), (h_reader_draft_gradeKinds, .inl (cI, 4, .inl u_2.2.2.2.2.2.2.2.2.2.2.2.2.2.2.2.2.2.2.2.2.2.2.2.1)), (h_reader_draft_gradePurities, .inl (cI, 16, .inl u_2.2.2.2.2.2.2.2.2.2.2.2.2.2.2.2.2.2.2.2.2.2.2.2.2.1)), (h_reader_draft_gradePrices, .inl (cI, 16, .inl u_2.2.2.2.2.2.2.2.2.2.2.2.2.2.2.2.2.2.2.2.2.2.2.2.2.2)), (h_told, .inr (2, [.int v_told_units, .ref h_told_settings, .ref h_told_yesLeads, .ref h_told_noLeads, .ref h_told_percents, .ref h_told_grades, .ref h_told_gradeKinds, .ref h_told_gradePurities, .ref h_told_gradePrices])), (h_chosen, .inl (cI, 5, .inl a_chosen))]) hx hb ha inAX4 tyX4 tyX4_ok nmX4 hown hK hP hD hS 6 rfl rfl 1 (by decide) (va_Nw.use rfl (hE.2.1 _ w_1_88)) rfl rfl rfl rfl (Nat.le_of_ble_eq_true rfl) dX6_plan_70 rfl (fun H locs hP hD hS => ?_)
      refine lv_aload_n hx hb dX6_plan_73 rfl (lv_at hl 1 rfl) ?_
      refine va_get (D := D) (ci := 6) (C := RX6) (T := TX6) (N := 12) hx hb ha inAX6 hown hK hP 0 rfl rfl 4 (by decide) (ha _ w_1_238) (fun _ h9 => h9) rfl dX6_plan_74 ?_
      refine lv_iconst (v := 0) hx hb dX6_plan_77 (by decide) ?_
      have hn_4 := bdN hN hF
      refine callSV (As := [.ref h_chosen, .int (0 : Int32)]) (rest := []) (wr := [(h_t, .inr (6, [.ref h_reader_draft, .ref h_reader, .int u_2.2.1, .int u_2.2.2.1, .ref h_chosen, .ref h_tried, .ref h_byHand, .ref h_coming, .ref h_ends, .ref h_heaps, .ref h_yard, .int v_costOfKilogram])), (h_reader, .inr (3, [.int u_2.2.1, .int u_2.2.2.1, .ref h_reader_tape, .ref h_told, .ref h_reader_names, .ref h_reader_namePlaces, .ref h_reader_nameUnits, .ref h_reader_nameSettings, .int u_2.2.2.2.1, .ref h_reader_setNames, .ref h_reader_setValues, .int u_2.2.2.2.2.1])), (h_reader_draft, .inr (2, [.int u_2.2.2.2.2.2.1, .ref h_reader_draft_settings, .ref h_reader_draft_yesLeads, .ref h_reader_draft_noLeads, .ref h_reader_draft_percents, .ref h_reader_draft_grades, .ref h_reader_draft_gradeKinds, .ref h_reader_draft_gradePurities, .ref h_reader_draft_gradePrices])), (h_reader_draft_settings, .inl (cI, 5, .inl u_2.2.2.2.2.2.2.1)), (h_reader_draft_percents, .inl (cI, 75, .inl u_2.2.2.2.2.2.2.2.1)), (h_reader_draft_grades, .inl (cI, 4, .inl u_2.2.2.2.2.2.2.2.2.1)), (h_reader_tape, .inr (4, [.ref h_reader_tape_bytes, .int (0 : Int32), .int u_2.2.2.2.2.2.2.2.2.2.1, .int u_2.2.2.2.2.2.2.2.2.2.2.1, .int u_2.2.2.2.2.2.2.2.2.2.2.2.1, .int u_2.2.2.2.2.2.2.2.2.2.2.2.2.1, .long u_2.2.2.2.2.2.2.2.2.2.2.2.2.2.1, .int u_2.2.2.2.2.2.2.2.2.2.2.2.2.2.2.1])), (h_reader_tape_bytes, .inl (cB, 1200, .inl a_reader_tape_bytes)), (h_reader_names, .inl (cJ, 96, .inr (.inl u_2.2.2.2.2.2.2.2.2.2.2.2.2.2.2.2.1))), (h_reader_namePlaces, .inl (cI, 96, .inl u_2.2.2.2.2.2.2.2.2.2.2.2.2.2.2.2.2.1)), (h_reader_nameUnits, .inl (cI, 96, .inl u_2.2.2.2.2.2.2.2.2.2.2.2.2.2.2.2.2.2.1)), (h_reader_nameSettings, .inl (cI, 96, .inl u_2.2.2.2.2.2.2.2.2.2.2.2.2.2.2.2.2.2.2.1)), (h_reader_draft_yesLeads, .inl (cI, 5, .inl u_2.2.2.2.2.2.2.2.2.2.2.2.2.2.2.2.2.2.2.2.1)), (h_reader_draft_noLeads, .inl (cI, 5, .inl u_2.2.2.2.2.2.2.2.2.2.2.2.2.2.2.2.2.2.2.2.2.1)), (h_reader_setValues, .inl (cI, 400, .inl u_2.2.2.2.2.2.2.2.2.2.2.2.2.2.2.2.2.2.2.2.2.2.1)), (h_reader_setNames, .inl (cI, 80, .inl u_2.2.2.2.2.2.2.2.2.2.2.2.2.2.2.2.2.2.2.2.2.2.2.1)), (h_reader_draft_gradeKinds, .inl (cI, 4, .inl u_2.2.2.2.2.2.2.2.2.2.2.2.2.2.2.2.2.2.2.2.2.2.2.2.1)), (h_reader_draft_gradePurities, .inl (cI, 16, .inl u_2.2.2.2.2.2.2.2.2.2.2.2.2.2.2.2.2.2.2.2.2.2.2.2.2.1)), (h_reader_draft_gradePrices, .inl (cI, 16, .inl u_2.2.2.2.2.2.2.2.2.2.2.2.2.2.2.2.2.2.2.2.2.2.2.2.2.2)), (h_told, .inr (2, [.int v_told_units, .ref h_told_settings, .ref h_told_yesLeads, .ref h_told_noLeads, .ref h_told_percents, .ref h_told_grades, .ref h_told_gradeKinds, .ref h_told_gradePurities, .ref h_told_gradePrices]))]) (W2 := fun u_5 => [(h_t, .inr (6, [.ref h_reader_draft, .ref h_reader, .int u_2.2.1, .int u_2.2.2.1, .ref h_chosen, .ref h_tried, .ref h_byHand, .ref h_coming, .ref h_ends, .ref h_heaps, .ref h_yard, .int v_costOfKilogram])), (h_reader, .inr (3, [.int u_2.2.1, .int u_2.2.2.1, .ref h_reader_tape, .ref h_told, .ref h_reader_names, .ref h_reader_namePlaces, .ref h_reader_nameUnits, .ref h_reader_nameSettings, .int u_2.2.2.2.1, .ref h_reader_setNames, .ref h_reader_setValues, .int u_2.2.2.2.2.1])), (h_reader_draft, .inr (2, [.int u_2.2.2.2.2.2.1, .ref h_reader_draft_settings, .ref h_reader_draft_yesLeads, .ref h_reader_draft_noLeads, .ref h_reader_draft_percents, .ref h_reader_draft_grades, .ref h_reader_draft_gradeKinds, .ref h_reader_draft_gradePurities, .ref h_reader_draft_gradePrices])), (h_reader_draft_settings, .inl (cI, 5, .inl u_2.2.2.2.2.2.2.1)), (h_reader_draft_percents, .inl (cI, 75, .inl u_2.2.2.2.2.2.2.2.1)), (h_reader_draft_grades, .inl (cI, 4, .inl u_2.2.2.2.2.2.2.2.2.1)), (h_reader_tape, .inr (4, [.ref h_reader_tape_bytes, .int (0 : Int32), .int u_2.2.2.2.2.2.2.2.2.2.1, .int u_2.2.2.2.2.2.2.2.2.2.2.1, .int u_2.2.2.2.2.2.2.2.2.2.2.2.1, .int u_2.2.2.2.2.2.2.2.2.2.2.2.2.1, .long u_2.2.2.2.2.2.2.2.2.2.2.2.2.2.1, .int u_2.2.2.2.2.2.2.2.2.2.2.2.2.2.2.1])), (h_reader_tape_bytes, .inl (cB, 1200, .inl a_reader_tape_bytes)), (h_reader_names, .inl (cJ, 96, .inr (.inl u_2.2.2.2.2.2.2.2.2.2.2.2.2.2.2.2.1))), (h_reader_namePlaces, .inl (cI, 96, .inl u_2.2.2.2.2.2.2.2.2.2.2.2.2.2.2.2.2.1)), (h_reader_nameUnits, .inl (cI, 96, .inl u_2.2.2.2.2.2.2.2.2.2.2.2.2.2.2.2.2.2.1)), (h_reader_nameSettings, .inl (cI, 96, .inl u_2.2.2.2.2.2.2.2.2.2.2.2.2.2.2.2.2.2.2.1)), (h_reader_draft_yesLeads, .inl (cI, 5, .inl u_2.2.2.2.2.2.2.2.2.2.2.2.2.2.2.2.2.2.2.2.1)), (h_reader_draft_noLeads, .inl (cI, 5, .inl u_2.2.2.2.2.2.2.2.2.2.2.2.2.2.2.2.2.2.2.2.2.1)), (h_reader_setValues, .inl (cI, 400, .inl u_2.2.2.2.2.2.2.2.2.2.2.2.2.2.2.2.2.2.2.2.2.2.1)), (h_reader_setNames, .inl (cI, 80, .inl u_2.2.2.2.2.2.2.2.2.2.2.2.2.2.2.2.2.2.2.2.2.2.2.1)), (h_reader_draft_gradeKinds, .inl (cI, 4, .inl u_2.2.2.2.2.2.2.2.2.2.2.2.2.2.2.2.2.2.2.2.2.2.2.2.1)), (h_reader_draft_gradePurities, .inl (cI, 16, .inl u_2.2.2.2.2.2.2.2.2.2.2.2.2.2.2.2.2.2.2.2.2.2.2.2.2.1)), (h_reader_draft_gradePrices, .inl (cI, 16, .inl u_2.2.2.2.2.2.2.2.2.2.2.2.2.2.2.2.2.2.2.2.2.2.2.2.2.2)), (h_told, .inr (2, [.int v_told_units, .ref h_told_settings, .ref h_told_yesLeads, .ref h_told_noLeads, .ref h_told_percents, .ref h_told_grades, .ref h_told_gradeKinds, .ref h_told_gradePurities, .ref h_told_gradePrices])), (h_chosen, .inl (cI, 5, .inl u_5.2))]) X hE hP hD hS hA (kJ7_fill_53178 l D cB cI cJ cZ rz n H.size 5 h_chosen a_chosen (0 : Int32) hn_4) w_1_231 w_1_232 w_1_8 w_1_233 cb_J7_fill_53178 rfl rfl ⟨Nat.le_of_ble_eq_true rfl, Nat.le_of_ble_eq_true rfl⟩ rfl hl.1 rfl (Nat.le_of_ble_eq_true rfl) dX6_plan_78 ⟨Nat.le_of_ble_eq_true rfl, Nat.le_of_ble_eq_true rfl⟩ (c2 := 0) (s2 := 0) rfl rfl [20] [0, 1, 2, 3, 4, 5, 6, 7, 8, 9, 10, 11, 12, 13, 14, 15, 16, 17, 18, 19] [0, 1, 2, 3, 4, 5, 6, 7, 8, 9, 10, 11, 12, 13, 14, 15, 16, 17, 18, 19, 20] rfl rfl (by decide) (by decide) (by decide) (by decide) (fun _ => rfl) (fun u_5 H locs hG hP hD hS => ?_)
      replace hF := bdQ hG hF
      refine lv_aload_n hx hb dX6_plan_81 rfl (lv_at hl 1 rfl) ?_
      refine va_get (D := D) (ci := 6) (C := RX6) (T := TX6) (N := 12) hx hb ha inAX6 hown hK hP 0 rfl rfl 0 (by decide) (ha _ w_1_234) (fun _ h9 => h9) rfl dX6_plan_82 ?_
      refine va_getN (D := D) (ci := 2) (C := RX2) (T := TX2) (N := 9) hx hb ha inAX2 hown hK hP 2 rfl rfl 0 (by decide) (va_Nw.use rfl (hE.2.1 _ w_1_30)) (fun _ h9 => h9) rfl dX6_plan_85 ?_
      exact hret (u_2.2.2.2.2.2.1, true, u_2.2.1, u_2.2.2.1, u_2.2.1, u_2.2.2.1, true, u_2.2.2.2.1, u_2.2.2.2.2.1, u_2.2.2.2.2.2.1, u_2.2.2.2.2.2.2.1, u_2.2.2.2.2.2.2.2.1, u_2.2.2.2.2.2.2.2.2.1, (0 : Int32), u_2.2.2.2.2.2.2.2.2.2.1, u_2.2.2.2.2.2.2.2.2.2.2.1, u_2.2.2.2.2.2.2.2.2.2.2.2.1, u_2.2.2.2.2.2.2.2.2.2.2.2.2.1, u_2.2.2.2.2.2.2.2.2.2.2.2.2.2.1, u_2.2.2.2.2.2.2.2.2.2.2.2.2.2.2.1, u_2.2.2.2.2.2.2.2.2.2.2.2.2.2.2.2.1, u_2.2.2.2.2.2.2.2.2.2.2.2.2.2.2.2.2.1, u_2.2.2.2.2.2.2.2.2.2.2.2.2.2.2.2.2.2.1, u_2.2.2.2.2.2.2.2.2.2.2.2.2.2.2.2.2.2.2.1, u_2.2.2.2.2.2.2.2.2.2.2.2.2.2.2.2.2.2.2.2.1, u_2.2.2.2.2.2.2.2.2.2.2.2.2.2.2.2.2.2.2.2.2.1, u_2.2.2.2.2.2.2.2.2.2.2.2.2.2.2.2.2.2.2.2.2.2.1, u_2.2.2.2.2.2.2.2.2.2.2.2.2.2.2.2.2.2.2.2.2.2.2.1, u_2.2.2.2.2.2.2.2.2.2.2.2.2.2.2.2.2.2.2.2.2.2.2.2.1, u_2.2.2.2.2.2.2.2.2.2.2.2.2.2.2.2.2.2.2.2.2.2.2.2.2.1, u_2.2.2.2.2.2.2.2.2.2.2.2.2.2.2.2.2.2.2.2.2.2.2.2.2.2, u_5.2) H locs ls _ hF hP hD hS dX6_plan_88
    · replace hF := ifF c_3 hF
      refine lv_iconst (v := -1) hx hb dX6_plan_36 (by decide) ?_
      exact hret ((-1 : Int32), false, u_2.2.1, u_2.2.2.1, u_2.2.1, u_2.2.2.1, false, u_2.2.2.2.1, u_2.2.2.2.2.1, u_2.2.2.2.2.2.1, u_2.2.2.2.2.2.2.1, u_2.2.2.2.2.2.2.2.1, u_2.2.2.2.2.2.2.2.2.1, v_reader_tape_length, u_2.2.2.2.2.2.2.2.2.2.1, u_2.2.2.2.2.2.2.2.2.2.2.1, u_2.2.2.2.2.2.2.2.2.2.2.2.1, u_2.2.2.2.2.2.2.2.2.2.2.2.2.1, u_2.2.2.2.2.2.2.2.2.2.2.2.2.2.1, u_2.2.2.2.2.2.2.2.2.2.2.2.2.2.2.1, u_2.2.2.2.2.2.2.2.2.2.2.2.2.2.2.2.1, u_2.2.2.2.2.2.2.2.2.2.2.2.2.2.2.2.2.1, u_2.2.2.2.2.2.2.2.2.2.2.2.2.2.2.2.2.2.1, u_2.2.2.2.2.2.2.2.2.2.2.2.2.2.2.2.2.2.2.1, u_2.2.2.2.2.2.2.2.2.2.2.2.2.2.2.2.2.2.2.2.1, u_2.2.2.2.2.2.2.2.2.2.2.2.2.2.2.2.2.2.2.2.2.1, u_2.2.2.2.2.2.2.2.2.2.2.2.2.2.2.2.2.2.2.2.2.2.1, u_2.2.2.2.2.2.2.2.2.2.2.2.2.2.2.2.2.2.2.2.2.2.2.1, u_2.2.2.2.2.2.2.2.2.2.2.2.2.2.2.2.2.2.2.2.2.2.2.2.1, u_2.2.2.2.2.2.2.2.2.2.2.2.2.2.2.2.2.2.2.2.2.2.2.2.2.1, u_2.2.2.2.2.2.2.2.2.2.2.2.2.2.2.2.2.2.2.2.2.2.2.2.2.2, a_chosen) H locs ls _ hF hP hD hS dX6_plan_37
  rw [hH, hlo] at goal
  exact goal
theorem dX6_fault_0 : decode cX6_fault 0 = .ok (.iload_n 1, 1) := by decide +kernel
theorem dX6_fault_1 : decode cX6_fault 1 = .ok (.ifCond .ne 8, 3) := by decide +kernel
theorem dX6_fault_4 : decode cX6_fault 4 = .ok (.aload_n 0, 1) := by decide +kernel
theorem dX6_fault_5 : decode cX6_fault 5 = .ok (.getfield 89, 3) := by decide +kernel
theorem dX6_fault_8 : decode cX6_fault 8 = .ok (.ireturn, 1) := by decide +kernel
theorem dX6_fault_9 : decode cX6_fault 9 = .ok (.iload_n 1, 1) := by decide +kernel
theorem dX6_fault_10 : decode cX6_fault 10 = .ok (.iconst 1, 1) := by decide +kernel
theorem dX6_fault_11 : decode cX6_fault 11 = .ok (.if_icmp .ne 10, 3) := by decide +kernel
theorem dX6_fault_14 : decode cX6_fault 14 = .ok (.aload_n 0, 1) := by decide +kernel
theorem dX6_fault_15 : decode cX6_fault 15 = .ok (.getfield 23, 3) := by decide +kernel
theorem dX6_fault_18 : decode cX6_fault 18 = .ok (.goto 4, 3) := by decide +kernel
theorem dX6_fault_21 : decode cX6_fault 21 = .ok (.iconst (-1), 1) := by decide +kernel
theorem dX6_fault_22 : decode cX6_fault 22 = .ok (.ireturn, 1) := by decide +kernel
abbrev rmX6_fault : Room := { frames := 0, cells := 0, slots := 0, locals := 0 }
theorem cb_X6_fault : CBn yX6_fault 1 := ⟨by decide +kernel, by decide +kernel, by decide +kernel⟩
def FX6_fault (n : Nat) (v_faultNumber : Int32) (v_faultPlace : Int32) (z1 : Int32) : Option (Int32 × Unit) := if z1 = 0 then (some (v_faultNumber, ())) else (if z1 = (1 : Int32) then (some (v_faultPlace, ())) else (some ((-1 : Int32), ())))
set_option maxHeartbeats 4000000 in
set_option maxRecDepth 100000 in
theorem kX6_fault (l : Launch) (D : va_G) (cB cI cJ cZ : ClassId) (rz n sz : Nat) (h_t : Nat) (h_told : Nat) (h_reader : Nat) (h_chosen : Nat) (h_tried : Nat) (h_byHand : Nat) (h_coming : Nat) (h_ends : Nat) (h_heaps : Nat) (h_yard : Nat) (v_faultNumber : Int32) (v_faultPlace : Int32) (v_costOfKilogram : Int32) (z1 : Int32) (hN : FX6_fault n v_faultNumber v_faultPlace z1 ≠ none) : Met l yX6_fault (Cond.code yX6_fault cX6_fault 2 (some .int) :: AL) rmX6_fault (PW D cB cI cJ cZ rz [.ref h_t, .int z1] [(h_t, .inr (6, [.ref h_told, .ref h_reader, .int v_faultNumber, .int v_faultPlace, .ref h_chosen, .ref h_tried, .ref h_byHand, .ref h_coming, .ref h_ends, .ref h_heaps, .ref h_yard, .int v_costOfKilogram]))] sz) (QI D (FX6_fault n v_faultNumber v_faultPlace z1) (fun u => [(h_t, .inr (6, [.ref h_told, .ref h_reader, .int v_faultNumber, .int v_faultPlace, .ref h_chosen, .ref h_tried, .ref h_byHand, .ref h_coming, .ref h_ends, .ref h_heaps, .ref h_yard, .int v_costOfKilogram]))]) (va_A [(h_t, .inr (6, [.ref h_told, .ref h_reader, .int v_faultNumber, .int v_faultPlace, .ref h_chosen, .ref h_tried, .ref h_byHand, .ref h_coming, .ref h_ends, .ref h_heaps, .ref h_yard, .int v_costOfKilogram]))] sz)) 0 0 (va_A [(h_t, .inr (6, [.ref h_told, .ref h_reader, .int v_faultNumber, .int v_faultPlace, .ref h_chosen, .ref h_tried, .ref h_byHand, .ref h_coming, .ref h_ends, .ref h_heaps, .ref h_yard, .int v_costOfKilogram]))] sz) := by
  obtain ⟨O, hF⟩ : ∃ O, FX6_fault n v_faultNumber v_faultPlace z1 = O := ⟨_, rfl⟩
  rw [hF] at hN ⊢
  refine enterI (cc := cX6_fault) (nL := 2) (by decide) (Nat.le_of_ble_eq_true rfl) ?_
  intro p e s m below meth c A Q X hA hE hnm hsz hP hD hS hret ls hl
  obtain ⟨hx, hb, hml, hown0, ha⟩ := id X
  have hown : s.vm.findClass RX6 = some m.cls := hown0
  have hK := hE.1
  have hl : lv_has ls 2 [(0, .ref h_t), (1, .int z1)] := hl
  have hX : CallFix p m c cX6_fault 2 s ([.ref h_t, .int z1] : List Value).toArray AL RX6 := X
  have X := hX
  unfold FX6_fault at hF
  obtain ⟨H, hH⟩ : ∃ H, H = s.heap := ⟨_, rfl⟩
  obtain ⟨locs, hlo⟩ : ∃ locs : List Loc, locs = [] := ⟨_, rfl⟩
  have hS : va_S A s.heap H locs := by rw [hH, hlo]; exact hS
  rw [← hH] at hP
  have goal : W p l e rmX6_fault s m ([.ref h_t, .int z1] : List Value).toArray below meth c H locs 0 0 Q (F0 m 0 ls []) := by
    refine lv_iload_n hx hb dX6_fault_0 rfl (lv_at hl 1 rfl) ?_
    refine lv_if_ne (tgt := 9) hx hb dX6_fault_1 (by decide) (fun c_1 => ?_) (fun c_1 => ?_)
    · replace hF := ifF c_1 hF
      refine lv_iload_n hx hb dX6_fault_9 rfl (lv_at hl 1 rfl) ?_
      refine lv_iconst (v := 1) hx hb dX6_fault_10 (by decide) ?_
      refine lv_icmp_ne (tgt := 21) hx hb dX6_fault_11 (by decide) (fun c_2 => ?_) (fun c_2 => ?_)
      · replace hF := ifF c_2 hF
        refine lv_iconst (v := -1) hx hb dX6_fault_21 (by decide) ?_
        exact hret ((-1 : Int32), ()) H locs ls _ hF hP hD hS dX6_fault_22
      · replace hF := ifT c_2 hF
        refine lv_aload_n hx hb dX6_fault_14 rfl (lv_at hl 0 rfl) ?_
        refine va_get (D := D) (ci := 6) (C := RX6) (T := TX6) (N := 12) hx hb ha inAX6 hown hK hP 0 rfl rfl 3 (by decide) (ha _ w_1_237) (fun _ h9 => h9) rfl dX6_fault_15 ?_
        refine lv_goto (tgt := 22) hx hb dX6_fault_18 (by decide) ?_
        exact hret (v_faultPlace, ()) H locs ls _ hF hP hD hS dX6_fault_22
    · replace hF := ifT c_1 hF
      refine lv_aload_n hx hb dX6_fault_4 rfl (lv_at hl 0 rfl) ?_
      refine va_get (D := D) (ci := 6) (C := RX6) (T := TX6) (N := 12) hx hb ha inAX6 hown hK hP 0 rfl rfl 2 (by decide) (ha _ w_1_236) (fun _ h9 => h9) rfl dX6_fault_5 ?_
      exact hret (v_faultNumber, ()) H locs ls _ hF hP hD hS dX6_fault_8
  rw [hH, hlo] at goal
  exact goal
theorem dX6_isUnit_0 : decode cX6_isUnit 0 = .ok (.iload_n 1, 1) := by decide +kernel
theorem dX6_isUnit_1 : decode cX6_isUnit 1 = .ok (.ifCond .lt 18, 3) := by decide +kernel
theorem dX6_isUnit_4 : decode cX6_isUnit 4 = .ok (.iload_n 1, 1) := by decide +kernel
theorem dX6_isUnit_5 : decode cX6_isUnit 5 = .ok (.aload_n 0, 1) := by decide +kernel
theorem dX6_isUnit_6 : decode cX6_isUnit 6 = .ok (.getfield 10, 3) := by decide +kernel
theorem dX6_isUnit_9 : decode cX6_isUnit 9 = .ok (.getfield 96, 3) := by decide +kernel
theorem dX6_isUnit_12 : decode cX6_isUnit 12 = .ok (.if_icmp .ge 7, 3) := by decide +kernel
theorem dX6_isUnit_15 : decode cX6_isUnit 15 = .ok (.iconst 1, 1) := by decide +kernel
theorem dX6_isUnit_16 : decode cX6_isUnit 16 = .ok (.goto 4, 3) := by decide +kernel
theorem dX6_isUnit_19 : decode cX6_isUnit 19 = .ok (.iconst 0, 1) := by decide +kernel
theorem dX6_isUnit_20 : decode cX6_isUnit 20 = .ok (.ireturn, 1) := by decide +kernel
abbrev rmX6_isUnit : Room := { frames := 0, cells := 0, slots := 0, locals := 0 }
theorem cb_X6_isUnit : CBn yX6_isUnit 1 := ⟨by decide +kernel, by decide +kernel, by decide +kernel⟩
def FX6_isUnit (n : Nat) (v_told_units : Int32) (z1 : Int32) : Option (Int32 × Unit) := if z1 < 0 then (some ((0 : Int32), ())) else (if v_told_units ≤ z1 then (some ((0 : Int32), ())) else (some ((1 : Int32), ())))
set_option maxHeartbeats 4000000 in
set_option maxRecDepth 100000 in
theorem kX6_isUnit (l : Launch) (D : va_G) (cB cI cJ cZ : ClassId) (rz n sz : Nat) (h_t : Nat) (h_told : Nat) (h_reader : Nat) (h_chosen : Nat) (h_tried : Nat) (h_byHand : Nat) (h_coming : Nat) (h_ends : Nat) (h_heaps : Nat) (h_yard : Nat) (h_told_settings : Nat) (h_told_yesLeads : Nat) (h_told_noLeads : Nat) (h_told_percents : Nat) (h_told_grades : Nat) (h_told_gradeKinds : Nat) (h_told_gradePurities : Nat) (h_told_gradePrices : Nat) (v_faultNumber : Int32) (v_faultPlace : Int32) (v_costOfKilogram : Int32) (v_told_units : Int32) (z1 : Int32) (hN : FX6_isUnit n v_told_units z1 ≠ none) : Met l yX6_isUnit (Cond.code yX6_isUnit cX6_isUnit 2 (some .boolean) :: AL) rmX6_isUnit (PW D cB cI cJ cZ rz [.ref h_t, .int z1] [(h_t, .inr (6, [.ref h_told, .ref h_reader, .int v_faultNumber, .int v_faultPlace, .ref h_chosen, .ref h_tried, .ref h_byHand, .ref h_coming, .ref h_ends, .ref h_heaps, .ref h_yard, .int v_costOfKilogram])), (h_told, .inr (2, [.int v_told_units, .ref h_told_settings, .ref h_told_yesLeads, .ref h_told_noLeads, .ref h_told_percents, .ref h_told_grades, .ref h_told_gradeKinds, .ref h_told_gradePurities, .ref h_told_gradePrices]))] sz) (QZ D (FX6_isUnit n v_told_units z1) (fun u => [(h_t, .inr (6, [.ref h_told, .ref h_reader, .int v_faultNumber, .int v_faultPlace, .ref h_chosen, .ref h_tried, .ref h_byHand, .ref h_coming, .ref h_ends, .ref h_heaps, .ref h_yard, .int v_costOfKilogram])), (h_told, .inr (2, [.int v_told_units, .ref h_told_settings, .ref h_told_yesLeads, .ref h_told_noLeads, .ref h_told_percents, .ref h_told_grades, .ref h_told_gradeKinds, .ref h_told_gradePurities, .ref h_told_gradePrices]))]) (va_A [(h_t, .inr (6, [.ref h_told, .ref h_reader, .int v_faultNumber, .int v_faultPlace, .ref h_chosen, .ref h_tried, .ref h_byHand, .ref h_coming, .ref h_ends, .ref h_heaps, .ref h_yard, .int v_costOfKilogram])), (h_told, .inr (2, [.int v_told_units, .ref h_told_settings, .ref h_told_yesLeads, .ref h_told_noLeads, .ref h_told_percents, .ref h_told_grades, .ref h_told_gradeKinds, .ref h_told_gradePurities, .ref h_told_gradePrices]))] sz)) 0 0 (va_A [(h_t, .inr (6, [.ref h_told, .ref h_reader, .int v_faultNumber, .int v_faultPlace, .ref h_chosen, .ref h_tried, .ref h_byHand, .ref h_coming, .ref h_ends, .ref h_heaps, .ref h_yard, .int v_costOfKilogram])), (h_told, .inr (2, [.int v_told_units, .ref h_told_settings, .ref h_told_yesLeads, .ref h_told_noLeads, .ref h_told_percents, .ref h_told_grades, .ref h_told_gradeKinds, .ref h_told_gradePurities, .ref h_told_gradePrices]))] sz) := by
  obtain ⟨O, hF⟩ : ∃ O, FX6_isUnit n v_told_units z1 = O := ⟨_, rfl⟩
  rw [hF] at hN ⊢
  refine enterZ (cc := cX6_isUnit) (nL := 2) (by decide) (Nat.le_of_ble_eq_true rfl) ?_
  intro p e s m below meth c A Q X hA hE hnm hsz hP hD hS hret ls hl
  obtain ⟨hx, hb, hml, hown0, ha⟩ := id X
  have hown : s.vm.findClass RX6 = some m.cls := hown0
  have hK := hE.1
  have hl : lv_has ls 2 [(0, .ref h_t), (1, .int z1)] := hl
  have hX : CallFix p m c cX6_isUnit 2 s ([.ref h_t, .int z1] : List Value).toArray AL RX6 := X
  have X := hX
  unfold FX6_isUnit at hF
  obtain ⟨H, hH⟩ : ∃ H, H = s.heap := ⟨_, rfl⟩
  obtain ⟨locs, hlo⟩ : ∃ locs : List Loc, locs = [] := ⟨_, rfl⟩
  have hS : va_S A s.heap H locs := by rw [hH, hlo]; exact hS
  rw [← hH] at hP
  have goal : W p l e rmX6_isUnit s m ([.ref h_t, .int z1] : List Value).toArray below meth c H locs 0 0 Q (F0 m 0 ls []) := by
    refine lv_iload_n hx hb dX6_isUnit_0 rfl (lv_at hl 1 rfl) ?_
    refine lv_if_lt (tgt := 19) hx hb dX6_isUnit_1 (by decide) (fun c_1 => ?_) (fun c_1 => ?_)
    · replace hF := ifT c_1 hF
      refine lv_iconst (v := 0) hx hb dX6_isUnit_19 (by decide) ?_
      exact hret ((0 : Int32), ()) H locs ls _ hF nz0 hP hD hS dX6_isUnit_20
    · replace hF := ifF c_1 hF
      refine lv_iload_n hx hb dX6_isUnit_4 rfl (lv_at hl 1 rfl) ?_
      refine lv_aload_n hx hb dX6_isUnit_5 rfl (lv_at hl 0 rfl) ?_
      refine va_get (D := D) (ci := 6) (C := RX6) (T := TX6) (N := 12) hx hb ha inAX6 hown hK hP 0 rfl rfl 0 (by decide) (ha _ w_1_234) (fun _ h9 => h9) rfl dX6_isUnit_6 ?_
      refine va_getN (D := D) (ci := 2) (C := RX2) (T := TX2) (N := 9) hx hb ha inAX2 hown hK hP 1 rfl rfl 0 (by decide) (va_Nw.use rfl (hE.2.1 _ w_1_30)) (fun _ h9 => h9) rfl dX6_isUnit_9 ?_
      refine lv_icmp_ge (tgt := 19) hx hb dX6_isUnit_12 (by decide) (fun c_2 => ?_) (fun c_2 => ?_)
      · replace hF := ifT c_2 hF
        refine lv_iconst (v := 0) hx hb dX6_isUnit_19 (by decide) ?_
        exact hret ((0 : Int32), ()) H locs ls _ hF nz0 hP hD hS dX6_isUnit_20
      · replace hF := ifF c_2 hF
        refine lv_iconst (v := 1) hx hb dX6_isUnit_15 (by decide) ?_
        refine lv_goto (tgt := 20) hx hb dX6_isUnit_16 (by decide) ?_
        exact hret ((1 : Int32), ()) H locs ls _ hF nz1 hP hD hS dX6_isUnit_20
  rw [hH, hlo] at goal
  exact goal
theorem dX6_unit_0 : decode cX6_unit 0 = .ok (.aload_n 0, 1) := by decide +kernel
theorem dX6_unit_1 : decode cX6_unit 1 = .ok (.iload_n 1, 1) := by decide +kernel
theorem dX6_unit_2 : decode cX6_unit 2 = .ok (.invokevirtual 99, 3) := by decide +kernel
theorem dX6_unit_5 : decode cX6_unit 5 = .ok (.ifCond .ne 5, 3) := by decide +kernel
theorem dX6_unit_8 : decode cX6_unit 8 = .ok (.iconst (-1), 1) := by decide +kernel
theorem dX6_unit_9 : decode cX6_unit 9 = .ok (.ireturn, 1) := by decide +kernel
theorem dX6_unit_10 : decode cX6_unit 10 = .ok (.iload_n 2, 1) := by decide +kernel
theorem dX6_unit_11 : decode cX6_unit 11 = .ok (.tableswitch 66 0 3 #[29, 39, 49, 59], 29) := by decide +kernel
theorem dX6_unit_40 : decode cX6_unit 40 = .ok (.aload_n 0, 1) := by decide +kernel
theorem dX6_unit_41 : decode cX6_unit 41 = .ok (.getfield 10, 3) := by decide +kernel
theorem dX6_unit_44 : decode cX6_unit 44 = .ok (.getfield 103, 3) := by decide +kernel
theorem dX6_unit_47 : decode cX6_unit 47 = .ok (.iload_n 1, 1) := by decide +kernel
theorem dX6_unit_48 : decode cX6_unit 48 = .ok (.iaload, 1) := by decide +kernel
theorem dX6_unit_49 : decode cX6_unit 49 = .ok (.ireturn, 1) := by decide +kernel
theorem dX6_unit_50 : decode cX6_unit 50 = .ok (.aload_n 0, 1) := by decide +kernel
theorem dX6_unit_51 : decode cX6_unit 51 = .ok (.getfield 10, 3) := by decide +kernel
theorem dX6_unit_54 : decode cX6_unit 54 = .ok (.getfield 106, 3) := by decide +kernel
theorem dX6_unit_57 : decode cX6_unit 57 = .ok (.iload_n 1, 1) := by decide +kernel
theorem dX6_unit_58 : decode cX6_unit 58 = .ok (.iaload, 1) := by decide +kernel
theorem dX6_unit_59 : decode cX6_unit 59 = .ok (.ireturn, 1) := by decide +kernel
theorem dX6_unit_60 : decode cX6_unit 60 = .ok (.aload_n 0, 1) := by decide +kernel
theorem dX6_unit_61 : decode cX6_unit 61 = .ok (.getfield 10, 3) := by decide +kernel
theorem dX6_unit_64 : decode cX6_unit 64 = .ok (.getfield 109, 3) := by decide +kernel
theorem dX6_unit_67 : decode cX6_unit 67 = .ok (.iload_n 1, 1) := by decide +kernel
theorem dX6_unit_68 : decode cX6_unit 68 = .ok (.iaload, 1) := by decide +kernel
theorem dX6_unit_69 : decode cX6_unit 69 = .ok (.ireturn, 1) := by decide +kernel
theorem dX6_unit_70 : decode cX6_unit 70 = .ok (.aload_n 0, 1) := by decide +kernel
theorem dX6_unit_71 : decode cX6_unit 71 = .ok (.getfield 27, 3) := by decide +kernel
theorem dX6_unit_74 : decode cX6_unit 74 = .ok (.iload_n 1, 1) := by decide +kernel
theorem dX6_unit_75 : decode cX6_unit 75 = .ok (.iaload, 1) := by decide +kernel
theorem dX6_unit_76 : decode cX6_unit 76 = .ok (.ireturn, 1) := by decide +kernel
theorem dX6_unit_77 : decode cX6_unit 77 = .ok (.iconst (-1), 1) := by decide +kernel
theorem dX6_unit_78 : decode cX6_unit 78 = .ok (.ireturn, 1) := by decide +kernel
abbrev rmX6_unit : Room := { frames := 1, cells := 0, slots := 0, locals := 21 }
theorem cb_X6_unit : CBn yX6_unit 2 := ⟨by decide +kernel, by decide +kernel, by decide +kernel⟩
def FX6_unit (n : Nat) (v_told_units : Int32) (a_chosen : Nat → Int32) (a_told_noLeads : Nat → Int32) (a_told_yesLeads : Nat → Int32) (a_told_settings : Nat → Int32) (z1 : Int32) (z2 : Int32) : Option (Int32 × Unit) := bd (FX6_isUnit n v_told_units z1) (fun u_2 => if u_2.1 = 0 then (some ((-1 : Int32), ())) else (if z2 = (0 : Int32) then (if ¬ (z1 < 0 ∨ 5 ≤ (z1).toNatClampNeg) then (some ((a_told_settings (z1).toNatClampNeg), ())) else none) else (if z2 = (1 : Int32) then (if ¬ (z1 < 0 ∨ 5 ≤ (z1).toNatClampNeg) then (some ((a_told_yesLeads (z1).toNatClampNeg), ())) else none) else (if z2 = (2 : Int32) then (if ¬ (z1 < 0 ∨ 5 ≤ (z1).toNatClampNeg) then (some ((a_told_noLeads (z1).toNatClampNeg), ())) else none) else (if z2 = (3 : Int32) then (if ¬ (z1 < 0 ∨ 5 ≤ (z1).toNatClampNeg) then (some ((a_chosen (z1).toNatClampNeg), ())) else none) else (some ((-1 : Int32), ())))))))
set_option maxHeartbeats 4000000 in
set_option maxRecDepth 100000 in
theorem kX6_unit (l : Launch) (D : va_G) (cB cI cJ cZ : ClassId) (rz n sz : Nat) (h_t : Nat) (h_told : Nat) (h_chosen : Nat) (h_told_noLeads : Nat) (h_told_yesLeads : Nat) (h_told_settings : Nat) (h_reader : Nat) (h_tried : Nat) (h_byHand : Nat) (h_coming : Nat) (h_ends : Nat) (h_heaps : Nat) (h_yard : Nat) (h_told_percents : Nat) (h_told_grades : Nat) (h_told_gradeKinds : Nat) (h_told_gradePurities : Nat) (h_told_gradePrices : Nat) (v_faultNumber : Int32) (v_faultPlace : Int32) (v_costOfKilogram : Int32) (v_told_units : Int32) (a_chosen : Nat → Int32) (a_told_noLeads : Nat → Int32) (a_told_yesLeads : Nat → Int32) (a_told_settings : Nat → Int32) (z1 : Int32) (z2 : Int32) (hN : FX6_unit n v_told_units a_chosen a_told_noLeads a_told_yesLeads a_told_settings z1 z2 ≠ none) : Met l yX6_unit (Cond.code yX6_unit cX6_unit 3 (some .int) :: AL) rmX6_unit (PW D cB cI cJ cZ rz [.ref h_t, .int z1, .int z2] [(h_t, .inr (6, [.ref h_told, .ref h_reader, .int v_faultNumber, .int v_faultPlace, .ref h_chosen, .ref h_tried, .ref h_byHand, .ref h_coming, .ref h_ends, .ref h_heaps, .ref h_yard, .int v_costOfKilogram])), (h_told, .inr (2, [.int v_told_units, .ref h_told_settings, .ref h_told_yesLeads, .ref h_told_noLeads, .ref h_told_percents, .ref h_told_grades, .ref h_told_gradeKinds, .ref h_told_gradePurities, .ref h_told_gradePrices])), (h_chosen, .inl (cI, 5, .inl a_chosen)), (h_told_noLeads, .inl (cI, 5, .inl a_told_noLeads)), (h_told_yesLeads, .inl (cI, 5, .inl a_told_yesLeads)), (h_told_settings, .inl (cI, 5, .inl a_told_settings))] sz) (QI D (FX6_unit n v_told_units a_chosen a_told_noLeads a_told_yesLeads a_told_settings z1 z2) (fun u => [(h_t, .inr (6, [.ref h_told, .ref h_reader, .int v_faultNumber, .int v_faultPlace, .ref h_chosen, .ref h_tried, .ref h_byHand, .ref h_coming, .ref h_ends, .ref h_heaps, .ref h_yard, .int v_costOfKilogram])), (h_told, .inr (2, [.int v_told_units, .ref h_told_settings, .ref h_told_yesLeads, .ref h_told_noLeads, .ref h_told_percents, .ref h_told_grades, .ref h_told_gradeKinds, .ref h_told_gradePurities, .ref h_told_gradePrices])), (h_chosen, .inl (cI, 5, .inl a_chosen)), (h_told_noLeads, .inl (cI, 5, .inl a_told_noLeads)), (h_told_yesLeads, .inl (cI, 5, .inl a_told_yesLeads)), (h_told_settings, .inl (cI, 5, .inl a_told_settings))]) (va_A [(h_t, .inr (6, [.ref h_told, .ref h_reader, .int v_faultNumber, .int v_faultPlace, .ref h_chosen, .ref h_tried, .ref h_byHand, .ref h_coming, .ref h_ends, .ref h_heaps, .ref h_yard, .int v_costOfKilogram])), (h_told, .inr (2, [.int v_told_units, .ref h_told_settings, .ref h_told_yesLeads, .ref h_told_noLeads, .ref h_told_percents, .ref h_told_grades, .ref h_told_gradeKinds, .ref h_told_gradePurities, .ref h_told_gradePrices])), (h_chosen, .inl (cI, 5, .inl a_chosen)), (h_told_noLeads, .inl (cI, 5, .inl a_told_noLeads)), (h_told_yesLeads, .inl (cI, 5, .inl a_told_yesLeads)), (h_told_settings, .inl (cI, 5, .inl a_told_settings))] sz)) 0 0 (va_A [(h_t, .inr (6, [.ref h_told, .ref h_reader, .int v_faultNumber, .int v_faultPlace, .ref h_chosen, .ref h_tried, .ref h_byHand, .ref h_coming, .ref h_ends, .ref h_heaps, .ref h_yard, .int v_costOfKilogram])), (h_told, .inr (2, [.int v_told_units, .ref h_told_settings, .ref h_told_yesLeads, .ref h_told_noLeads, .ref h_told_percents, .ref h_told_grades, .ref h_told_gradeKinds, .ref h_told_gradePurities, .ref h_told_gradePrices])), (h_chosen, .inl (cI, 5, .inl a_chosen)), (h_told_noLeads, .inl (cI, 5, .inl a_told_noLeads)), (h_told_yesLeads, .inl (cI, 5, .inl a_told_yesLeads)), (h_told_settings, .inl (cI, 5, .inl a_told_settings))] sz) := by
  obtain ⟨O, hF⟩ : ∃ O, FX6_unit n v_told_units a_chosen a_told_noLeads a_told_yesLeads a_told_settings z1 z2 = O := ⟨_, rfl⟩
  rw [hF] at hN ⊢
  refine enterI (cc := cX6_unit) (nL := 3) (by decide) (Nat.le_of_ble_eq_true rfl) ?_
  intro p e s m below meth c A Q X hA hE hnm hsz hP hD hS hret ls hl
  obtain ⟨hx, hb, hml, hown0, ha⟩ := id X
  have hown : s.vm.findClass RX6 = some m.cls := hown0
  have hK := hE.1
  have hl : lv_has ls 3 [(0, .ref h_t), (1, .int z1), (2, .int z2)] := hl
  have hX : CallFix p m c cX6_unit 3 s ([.ref h_t, .int z1, .int z2] : List Value).toArray AL RX6 := X
  have X := hX
  unfold FX6_unit at hF
  obtain ⟨H, hH⟩ : ∃ H, H = s.heap := ⟨_, rfl⟩
  obtain ⟨locs, hlo⟩ : ∃ locs : List Loc, locs = [] := ⟨_, rfl⟩
  have hS : va_S A s.heap H locs := by rw [hH, hlo]; exact hS
  rw [← hH] at hP
  have goal : W p l e rmX6_unit s m ([.ref h_t, .int z1, .int z2] : List Value).toArray below meth c H locs 0 0 Q (F0 m 0 ls []) := by
    refine lv_aload_n hx hb dX6_unit_0 rfl (lv_at hl 0 rfl) ?_
    refine lv_iload_n hx hb dX6_unit_1 rfl (lv_at hl 1 rfl) ?_
    have hn_1 := bdN hN hF
    refine callVZ (As := [.int z1]) (rest := []) (wr := [(h_chosen, .inl (cI, 5, .inl a_chosen)), (h_told_noLeads, .inl (cI, 5, .inl a_told_noLeads)), (h_told_yesLeads, .inl (cI, 5, .inl a_told_yesLeads)), (h_told_settings, .inl (cI, 5, .inl a_told_settings))]) (W2 := fun u_2 => [(h_t, .inr (6, [.ref h_told, .ref h_reader, .int v_faultNumber, .int v_faultPlace, .ref h_chosen, .ref h_tried, .ref h_byHand, .ref h_coming, .ref h_ends, .ref h_heaps, .ref h_yard, .int v_costOfKilogram])), (h_told, .inr (2, [.int v_told_units, .ref h_told_settings, .ref h_told_yesLeads, .ref h_told_noLeads, .ref h_told_percents, .ref h_told_grades, .ref h_told_gradeKinds, .ref h_told_gradePurities, .ref h_told_gradePrices])), (h_chosen, .inl (cI, 5, .inl a_chosen)), (h_told_noLeads, .inl (cI, 5, .inl a_told_noLeads)), (h_told_yesLeads, .inl (cI, 5, .inl a_told_yesLeads)), (h_told_settings, .inl (cI, 5, .inl a_told_settings))]) X hE hP hD hS hA (kX6_isUnit l D cB cI cJ cZ rz n H.size h_t h_told h_reader h_chosen h_tried h_byHand h_coming h_ends h_heaps h_yard h_told_settings h_told_yesLeads h_told_noLeads h_told_percents h_told_grades h_told_gradeKinds h_told_gradePurities h_told_gradePrices v_faultNumber v_faultPlace v_costOfKilogram v_told_units z1 hn_1) w_2_159 w_2_161 ws_23 w_1_1 w_2_162 cb_X6_isUnit rfl rfl ⟨Nat.le_of_ble_eq_true rfl, Nat.le_of_ble_eq_true rfl⟩ rfl hl.1 rfl (Nat.le_of_ble_eq_true rfl) dX6_unit_2 ⟨Nat.le_of_ble_eq_true rfl, Nat.le_of_ble_eq_true rfl⟩ (c2 := 0) (s2 := 0) rfl rfl (k0 := 0) rfl rfl [0, 1] [2, 3, 4, 5] [4, 5, 0, 1, 2, 3] rfl rfl (by decide) (by decide) (by decide) (by decide) (fun _ => rfl) (fun u_2 H locs hG hzu_2 hP hD hS => ?_)
    replace hF := bdQ hG hF
    refine lv_if_ne (tgt := 10) hx hb dX6_unit_5 (by decide) (fun c_3 => ?_) (fun c_3 => ?_)
    · replace hF := ifF c_3 hF
      refine lv_iload_n hx hb dX6_unit_10 rfl (lv_at hl 2 rfl) ?_
      by_cases c_4 : z2 = (0 : Int32)
      · replace hF := ifT c_4 hF
        refine tsI (k := 0) (off := 29) (tgt := 40) hx hb c_4 dX6_unit_11 (by decide) (by decide) (by decide) (by decide) ?_
        refine lv_aload_n hx hb dX6_unit_40 rfl (lv_at hl 0 rfl) ?_
        refine va_get (D := D) (ci := 6) (C := RX6) (T := TX6) (N := 12) hx hb ha inAX6 hown hK hP 0 rfl rfl 0 (by decide) (ha _ w_1_234) (fun _ h9 => h9) rfl dX6_unit_41 ?_
        refine va_getN (D := D) (ci := 2) (C := RX2) (T := TX2) (N := 9) hx hb ha inAX2 hown hK hP 1 rfl rfl 1 (by decide) (va_Nw.use rfl (hE.2.1 _ w_1_32)) (fun _ h9 => h9) rfl dX6_unit_44 ?_
        refine lv_iload_n hx hb dX6_unit_47 rfl (lv_at hl 1 rfl) ?_
        replace hF := ckP hN hF
        obtain ⟨c_5, hF⟩ := hF
        refine ld_i hx hb hK hP 5 rfl c_5 dX6_unit_48 ?_
        exact hret ((a_told_settings (z1).toNatClampNeg), ()) H locs ls _ hF hP hD hS dX6_unit_49
      · replace hF := ifF c_4 hF
        by_cases c_6 : z2 = (1 : Int32)
        · replace hF := ifT c_6 hF
          refine tsI (k := 1) (off := 39) (tgt := 50) hx hb c_6 dX6_unit_11 (by decide) (by decide) (by decide) (by decide) ?_
          refine lv_aload_n hx hb dX6_unit_50 rfl (lv_at hl 0 rfl) ?_
          refine va_get (D := D) (ci := 6) (C := RX6) (T := TX6) (N := 12) hx hb ha inAX6 hown hK hP 0 rfl rfl 0 (by decide) (ha _ w_1_234) (fun _ h9 => h9) rfl dX6_unit_51 ?_
          refine va_getN (D := D) (ci := 2) (C := RX2) (T := TX2) (N := 9) hx hb ha inAX2 hown hK hP 1 rfl rfl 2 (by decide) (va_Nw.use rfl (hE.2.1 _ w_1_37)) (fun _ h9 => h9) rfl dX6_unit_54 ?_
          refine lv_iload_n hx hb dX6_unit_57 rfl (lv_at hl 1 rfl) ?_
          replace hF := ckP hN hF
          obtain ⟨c_7, hF⟩ := hF
          refine ld_i hx hb hK hP 4 rfl c_7 dX6_unit_58 ?_
          exact hret ((a_told_yesLeads (z1).toNatClampNeg), ()) H locs ls _ hF hP hD hS dX6_unit_59
        · replace hF := ifF c_6 hF
          by_cases c_8 : z2 = (2 : Int32)
          · replace hF := ifT c_8 hF
            refine tsI (k := 2) (off := 49) (tgt := 60) hx hb c_8 dX6_unit_11 (by decide) (by decide) (by decide) (by decide) ?_
            refine lv_aload_n hx hb dX6_unit_60 rfl (lv_at hl 0 rfl) ?_
            refine va_get (D := D) (ci := 6) (C := RX6) (T := TX6) (N := 12) hx hb ha inAX6 hown hK hP 0 rfl rfl 0 (by decide) (ha _ w_1_234) (fun _ h9 => h9) rfl dX6_unit_61 ?_
            refine va_getN (D := D) (ci := 2) (C := RX2) (T := TX2) (N := 9) hx hb ha inAX2 hown hK hP 1 rfl rfl 3 (by decide) (va_Nw.use rfl (hE.2.1 _ w_1_41)) (fun _ h9 => h9) rfl dX6_unit_64 ?_
            refine lv_iload_n hx hb dX6_unit_67 rfl (lv_at hl 1 rfl) ?_
            replace hF := ckP hN hF
            obtain ⟨c_9, hF⟩ := hF
            refine ld_i hx hb hK hP 3 rfl c_9 dX6_unit_68 ?_
            exact hret ((a_told_noLeads (z1).toNatClampNeg), ()) H locs ls _ hF hP hD hS dX6_unit_69
          · replace hF := ifF c_8 hF
            by_cases c_10 : z2 = (3 : Int32)
            · replace hF := ifT c_10 hF
              refine tsI (k := 3) (off := 59) (tgt := 70) hx hb c_10 dX6_unit_11 (by decide) (by decide) (by decide) (by decide) ?_
              refine lv_aload_n hx hb dX6_unit_70 rfl (lv_at hl 0 rfl) ?_
              refine va_get (D := D) (ci := 6) (C := RX6) (T := TX6) (N := 12) hx hb ha inAX6 hown hK hP 0 rfl rfl 4 (by decide) (ha _ w_1_238) (fun _ h9 => h9) rfl dX6_unit_71 ?_
              refine lv_iload_n hx hb dX6_unit_74 rfl (lv_at hl 1 rfl) ?_
              replace hF := ckP hN hF
              obtain ⟨c_11, hF⟩ := hF
              refine ld_i hx hb hK hP 2 rfl c_11 dX6_unit_75 ?_
              exact hret ((a_chosen (z1).toNatClampNeg), ()) H locs ls _ hF hP hD hS dX6_unit_76
            · replace hF := ifF c_10 hF
              refine tsO (hi := 3) (tgt := 77) hx hb (fun k hk => match k, hk with | 0, _ => c_4 | 1, _ => c_6 | 2, _ => c_8 | 3, _ => c_10 | k + 4, hk => absurd hk (by omega)) dX6_unit_11 (by decide) (by decide) ?_
              refine lv_iconst (v := -1) hx hb dX6_unit_77 (by decide) ?_
              exact hret ((-1 : Int32), ()) H locs ls _ hF hP hD hS dX6_unit_78
    · replace hF := ifT c_3 hF
      refine lv_iconst (v := -1) hx hb dX6_unit_8 (by decide) ?_
      exact hret ((-1 : Int32), ()) H locs ls _ hF hP hD hS dX6_unit_9
  rw [hH, hlo] at goal
  exact goal
theorem dX6_isSetting_0 : decode cX6_isSetting 0 = .ok (.aload_n 0, 1) := by decide +kernel
theorem dX6_isSetting_1 : decode cX6_isSetting 1 = .ok (.iload_n 1, 1) := by decide +kernel
theorem dX6_isSetting_2 : decode cX6_isSetting 2 = .ok (.invokevirtual 99, 3) := by decide +kernel
theorem dX6_isSetting_5 : decode cX6_isSetting 5 = .ok (.ifCond .eq 24, 3) := by decide +kernel
theorem dX6_isSetting_8 : decode cX6_isSetting 8 = .ok (.iload_n 2, 1) := by decide +kernel
theorem dX6_isSetting_9 : decode cX6_isSetting 9 = .ok (.ifCond .lt 20, 3) := by decide +kernel
theorem dX6_isSetting_12 : decode cX6_isSetting 12 = .ok (.iload_n 2, 1) := by decide +kernel
theorem dX6_isSetting_13 : decode cX6_isSetting 13 = .ok (.aload_n 0, 1) := by decide +kernel
theorem dX6_isSetting_14 : decode cX6_isSetting 14 = .ok (.getfield 10, 3) := by decide +kernel
theorem dX6_isSetting_17 : decode cX6_isSetting 17 = .ok (.getfield 103, 3) := by decide +kernel
theorem dX6_isSetting_20 : decode cX6_isSetting 20 = .ok (.iload_n 1, 1) := by decide +kernel
theorem dX6_isSetting_21 : decode cX6_isSetting 21 = .ok (.iaload, 1) := by decide +kernel
theorem dX6_isSetting_22 : decode cX6_isSetting 22 = .ok (.if_icmp .ge 7, 3) := by decide +kernel
theorem dX6_isSetting_25 : decode cX6_isSetting 25 = .ok (.iconst 1, 1) := by decide +kernel
theorem dX6_isSetting_26 : decode cX6_isSetting 26 = .ok (.goto 4, 3) := by decide +kernel
theorem dX6_isSetting_29 : decode cX6_isSetting 29 = .ok (.iconst 0, 1) := by decide +kernel
theorem dX6_isSetting_30 : decode cX6_isSetting 30 = .ok (.ireturn, 1) := by decide +kernel
abbrev rmX6_isSetting : Room := { frames := 1, cells := 0, slots := 0, locals := 21 }
theorem cb_X6_isSetting : CBn yX6_isSetting 2 := ⟨by decide +kernel, by decide +kernel, by decide +kernel⟩
def FX6_isSetting (n : Nat) (v_told_units : Int32) (a_told_settings : Nat → Int32) (z1 : Int32) (z2 : Int32) : Option (Int32 × Unit) := bd (FX6_isUnit n v_told_units z1) (fun u_2 => if u_2.1 = 0 then (some ((0 : Int32), ())) else (if z2 < 0 then (some ((0 : Int32), ())) else (if ¬ (z1 < 0 ∨ 5 ≤ (z1).toNatClampNeg) then (if (a_told_settings (z1).toNatClampNeg) ≤ z2 then (some ((0 : Int32), ())) else (some ((1 : Int32), ()))) else none)))
set_option maxHeartbeats 4000000 in
set_option maxRecDepth 100000 in
theorem kX6_isSetting (l : Launch) (D : va_G) (cB cI cJ cZ : ClassId) (rz n sz : Nat) (h_t : Nat) (h_told : Nat) (h_told_settings : Nat) (h_reader : Nat) (h_chosen : Nat) (h_tried : Nat) (h_byHand : Nat) (h_coming : Nat) (h_ends : Nat) (h_heaps : Nat) (h_yard : Nat) (h_told_yesLeads : Nat) (h_told_noLeads : Nat) (h_told_percents : Nat) (h_told_grades : Nat) (h_told_gradeKinds : Nat) (h_told_gradePurities : Nat) (h_told_gradePrices : Nat) (v_faultNumber : Int32) (v_faultPlace : Int32) (v_costOfKilogram : Int32) (v_told_units : Int32) (a_told_settings : Nat → Int32) (z1 : Int32) (z2 : Int32) (hN : FX6_isSetting n v_told_units a_told_settings z1 z2 ≠ none) : Met l yX6_isSetting (Cond.code yX6_isSetting cX6_isSetting 3 (some .boolean) :: AL) rmX6_isSetting (PW D cB cI cJ cZ rz [.ref h_t, .int z1, .int z2] [(h_t, .inr (6, [.ref h_told, .ref h_reader, .int v_faultNumber, .int v_faultPlace, .ref h_chosen, .ref h_tried, .ref h_byHand, .ref h_coming, .ref h_ends, .ref h_heaps, .ref h_yard, .int v_costOfKilogram])), (h_told, .inr (2, [.int v_told_units, .ref h_told_settings, .ref h_told_yesLeads, .ref h_told_noLeads, .ref h_told_percents, .ref h_told_grades, .ref h_told_gradeKinds, .ref h_told_gradePurities, .ref h_told_gradePrices])), (h_told_settings, .inl (cI, 5, .inl a_told_settings))] sz) (QZ D (FX6_isSetting n v_told_units a_told_settings z1 z2) (fun u => [(h_t, .inr (6, [.ref h_told, .ref h_reader, .int v_faultNumber, .int v_faultPlace, .ref h_chosen, .ref h_tried, .ref h_byHand, .ref h_coming, .ref h_ends, .ref h_heaps, .ref h_yard, .int v_costOfKilogram])), (h_told, .inr (2, [.int v_told_units, .ref h_told_settings, .ref h_told_yesLeads, .ref h_told_noLeads, .ref h_told_percents, .ref h_told_grades, .ref h_told_gradeKinds, .ref h_told_gradePurities, .ref h_told_gradePrices])), (h_told_settings, .inl (cI, 5, .inl a_told_settings))]) (va_A [(h_t, .inr (6, [.ref h_told, .ref h_reader, .int v_faultNumber, .int v_faultPlace, .ref h_chosen, .ref h_tried, .ref h_byHand, .ref h_coming, .ref h_ends, .ref h_heaps, .ref h_yard, .int v_costOfKilogram])), (h_told, .inr (2, [.int v_told_units, .ref h_told_settings, .ref h_told_yesLeads, .ref h_told_noLeads, .ref h_told_percents, .ref h_told_grades, .ref h_told_gradeKinds, .ref h_told_gradePurities, .ref h_told_gradePrices])), (h_told_settings, .inl (cI, 5, .inl a_told_settings))] sz)) 0 0 (va_A [(h_t, .inr (6, [.ref h_told, .ref h_reader, .int v_faultNumber, .int v_faultPlace, .ref h_chosen, .ref h_tried, .ref h_byHand, .ref h_coming, .ref h_ends, .ref h_heaps, .ref h_yard, .int v_costOfKilogram])), (h_told, .inr (2, [.int v_told_units, .ref h_told_settings, .ref h_told_yesLeads, .ref h_told_noLeads, .ref h_told_percents, .ref h_told_grades, .ref h_told_gradeKinds, .ref h_told_gradePurities, .ref h_told_gradePrices])), (h_told_settings, .inl (cI, 5, .inl a_told_settings))] sz) := by
  obtain ⟨O, hF⟩ : ∃ O, FX6_isSetting n v_told_units a_told_settings z1 z2 = O := ⟨_, rfl⟩
  rw [hF] at hN ⊢
  refine enterZ (cc := cX6_isSetting) (nL := 3) (by decide) (Nat.le_of_ble_eq_true rfl) ?_
  intro p e s m below meth c A Q X hA hE hnm hsz hP hD hS hret ls hl
  obtain ⟨hx, hb, hml, hown0, ha⟩ := id X
  have hown : s.vm.findClass RX6 = some m.cls := hown0
  have hK := hE.1
  have hl : lv_has ls 3 [(0, .ref h_t), (1, .int z1), (2, .int z2)] := hl
  have hX : CallFix p m c cX6_isSetting 3 s ([.ref h_t, .int z1, .int z2] : List Value).toArray AL RX6 := X
  have X := hX
  unfold FX6_isSetting at hF
  obtain ⟨H, hH⟩ : ∃ H, H = s.heap := ⟨_, rfl⟩
  obtain ⟨locs, hlo⟩ : ∃ locs : List Loc, locs = [] := ⟨_, rfl⟩
  have hS : va_S A s.heap H locs := by rw [hH, hlo]; exact hS
  rw [← hH] at hP
  have goal : W p l e rmX6_isSetting s m ([.ref h_t, .int z1, .int z2] : List Value).toArray below meth c H locs 0 0 Q (F0 m 0 ls []) := by
    refine lv_aload_n hx hb dX6_isSetting_0 rfl (lv_at hl 0 rfl) ?_
    refine lv_iload_n hx hb dX6_isSetting_1 rfl (lv_at hl 1 rfl) ?_
    have hn_1 := bdN hN hF
    refine callVZ (As := [.int z1]) (rest := []) (wr := [(h_told_settings, .inl (cI, 5, .inl a_told_settings))]) (W2 := fun u_2 => [(h_t, .inr (6, [.ref h_told, .ref h_reader, .int v_faultNumber, .int v_faultPlace, .ref h_chosen, .ref h_tried, .ref h_byHand, .ref h_coming, .ref h_ends, .ref h_heaps, .ref h_yard, .int v_costOfKilogram])), (h_told, .inr (2, [.int v_told_units, .ref h_told_settings, .ref h_told_yesLeads, .ref h_told_noLeads, .ref h_told_percents, .ref h_told_grades, .ref h_told_gradeKinds, .ref h_told_gradePurities, .ref h_told_gradePrices])), (h_told_settings, .inl (cI, 5, .inl a_told_settings))]) X hE hP hD hS hA (kX6_isUnit l D cB cI cJ cZ rz n H.size h_t h_told h_reader h_chosen h_tried h_byHand h_coming h_ends h_heaps h_yard h_told_settings h_told_yesLeads h_told_noLeads h_told_percents h_told_grades h_told_gradeKinds h_told_gradePurities h_told_gradePrices v_faultNumber v_faultPlace v_costOfKilogram v_told_units z1 hn_1) w_2_159 w_2_161 ws_23 w_1_1 w_2_162 cb_X6_isUnit rfl rfl ⟨Nat.le_of_ble_eq_true rfl, Nat.le_of_ble_eq_true rfl⟩ rfl hl.1 rfl (Nat.le_of_ble_eq_true rfl) dX6_isSetting_2 ⟨Nat.le_of_ble_eq_true rfl, Nat.le_of_ble_eq_true rfl⟩ (c2 := 0) (s2 := 0) rfl rfl (k0 := 0) rfl rfl [0, 1] [2] [1, 2, 0] rfl rfl (by decide) (by decide) (by decide) (by decide) (fun _ => rfl) (fun u_2 H locs hG hzu_2 hP hD hS => ?_)
    replace hF := bdQ hG hF
    refine lv_if_eq (tgt := 29) hx hb dX6_isSetting_5 (by decide) (fun c_3 => ?_) (fun c_3 => ?_)
    · replace hF := ifT c_3 hF
      refine lv_iconst (v := 0) hx hb dX6_isSetting_29 (by decide) ?_
      exact hret ((0 : Int32), ()) H locs ls _ hF nz0 hP hD hS dX6_isSetting_30
    · replace hF := ifF c_3 hF
      refine lv_iload_n hx hb dX6_isSetting_8 rfl (lv_at hl 2 rfl) ?_
      refine lv_if_lt (tgt := 29) hx hb dX6_isSetting_9 (by decide) (fun c_4 => ?_) (fun c_4 => ?_)
      · replace hF := ifT c_4 hF
        refine lv_iconst (v := 0) hx hb dX6_isSetting_29 (by decide) ?_
        exact hret ((0 : Int32), ()) H locs ls _ hF nz0 hP hD hS dX6_isSetting_30
      · replace hF := ifF c_4 hF
        refine lv_iload_n hx hb dX6_isSetting_12 rfl (lv_at hl 2 rfl) ?_
        refine lv_aload_n hx hb dX6_isSetting_13 rfl (lv_at hl 0 rfl) ?_
        refine va_get (D := D) (ci := 6) (C := RX6) (T := TX6) (N := 12) hx hb ha inAX6 hown hK hP 0 rfl rfl 0 (by decide) (ha _ w_1_234) (fun _ h9 => h9) rfl dX6_isSetting_14 ?_
        refine va_getN (D := D) (ci := 2) (C := RX2) (T := TX2) (N := 9) hx hb ha inAX2 hown hK hP 1 rfl rfl 1 (by decide) (va_Nw.use rfl (hE.2.1 _ w_1_32)) (fun _ h9 => h9) rfl dX6_isSetting_17 ?_
        refine lv_iload_n hx hb dX6_isSetting_20 rfl (lv_at hl 1 rfl) ?_
        replace hF := ckP hN hF
        obtain ⟨c_5, hF⟩ := hF
        refine ld_i hx hb hK hP 2 rfl c_5 dX6_isSetting_21 ?_
        refine lv_icmp_ge (tgt := 29) hx hb dX6_isSetting_22 (by decide) (fun c_6 => ?_) (fun c_6 => ?_)
        · replace hF := ifT c_6 hF
          refine lv_iconst (v := 0) hx hb dX6_isSetting_29 (by decide) ?_
          exact hret ((0 : Int32), ()) H locs ls _ hF nz0 hP hD hS dX6_isSetting_30
        · replace hF := ifF c_6 hF
          refine lv_iconst (v := 1) hx hb dX6_isSetting_25 (by decide) ?_
          refine lv_goto (tgt := 30) hx hb dX6_isSetting_26 (by decide) ?_
          exact hret ((1 : Int32), ()) H locs ls _ hF nz1 hP hD hS dX6_isSetting_30
  rw [hH, hlo] at goal
  exact goal
theorem dX6_isKind_0 : decode cX6_isKind 0 = .ok (.iload_n 0, 1) := by decide +kernel
theorem dX6_isKind_1 : decode cX6_isKind 1 = .ok (.ifCond .lt 12, 3) := by decide +kernel
theorem dX6_isKind_4 : decode cX6_isKind 4 = .ok (.iload_n 0, 1) := by decide +kernel
theorem dX6_isKind_5 : decode cX6_isKind 5 = .ok (.iconst 5, 1) := by decide +kernel
theorem dX6_isKind_6 : decode cX6_isKind 6 = .ok (.if_icmp .ge 7, 3) := by decide +kernel
theorem dX6_isKind_9 : decode cX6_isKind 9 = .ok (.iconst 1, 1) := by decide +kernel
theorem dX6_isKind_10 : decode cX6_isKind 10 = .ok (.goto 4, 3) := by decide +kernel
theorem dX6_isKind_13 : decode cX6_isKind 13 = .ok (.iconst 0, 1) := by decide +kernel
theorem dX6_isKind_14 : decode cX6_isKind 14 = .ok (.ireturn, 1) := by decide +kernel
abbrev rmX6_isKind : Room := { frames := 0, cells := 0, slots := 0, locals := 0 }
theorem cb_X6_isKind : CBn yX6_isKind 1 := ⟨by decide +kernel, by decide +kernel, by decide +kernel⟩
def FX6_isKind (n : Nat) (z0 : Int32) : Option (Int32 × Unit) := if z0 < 0 then (some ((0 : Int32), ())) else (if (5 : Int32) ≤ z0 then (some ((0 : Int32), ())) else (some ((1 : Int32), ())))
set_option maxHeartbeats 4000000 in
set_option maxRecDepth 100000 in
theorem kX6_isKind (l : Launch) (D : va_G) (cB cI cJ cZ : ClassId) (rz n sz : Nat) (z0 : Int32) (hN : FX6_isKind n z0 ≠ none) : Met l yX6_isKind (Cond.code yX6_isKind cX6_isKind 1 (some .boolean) :: AL) rmX6_isKind (PW D cB cI cJ cZ rz [.int z0] [] sz) (QZ D (FX6_isKind n z0) (fun u => []) (va_A [] sz)) 0 0 (va_A [] sz) := by
  obtain ⟨O, hF⟩ : ∃ O, FX6_isKind n z0 = O := ⟨_, rfl⟩
  rw [hF] at hN ⊢
  refine enterZ (cc := cX6_isKind) (nL := 1) (by decide) (Nat.le_of_ble_eq_true rfl) ?_
  intro p e s m below meth c A Q X hA hE hnm hsz hP hD hS hret ls hl
  obtain ⟨hx, hb, hml, hown0, ha⟩ := id X
  have hown : s.vm.findClass RX6 = some m.cls := hown0
  have hK := hE.1
  have hl : lv_has ls 1 [(0, .int z0)] := hl
  have hX : CallFix p m c cX6_isKind 1 s ([.int z0] : List Value).toArray AL RX6 := X
  have X := hX
  unfold FX6_isKind at hF
  obtain ⟨H, hH⟩ : ∃ H, H = s.heap := ⟨_, rfl⟩
  obtain ⟨locs, hlo⟩ : ∃ locs : List Loc, locs = [] := ⟨_, rfl⟩
  have hS : va_S A s.heap H locs := by rw [hH, hlo]; exact hS
  rw [← hH] at hP
  have goal : W p l e rmX6_isKind s m ([.int z0] : List Value).toArray below meth c H locs 0 0 Q (F0 m 0 ls []) := by
    refine lv_iload_n hx hb dX6_isKind_0 rfl (lv_at hl 0 rfl) ?_
    refine lv_if_lt (tgt := 13) hx hb dX6_isKind_1 (by decide) (fun c_1 => ?_) (fun c_1 => ?_)
    · replace hF := ifT c_1 hF
      refine lv_iconst (v := 0) hx hb dX6_isKind_13 (by decide) ?_
      exact hret ((0 : Int32), ()) H locs ls _ hF nz0 hP hD hS dX6_isKind_14
    · replace hF := ifF c_1 hF
      refine lv_iload_n hx hb dX6_isKind_4 rfl (lv_at hl 0 rfl) ?_
      refine lv_iconst (v := 5) hx hb dX6_isKind_5 (by decide) ?_
      refine lv_icmp_ge (tgt := 13) hx hb dX6_isKind_6 (by decide) (fun c_2 => ?_) (fun c_2 => ?_)
      · replace hF := ifT c_2 hF
        refine lv_iconst (v := 0) hx hb dX6_isKind_13 (by decide) ?_
        exact hret ((0 : Int32), ()) H locs ls _ hF nz0 hP hD hS dX6_isKind_14
      · replace hF := ifF c_2 hF
        refine lv_iconst (v := 1) hx hb dX6_isKind_9 (by decide) ?_
        refine lv_goto (tgt := 14) hx hb dX6_isKind_10 (by decide) ?_
        exact hret ((1 : Int32), ()) H locs ls _ hF nz1 hP hD hS dX6_isKind_14
  rw [hH, hlo] at goal
  exact goal
theorem dX6_setting_0 : decode cX6_setting 0 = .ok (.aload_n 0, 1) := by decide +kernel
theorem dX6_setting_1 : decode cX6_setting 1 = .ok (.iload_n 1, 1) := by decide +kernel
theorem dX6_setting_2 : decode cX6_setting 2 = .ok (.iload_n 2, 1) := by decide +kernel
theorem dX6_setting_3 : decode cX6_setting 3 = .ok (.invokevirtual 112, 3) := by decide +kernel
theorem dX6_setting_6 : decode cX6_setting 6 = .ok (.ifCond .eq 10, 3) := by decide +kernel
theorem dX6_setting_9 : decode cX6_setting 9 = .ok (.iload_n 3, 1) := by decide +kernel
theorem dX6_setting_10 : decode cX6_setting 10 = .ok (.invokestatic 116, 3) := by decide +kernel
theorem dX6_setting_13 : decode cX6_setting 13 = .ok (.ifCond .ne 5, 3) := by decide +kernel
theorem dX6_setting_16 : decode cX6_setting 16 = .ok (.iconst (-1), 1) := by decide +kernel
theorem dX6_setting_17 : decode cX6_setting 17 = .ok (.ireturn, 1) := by decide +kernel
theorem dX6_setting_18 : decode cX6_setting 18 = .ok (.aload_n 0, 1) := by decide +kernel
theorem dX6_setting_19 : decode cX6_setting 19 = .ok (.getfield 10, 3) := by decide +kernel
theorem dX6_setting_22 : decode cX6_setting 22 = .ok (.iload_n 1, 1) := by decide +kernel
theorem dX6_setting_23 : decode cX6_setting 23 = .ok (.iload_n 2, 1) := by decide +kernel
theorem dX6_setting_24 : decode cX6_setting 24 = .ok (.iload_n 3, 1) := by decide +kernel
theorem dX6_setting_25 : decode cX6_setting 25 = .ok (.invokevirtual 119, 3) := by decide +kernel
theorem dX6_setting_28 : decode cX6_setting 28 = .ok (.ireturn, 1) := by decide +kernel
abbrev rmX6_setting : Room := { frames := 2, cells := 0, slots := 0, locals := 43 }
theorem cb_X6_setting : CBn yX6_setting 3 := ⟨by decide +kernel, by decide +kernel, by decide +kernel⟩
def FX6_setting (n : Nat) (v_told_units : Int32) (a_told_settings : Nat → Int32) (a_told_percents : Nat → Int32) (z1 : Int32) (z2 : Int32) (z3 : Int32) : Option (Int32 × Unit) := bd (FX6_isSetting n v_told_units a_told_settings z1 z2) (fun u_2 => if u_2.1 = 0 then (some ((-1 : Int32), ())) else (bd (FX6_isKind n z3) (fun u_5 => if u_5.1 = 0 then (some ((-1 : Int32), ())) else (bd (FX2_byYes n a_told_percents z1 z2 z3) (fun u_8 => some (u_8.1, ()))))))
set_option maxHeartbeats 4000000 in
set_option maxRecDepth 100000 in
theorem kX6_setting (l : Launch) (D : va_G) (cB cI cJ cZ : ClassId) (rz n sz : Nat) (h_t : Nat) (h_told : Nat) (h_told_settings : Nat) (h_told_percents : Nat) (h_reader : Nat) (h_chosen : Nat) (h_tried : Nat) (h_byHand : Nat) (h_coming : Nat) (h_ends : Nat) (h_heaps : Nat) (h_yard : Nat) (h_told_yesLeads : Nat) (h_told_noLeads : Nat) (h_told_grades : Nat) (h_told_gradeKinds : Nat) (h_told_gradePurities : Nat) (h_told_gradePrices : Nat) (v_faultNumber : Int32) (v_faultPlace : Int32) (v_costOfKilogram : Int32) (v_told_units : Int32) (a_told_settings : Nat → Int32) (a_told_percents : Nat → Int32) (z1 : Int32) (z2 : Int32) (z3 : Int32) (hN : FX6_setting n v_told_units a_told_settings a_told_percents z1 z2 z3 ≠ none) : Met l yX6_setting (Cond.code yX6_setting cX6_setting 4 (some .int) :: AL) rmX6_setting (PW D cB cI cJ cZ rz [.ref h_t, .int z1, .int z2, .int z3] [(h_t, .inr (6, [.ref h_told, .ref h_reader, .int v_faultNumber, .int v_faultPlace, .ref h_chosen, .ref h_tried, .ref h_byHand, .ref h_coming, .ref h_ends, .ref h_heaps, .ref h_yard, .int v_costOfKilogram])), (h_told, .inr (2, [.int v_told_units, .ref h_told_settings, .ref h_told_yesLeads, .ref h_told_noLeads, .ref h_told_percents, .ref h_told_grades, .ref h_told_gradeKinds, .ref h_told_gradePurities, .ref h_told_gradePrices])), (h_told_settings, .inl (cI, 5, .inl a_told_settings)), (h_told_percents, .inl (cI, 75, .inl a_told_percents))] sz) (QI D (FX6_setting n v_told_units a_told_settings a_told_percents z1 z2 z3) (fun u => [(h_t, .inr (6, [.ref h_told, .ref h_reader, .int v_faultNumber, .int v_faultPlace, .ref h_chosen, .ref h_tried, .ref h_byHand, .ref h_coming, .ref h_ends, .ref h_heaps, .ref h_yard, .int v_costOfKilogram])), (h_told, .inr (2, [.int v_told_units, .ref h_told_settings, .ref h_told_yesLeads, .ref h_told_noLeads, .ref h_told_percents, .ref h_told_grades, .ref h_told_gradeKinds, .ref h_told_gradePurities, .ref h_told_gradePrices])), (h_told_settings, .inl (cI, 5, .inl a_told_settings)), (h_told_percents, .inl (cI, 75, .inl a_told_percents))]) (va_A [(h_t, .inr (6, [.ref h_told, .ref h_reader, .int v_faultNumber, .int v_faultPlace, .ref h_chosen, .ref h_tried, .ref h_byHand, .ref h_coming, .ref h_ends, .ref h_heaps, .ref h_yard, .int v_costOfKilogram])), (h_told, .inr (2, [.int v_told_units, .ref h_told_settings, .ref h_told_yesLeads, .ref h_told_noLeads, .ref h_told_percents, .ref h_told_grades, .ref h_told_gradeKinds, .ref h_told_gradePurities, .ref h_told_gradePrices])), (h_told_settings, .inl (cI, 5, .inl a_told_settings)), (h_told_percents, .inl (cI, 75, .inl a_told_percents))] sz)) 0 0 (va_A [(h_t, .inr (6, [.ref h_told, .ref h_reader, .int v_faultNumber, .int v_faultPlace, .ref h_chosen, .ref h_tried, .ref h_byHand, .ref h_coming, .ref h_ends, .ref h_heaps, .ref h_yard, .int v_costOfKilogram])), (h_told, .inr (2, [.int v_told_units, .ref h_told_settings, .ref h_told_yesLeads, .ref h_told_noLeads, .ref h_told_percents, .ref h_told_grades, .ref h_told_gradeKinds, .ref h_told_gradePurities, .ref h_told_gradePrices])), (h_told_settings, .inl (cI, 5, .inl a_told_settings)), (h_told_percents, .inl (cI, 75, .inl a_told_percents))] sz) := by
  obtain ⟨O, hF⟩ : ∃ O, FX6_setting n v_told_units a_told_settings a_told_percents z1 z2 z3 = O := ⟨_, rfl⟩
  rw [hF] at hN ⊢
  refine enterI (cc := cX6_setting) (nL := 4) (by decide) (Nat.le_of_ble_eq_true rfl) ?_
  intro p e s m below meth c A Q X hA hE hnm hsz hP hD hS hret ls hl
  obtain ⟨hx, hb, hml, hown0, ha⟩ := id X
  have hown : s.vm.findClass RX6 = some m.cls := hown0
  have hK := hE.1
  have hl : lv_has ls 4 [(0, .ref h_t), (1, .int z1), (2, .int z2), (3, .int z3)] := hl
  have hX : CallFix p m c cX6_setting 4 s ([.ref h_t, .int z1, .int z2, .int z3] : List Value).toArray AL RX6 := X
  have X := hX
  unfold FX6_setting at hF
  obtain ⟨H, hH⟩ : ∃ H, H = s.heap := ⟨_, rfl⟩
  obtain ⟨locs, hlo⟩ : ∃ locs : List Loc, locs = [] := ⟨_, rfl⟩
  have hS : va_S A s.heap H locs := by rw [hH, hlo]; exact hS
  rw [← hH] at hP
  have goal : W p l e rmX6_setting s m ([.ref h_t, .int z1, .int z2, .int z3] : List Value).toArray below meth c H locs 0 0 Q (F0 m 0 ls []) := by
    refine lv_aload_n hx hb dX6_setting_0 rfl (lv_at hl 0 rfl) ?_
    refine lv_iload_n hx hb dX6_setting_1 rfl (lv_at hl 1 rfl) ?_
    refine lv_iload_n hx hb dX6_setting_2 rfl (lv_at hl 2 rfl) ?_
    have hn_1 := bdN hN hF
    refine callVZ (As := [.int z1, .int z2]) (rest := []) (wr := [(h_told_percents, .inl (cI, 75, .inl a_told_percents))]) (W2 := fun u_2 => [(h_t, .inr (6, [.ref h_told, .ref h_reader, .int v_faultNumber, .int v_faultPlace, .ref h_chosen, .ref h_tried, .ref h_byHand, .ref h_coming, .ref h_ends, .ref h_heaps, .ref h_yard, .int v_costOfKilogram])), (h_told, .inr (2, [.int v_told_units, .ref h_told_settings, .ref h_told_yesLeads, .ref h_told_noLeads, .ref h_told_percents, .ref h_told_grades, .ref h_told_gradeKinds, .ref h_told_gradePurities, .ref h_told_gradePrices])), (h_told_settings, .inl (cI, 5, .inl a_told_settings)), (h_told_percents, .inl (cI, 75, .inl a_told_percents))]) X hE hP hD hS hA (kX6_isSetting l D cB cI cJ cZ rz n H.size h_t h_told h_told_settings h_reader h_chosen h_tried h_byHand h_coming h_ends h_heaps h_yard h_told_yesLeads h_told_noLeads h_told_percents h_told_grades h_told_gradeKinds h_told_gradePurities h_told_gradePrices v_faultNumber v_faultPlace v_costOfKilogram v_told_units a_told_settings z1 z2 hn_1) w_2_167 w_2_169 ws_24 w_1_1 w_2_170 cb_X6_isSetting rfl rfl ⟨Nat.le_of_ble_eq_true rfl, Nat.le_of_ble_eq_true rfl⟩ rfl hl.1 rfl (Nat.le_of_ble_eq_true rfl) dX6_setting_3 ⟨Nat.le_of_ble_eq_true rfl, Nat.le_of_ble_eq_true rfl⟩ (c2 := 0) (s2 := 0) rfl rfl (k0 := 0) rfl rfl [0, 1, 2] [3] [1, 2, 3, 0] rfl rfl (by decide) (by decide) (by decide) (by decide) (fun _ => rfl) (fun u_2 H locs hG hzu_2 hP hD hS => ?_)
    replace hF := bdQ hG hF
    refine lv_if_eq (tgt := 16) hx hb dX6_setting_6 (by decide) (fun c_3 => ?_) (fun c_3 => ?_)
    · replace hF := ifT c_3 hF
      refine lv_iconst (v := -1) hx hb dX6_setting_16 (by decide) ?_
      exact hret ((-1 : Int32), ()) H locs ls _ hF hP hD hS dX6_setting_17
    · replace hF := ifF c_3 hF
      refine lv_iload_n hx hb dX6_setting_9 rfl (lv_at hl 3 rfl) ?_
      have hn_4 := bdN hN hF
      refine callSZ (As := [.int z3]) (rest := []) (wr := [(h_t, .inr (6, [.ref h_told, .ref h_reader, .int v_faultNumber, .int v_faultPlace, .ref h_chosen, .ref h_tried, .ref h_byHand, .ref h_coming, .ref h_ends, .ref h_heaps, .ref h_yard, .int v_costOfKilogram])), (h_told, .inr (2, [.int v_told_units, .ref h_told_settings, .ref h_told_yesLeads, .ref h_told_noLeads, .ref h_told_percents, .ref h_told_grades, .ref h_told_gradeKinds, .ref h_told_gradePurities, .ref h_told_gradePrices])), (h_told_settings, .inl (cI, 5, .inl a_told_settings)), (h_told_percents, .inl (cI, 75, .inl a_told_percents))]) (W2 := fun u_5 => [(h_t, .inr (6, [.ref h_told, .ref h_reader, .int v_faultNumber, .int v_faultPlace, .ref h_chosen, .ref h_tried, .ref h_byHand, .ref h_coming, .ref h_ends, .ref h_heaps, .ref h_yard, .int v_costOfKilogram])), (h_told, .inr (2, [.int v_told_units, .ref h_told_settings, .ref h_told_yesLeads, .ref h_told_noLeads, .ref h_told_percents, .ref h_told_grades, .ref h_told_gradeKinds, .ref h_told_gradePurities, .ref h_told_gradePrices])), (h_told_settings, .inl (cI, 5, .inl a_told_settings)), (h_told_percents, .inl (cI, 75, .inl a_told_percents))]) X hE hP hD hS hA (kX6_isKind l D cB cI cJ cZ rz n H.size z3 hn_4) w_2_171 w_2_172 w_1_1 w_2_173 cb_X6_isKind rfl rfl ⟨Nat.le_of_ble_eq_true rfl, Nat.le_of_ble_eq_true rfl⟩ rfl hl.1 rfl (Nat.le_of_ble_eq_true rfl) dX6_setting_10 ⟨Nat.le_of_ble_eq_true rfl, Nat.le_of_ble_eq_true rfl⟩ (c2 := 0) (s2 := 0) rfl rfl [] [0, 1, 2, 3] [0, 1, 2, 3] rfl rfl (by decide) (by decide) (by decide) (by decide) (fun _ => rfl) (fun u_5 H locs hG hzu_5 hP hD hS => ?_)
      replace hF := bdQ hG hF
      refine lv_if_ne (tgt := 18) hx hb dX6_setting_13 (by decide) (fun c_6 => ?_) (fun c_6 => ?_)
      · replace hF := ifF c_6 hF
        refine lv_aload_n hx hb dX6_setting_18 rfl (lv_at hl 0 rfl) ?_
        refine va_get (D := D) (ci := 6) (C := RX6) (T := TX6) (N := 12) hx hb ha inAX6 hown hK hP 0 rfl rfl 0 (by decide) (ha _ w_1_234) (fun _ h9 => h9) rfl dX6_setting_19 ?_
        refine lv_iload_n hx hb dX6_setting_22 rfl (lv_at hl 1 rfl) ?_
        refine lv_iload_n hx hb dX6_setting_23 rfl (lv_at hl 2 rfl) ?_
        refine lv_iload_n hx hb dX6_setting_24 rfl (lv_at hl 3 rfl) ?_
        have hn_7 := bdN hN hF
        refine callVNI (As := [.int z1, .int z2, .int z3]) (rest := []) (wr := [(h_t, .inr (6, [.ref h_told, .ref h_reader, .int v_faultNumber, .int v_faultPlace, .ref h_chosen, .ref h_tried, .ref h_byHand, .ref h_coming, .ref h_ends, .ref h_heaps, .ref h_yard, .int v_costOfKilogram])), (h_told_settings, .inl (cI, 5, .inl a_told_settings))]) (W2 := fun u_8 => [(h_t, .inr (6, [.ref h_told, .ref h_reader, .int v_faultNumber, .int v_faultPlace, .ref h_chosen, .ref h_tried, .ref h_byHand, .ref h_coming, .ref h_ends, .ref h_heaps, .ref h_yard, .int v_costOfKilogram])), (h_told, .inr (2, [.int v_told_units, .ref h_told_settings, .ref h_told_yesLeads, .ref h_told_noLeads, .ref h_told_percents, .ref h_told_grades, .ref h_told_gradeKinds, .ref h_told_gradePurities, .ref h_told_gradePrices])), (h_told_settings, .inl (cI, 5, .inl a_told_settings)), (h_told_percents, .inl (cI, 75, .inl a_told_percents))]) X hE hP hD hS hA (kX2_byYes l D cB cI cJ cZ rz n H.size h_told h_told_percents h_told_settings h_told_yesLeads h_told_noLeads h_told_grades h_told_gradeKinds h_told_gradePurities h_told_gradePrices v_told_units a_told_percents z1 z2 z3 hn_7) w_2_174 w_2_176 ws_25 w_1_2 w_2_177 cb_X2_byYes rfl rfl ⟨Nat.le_of_ble_eq_true rfl, Nat.le_of_ble_eq_true rfl⟩ rfl hl.1 rfl (Nat.le_of_ble_eq_true rfl) dX6_setting_25 ⟨Nat.le_of_ble_eq_true rfl, Nat.le_of_ble_eq_true rfl⟩ (c2 := 0) (s2 := 0) rfl rfl (k0 := 1) rfl rfl [1, 3] [0, 2] [0, 2, 1, 3] rfl rfl (by decide) (by decide) (by decide) (by decide) (fun _ => rfl) (fun u_8 H locs hG hP hD hS => ?_)
        replace hF := bdQ hG hF
        exact hret (u_8.1, ()) H locs ls _ hF hP hD hS dX6_setting_28
      · replace hF := ifT c_6 hF
        refine lv_iconst (v := -1) hx hb dX6_setting_16 (by decide) ?_
        exact hret ((-1 : Int32), ()) H locs ls _ hF hP hD hS dX6_setting_17
  rw [hH, hlo] at goal
  exact goal
theorem dX6_choose_0 : decode cX6_choose 0 = .ok (.aload_n 0, 1) := by decide +kernel
theorem dX6_choose_1 : decode cX6_choose 1 = .ok (.iload_n 1, 1) := by decide +kernel
theorem dX6_choose_2 : decode cX6_choose 2 = .ok (.iload_n 2, 1) := by decide +kernel
theorem dX6_choose_3 : decode cX6_choose 3 = .ok (.invokevirtual 112, 3) := by decide +kernel
theorem dX6_choose_6 : decode cX6_choose 6 = .ok (.ifCond .ne 5, 3) := by decide +kernel
theorem dX6_choose_9 : decode cX6_choose 9 = .ok (.iconst 0, 1) := by decide +kernel
theorem dX6_choose_10 : decode cX6_choose 10 = .ok (.ireturn, 1) := by decide +kernel
theorem dX6_choose_11 : decode cX6_choose 11 = .ok (.aload_n 0, 1) := by decide +kernel
theorem dX6_choose_12 : decode cX6_choose 12 = .ok (.getfield 27, 3) := by decide +kernel
theorem dX6_choose_15 : decode cX6_choose 15 = .ok (.iload_n 1, 1) := by decide +kernel
theorem dX6_choose_16 : decode cX6_choose 16 = .ok (.iload_n 2, 1) := by decide +kernel
theorem dX6_choose_17 : decode cX6_choose 17 = .ok (.iastore, 1) := by decide +kernel
theorem dX6_choose_18 : decode cX6_choose 18 = .ok (.iconst 1, 1) := by decide +kernel
theorem dX6_choose_19 : decode cX6_choose 19 = .ok (.ireturn, 1) := by decide +kernel
abbrev rmX6_choose : Room := { frames := 2, cells := 0, slots := 0, locals := 43 }
theorem cb_X6_choose : CBn yX6_choose 2 := ⟨by decide +kernel, by decide +kernel, by decide +kernel⟩
def FX6_choose (n : Nat) (v_told_units : Int32) (a_told_settings : Nat → Int32) (a_chosen : Nat → Int32) (z1 : Int32) (z2 : Int32) : Option (Int32 × (Nat → Int32)) := bd (FX6_isSetting n v_told_units a_told_settings z1 z2) (fun u_2 => if u_2.1 = 0 then (some ((0 : Int32), a_chosen)) else (if ¬ (z1 < 0 ∨ 5 ≤ (z1).toNatClampNeg) then (lt1 (upd a_chosen (z1).toNatClampNeg z2) (fun f_5 => some ((1 : Int32), f_5))) else none))
set_option maxHeartbeats 4000000 in
set_option maxRecDepth 100000 in
theorem kX6_choose (l : Launch) (D : va_G) (cB cI cJ cZ : ClassId) (rz n sz : Nat) (h_t : Nat) (h_told : Nat) (h_told_settings : Nat) (h_chosen : Nat) (h_reader : Nat) (h_tried : Nat) (h_byHand : Nat) (h_coming : Nat) (h_ends : Nat) (h_heaps : Nat) (h_yard : Nat) (h_told_yesLeads : Nat) (h_told_noLeads : Nat) (h_told_percents : Nat) (h_told_grades : Nat) (h_told_gradeKinds : Nat) (h_told_gradePurities : Nat) (h_told_gradePrices : Nat) (v_faultNumber : Int32) (v_faultPlace : Int32) (v_costOfKilogram : Int32) (v_told_units : Int32) (a_told_settings : Nat → Int32) (a_chosen : Nat → Int32) (z1 : Int32) (z2 : Int32) (hN : FX6_choose n v_told_units a_told_settings a_chosen z1 z2 ≠ none) : Met l yX6_choose (Cond.code yX6_choose cX6_choose 3 (some .boolean) :: AL) rmX6_choose (PW D cB cI cJ cZ rz [.ref h_t, .int z1, .int z2] [(h_t, .inr (6, [.ref h_told, .ref h_reader, .int v_faultNumber, .int v_faultPlace, .ref h_chosen, .ref h_tried, .ref h_byHand, .ref h_coming, .ref h_ends, .ref h_heaps, .ref h_yard, .int v_costOfKilogram])), (h_told, .inr (2, [.int v_told_units, .ref h_told_settings, .ref h_told_yesLeads, .ref h_told_noLeads, .ref h_told_percents, .ref h_told_grades, .ref h_told_gradeKinds, .ref h_told_gradePurities, .ref h_told_gradePrices])), (h_told_settings, .inl (cI, 5, .inl a_told_settings)), (h_chosen, .inl (cI, 5, .inl a_chosen))] sz) (QZ D (FX6_choose n v_told_units a_told_settings a_chosen z1 z2) (fun u => [(h_t, .inr (6, [.ref h_told, .ref h_reader, .int v_faultNumber, .int v_faultPlace, .ref h_chosen, .ref h_tried, .ref h_byHand, .ref h_coming, .ref h_ends, .ref h_heaps, .ref h_yard, .int v_costOfKilogram])), (h_told, .inr (2, [.int v_told_units, .ref h_told_settings, .ref h_told_yesLeads, .ref h_told_noLeads, .ref h_told_percents, .ref h_told_grades, .ref h_told_gradeKinds, .ref h_told_gradePurities, .ref h_told_gradePrices])), (h_told_settings, .inl (cI, 5, .inl a_told_settings)), (h_chosen, .inl (cI, 5, .inl u.2))]) (va_A [(h_t, .inr (6, [.ref h_told, .ref h_reader, .int v_faultNumber, .int v_faultPlace, .ref h_chosen, .ref h_tried, .ref h_byHand, .ref h_coming, .ref h_ends, .ref h_heaps, .ref h_yard, .int v_costOfKilogram])), (h_told, .inr (2, [.int v_told_units, .ref h_told_settings, .ref h_told_yesLeads, .ref h_told_noLeads, .ref h_told_percents, .ref h_told_grades, .ref h_told_gradeKinds, .ref h_told_gradePurities, .ref h_told_gradePrices])), (h_told_settings, .inl (cI, 5, .inl a_told_settings)), (h_chosen, .inl (cI, 5, .inl a_chosen))] sz)) 0 0 (va_A [(h_t, .inr (6, [.ref h_told, .ref h_reader, .int v_faultNumber, .int v_faultPlace, .ref h_chosen, .ref h_tried, .ref h_byHand, .ref h_coming, .ref h_ends, .ref h_heaps, .ref h_yard, .int v_costOfKilogram])), (h_told, .inr (2, [.int v_told_units, .ref h_told_settings, .ref h_told_yesLeads, .ref h_told_noLeads, .ref h_told_percents, .ref h_told_grades, .ref h_told_gradeKinds, .ref h_told_gradePurities, .ref h_told_gradePrices])), (h_told_settings, .inl (cI, 5, .inl a_told_settings)), (h_chosen, .inl (cI, 5, .inl a_chosen))] sz) := by
  obtain ⟨O, hF⟩ : ∃ O, FX6_choose n v_told_units a_told_settings a_chosen z1 z2 = O := ⟨_, rfl⟩
  rw [hF] at hN ⊢
  refine enterZ (cc := cX6_choose) (nL := 3) (by decide) (Nat.le_of_ble_eq_true rfl) ?_
  intro p e s m below meth c A Q X hA hE hnm hsz hP hD hS hret ls hl
  obtain ⟨hx, hb, hml, hown0, ha⟩ := id X
  have hown : s.vm.findClass RX6 = some m.cls := hown0
  have hK := hE.1
  have hl : lv_has ls 3 [(0, .ref h_t), (1, .int z1), (2, .int z2)] := hl
  have hX : CallFix p m c cX6_choose 3 s ([.ref h_t, .int z1, .int z2] : List Value).toArray AL RX6 := X
  have X := hX
  unfold FX6_choose at hF
  obtain ⟨H, hH⟩ : ∃ H, H = s.heap := ⟨_, rfl⟩
  obtain ⟨locs, hlo⟩ : ∃ locs : List Loc, locs = [] := ⟨_, rfl⟩
  have hS : va_S A s.heap H locs := by rw [hH, hlo]; exact hS
  rw [← hH] at hP
  have goal : W p l e rmX6_choose s m ([.ref h_t, .int z1, .int z2] : List Value).toArray below meth c H locs 0 0 Q (F0 m 0 ls []) := by
    refine lv_aload_n hx hb dX6_choose_0 rfl (lv_at hl 0 rfl) ?_
    refine lv_iload_n hx hb dX6_choose_1 rfl (lv_at hl 1 rfl) ?_
    refine lv_iload_n hx hb dX6_choose_2 rfl (lv_at hl 2 rfl) ?_
    have hn_1 := bdN hN hF
    refine callVZ (As := [.int z1, .int z2]) (rest := []) (wr := [(h_chosen, .inl (cI, 5, .inl a_chosen))]) (W2 := fun u_2 => [(h_t, .inr (6, [.ref h_told, .ref h_reader, .int v_faultNumber, .int v_faultPlace, .ref h_chosen, .ref h_tried, .ref h_byHand, .ref h_coming, .ref h_ends, .ref h_heaps, .ref h_yard, .int v_costOfKilogram])), (h_told, .inr (2, [.int v_told_units, .ref h_told_settings, .ref h_told_yesLeads, .ref h_told_noLeads, .ref h_told_percents, .ref h_told_grades, .ref h_told_gradeKinds, .ref h_told_gradePurities, .ref h_told_gradePrices])), (h_told_settings, .inl (cI, 5, .inl a_told_settings)), (h_chosen, .inl (cI, 5, .inl a_chosen))]) X hE hP hD hS hA (kX6_isSetting l D cB cI cJ cZ rz n H.size h_t h_told h_told_settings h_reader h_chosen h_tried h_byHand h_coming h_ends h_heaps h_yard h_told_yesLeads h_told_noLeads h_told_percents h_told_grades h_told_gradeKinds h_told_gradePurities h_told_gradePrices v_faultNumber v_faultPlace v_costOfKilogram v_told_units a_told_settings z1 z2 hn_1) w_2_167 w_2_169 ws_24 w_1_1 w_2_170 cb_X6_isSetting rfl rfl ⟨Nat.le_of_ble_eq_true rfl, Nat.le_of_ble_eq_true rfl⟩ rfl hl.1 rfl (Nat.le_of_ble_eq_true rfl) dX6_choose_3 ⟨Nat.le_of_ble_eq_true rfl, Nat.le_of_ble_eq_true rfl⟩ (c2 := 0) (s2 := 0) rfl rfl (k0 := 0) rfl rfl [0, 1, 2] [3] [1, 2, 3, 0] rfl rfl (by decide) (by decide) (by decide) (by decide) (fun _ => rfl) (fun u_2 H locs hG hzu_2 hP hD hS => ?_)
    replace hF := bdQ hG hF
    refine lv_if_ne (tgt := 11) hx hb dX6_choose_6 (by decide) (fun c_3 => ?_) (fun c_3 => ?_)
    · replace hF := ifF c_3 hF
      refine lv_aload_n hx hb dX6_choose_11 rfl (lv_at hl 0 rfl) ?_
      refine va_get (D := D) (ci := 6) (C := RX6) (T := TX6) (N := 12) hx hb ha inAX6 hown hK hP 0 rfl rfl 4 (by decide) (ha _ w_1_238) (fun _ h9 => h9) rfl dX6_choose_12 ?_
      refine lv_iload_n hx hb dX6_choose_15 rfl (lv_at hl 1 rfl) ?_
      refine lv_iload_n hx hb dX6_choose_16 rfl (lv_at hl 2 rfl) ?_
      replace hF := ckP hN hF
      obtain ⟨c_4, hF⟩ := hF
      obtain ⟨f_5, ef_5⟩ : ∃ g : Nat → Int32, g = upd a_chosen (z1).toNatClampNeg z2 := ⟨_, rfl⟩
      replace hF := ltP ef_5 hF
      refine st_i (g := f_5) (W2 := [(h_t, .inr (6, [.ref h_told, .ref h_reader, .int v_faultNumber, .int v_faultPlace, .ref h_chosen, .ref h_tried, .ref h_byHand, .ref h_coming, .ref h_ends, .ref h_heaps, .ref h_yard, .int v_costOfKilogram])), (h_told, .inr (2, [.int v_told_units, .ref h_told_settings, .ref h_told_yesLeads, .ref h_told_noLeads, .ref h_told_percents, .ref h_told_grades, .ref h_told_gradeKinds, .ref h_told_gradePurities, .ref h_told_gradePrices])), (h_told_settings, .inl (cI, 5, .inl a_told_settings)), (h_chosen, .inl (cI, 5, .inl f_5))]) hx hb hK hP hD hS 3 rfl c_4 ef_5 dX6_choose_17 rfl (fun H locs hP hD hS => ?_)
      refine lv_iconst (v := 1) hx hb dX6_choose_18 (by decide) ?_
      exact hret ((1 : Int32), f_5) H locs ls _ hF nz1 hP hD hS dX6_choose_19
    · replace hF := ifT c_3 hF
      refine lv_iconst (v := 0) hx hb dX6_choose_9 (by decide) ?_
      exact hret ((0 : Int32), a_chosen) H locs ls _ hF nz0 hP hD hS dX6_choose_10
  rw [hH, hlo] at goal
  exact goal
