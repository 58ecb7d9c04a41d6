theorem dX6_about_0 : decode cX6_about 0 = .ok (.iload_n 1, 1) := by decide +kernel
theorem dX6_about_1 : decode cX6_about 1 = .ok (.tableswitch 63 0 3 #[31, 39, 47, 52], 31) := by decide +kernel
theorem dX6_about_32 : decode cX6_about 32 = .ok (.aload_n 0, 1) := by decide +kernel
theorem dX6_about_33 : decode cX6_about 33 = .ok (.getfield 10, 3) := by decide +kernel
theorem dX6_about_36 : decode cX6_about 36 = .ok (.getfield 96, 3) := by decide +kernel
theorem dX6_about_39 : decode cX6_about 39 = .ok (.ireturn, 1) := by decide +kernel
theorem dX6_about_40 : decode cX6_about 40 = .ok (.aload_n 0, 1) := by decide +kernel
theorem dX6_about_41 : decode cX6_about 41 = .ok (.getfield 57, 3) := by decide +kernel
theorem dX6_about_44 : decode cX6_about 44 = .ok (.getfield 212, 3) := by decide +kernel
theorem dX6_about_47 : decode cX6_about 47 = .ok (.ireturn, 1) := by decide +kernel
theorem dX6_about_48 : decode cX6_about 48 = .ok (.aload_n 0, 1) := by decide +kernel
theorem dX6_about_49 : decode cX6_about 49 = .ok (.getfield 61, 3) := by decide +kernel
theorem dX6_about_52 : decode cX6_about 52 = .ok (.ireturn, 1) := by decide +kernel
theorem dX6_about_53 : decode cX6_about 53 = .ok (.aload_n 0, 1) := by decide +kernel
theorem dX6_about_54 : decode cX6_about 54 = .ok (.getfield 19, 3) := by decide +kernel
theorem dX6_about_57 : decode cX6_about 57 = .ok (.getfield 70, 3) := by decide +kernel
theorem dX6_about_60 : decode cX6_about 60 = .ok (.getfield 74, 3) := by decide +kernel
theorem dX6_about_63 : decode cX6_about 63 = .ok (.ireturn, 1) := by decide +kernel
theorem dX6_about_64 : decode cX6_about 64 = .ok (.iload_n 1, 1) := by decide +kernel
theorem dX6_about_65 : decode cX6_about 65 = .ok (.bipush 10, 2) := by decide +kernel
theorem dX6_about_67 : decode cX6_about 67 = .ok (.if_icmp .lt 22, 3) := by decide +kernel
theorem dX6_about_70 : decode cX6_about 70 = .ok (.iload_n 1, 1) := by decide +kernel
theorem dX6_about_71 : decode cX6_about 71 = .ok (.bipush 14, 2) := by decide +kernel
theorem dX6_about_73 : decode cX6_about 73 = .ok (.if_icmp .ge 16, 3) := by decide +kernel
theorem dX6_about_76 : decode cX6_about 76 = .ok (.aload_n 0, 1) := by decide +kernel
theorem dX6_about_77 : decode cX6_about 77 = .ok (.getfield 10, 3) := by decide +kernel
theorem dX6_about_80 : decode cX6_about 80 = .ok (.getfield 215, 3) := by decide +kernel
theorem dX6_about_83 : decode cX6_about 83 = .ok (.iload_n 1, 1) := by decide +kernel
theorem dX6_about_84 : decode cX6_about 84 = .ok (.bipush 10, 2) := by decide +kernel
theorem dX6_about_86 : decode cX6_about 86 = .ok (.isub, 1) := by decide +kernel
theorem dX6_about_87 : decode cX6_about 87 = .ok (.iaload, 1) := by decide +kernel
theorem dX6_about_88 : decode cX6_about 88 = .ok (.ireturn, 1) := by decide +kernel
theorem dX6_about_89 : decode cX6_about 89 = .ok (.iconst (-1), 1) := by decide +kernel
theorem dX6_about_90 : decode cX6_about 90 = .ok (.ireturn, 1) := by decide +kernel
abbrev rmX6_about : Room := { frames := 0, cells := 0, slots := 0, locals := 0 }
theorem cb_X6_about : CBn yX6_about 1 := ⟨by decide +kernel, by decide +kernel, by decide +kernel⟩
def FX6_about (n : Nat) (v_costOfKilogram : Int32) (v_told_units : Int32) (a_told_grades : Nat → Int32) (v_reader_tape_length : Int32) (v_yard_count : Int32) (z1 : Int32) : Option (Int32 × Unit) := if z1 = (0 : Int32) then (some (v_told_units, ())) else (if z1 = (1 : Int32) then (some (v_yard_count, ())) else (if z1 = (2 : Int32) then (some (v_costOfKilogram, ())) else (if z1 = (3 : Int32) then (some (v_reader_tape_length, ())) else (if z1 < (10 : Int32) then (some ((-1 : Int32), ())) else (if (14 : Int32) ≤ z1 then (some ((-1 : Int32), ())) else (if ¬ ((z1 - (10 : Int32)) < 0 ∨ 4 ≤ ((z1 - (10 : Int32))).toNatClampNeg) then (some ((a_told_grades ((z1 - (10 : Int32))).toNatClampNeg), ())) else none))))))
set_option maxHeartbeats 4000000 in
set_option maxRecDepth 100000 in
theorem kX6_about (l : Launch) (D : va_G) (cB cI cJ cZ : ClassId) (rz n sz : Nat) (h_t : Nat) (h_told : Nat) (h_told_grades : Nat) (h_reader : Nat) (h_reader_tape : Nat) (h_yard : Nat) (h_chosen : Nat) (h_tried : Nat) (h_byHand : Nat) (h_coming : Nat) (h_ends : Nat) (h_heaps : Nat) (h_told_settings : Nat) (h_told_yesLeads : Nat) (h_told_noLeads : Nat) (h_told_percents : Nat) (h_told_gradeKinds : Nat) (h_told_gradePurities : Nat) (h_told_gradePrices : Nat) (h_reader_draft : Nat) (h_reader_names : Nat) (h_reader_namePlaces : Nat) (h_reader_nameUnits : Nat) (h_reader_nameSettings : Nat) (h_reader_setNames : Nat) (h_reader_setValues : Nat) (h_reader_tape_bytes : Nat) (h_yard_sampled : Nat) (h_yard_towns : Nat) (h_yard_loads : Nat) (h_yard_struck : Nat) (h_yard_ofTowns : Nat) (v_faultNumber : Int32) (v_faultPlace : Int32) (v_costOfKilogram : Int32) (v_told_units : Int32) (v_reader_fault : Int32) (v_reader_faultPlace : Int32) (v_reader_nameCount : Int32) (v_reader_setCount : Int32) (v_reader_tape_length : Int32) (v_reader_tape_next : Int32) (v_reader_tape_type : Int32) (v_reader_tape_place : Int32) (v_reader_tape_formerPlace : Int32) (v_reader_tape_word : Int64) (v_reader_tape_number : Int32) (v_yard_count : Int32) (a_told_grades : Nat → Int32) (z1 : Int32) (hN : FX6_about n v_costOfKilogram v_told_units a_told_grades v_reader_tape_length v_yard_count z1 ≠ none) : Met l yX6_about (Cond.code yX6_about cX6_about 2 (some .int) :: AL) rmX6_about (PW D cB cI cJ cZ rz [.ref h_t, .int z1] [(h_t, .inr (6, [.ref h_told, .ref h_reader, .int v_faultNumber, .int v_faultPlace, .ref h_chosen, .ref h_tried, .ref h_byHand, .ref h_coming, .ref h_ends, .ref h_heaps, .ref h_yard, .int v_costOfKilogram])), (h_told, .inr (2, [.int v_told_units, .ref h_told_settings, .ref h_told_yesLeads, .ref h_told_noLeads, .ref h_told_percents, .ref h_told_grades, .ref h_told_gradeKinds, .ref h_told_gradePurities, .ref h_told_gradePrices])), (h_told_grades, .inl (cI, 4, .inl a_told_grades)), (h_reader, .inr (3, [.int v_reader_fault, .int v_reader_faultPlace, .ref h_reader_tape, .ref h_reader_draft, .ref h_reader_names, .ref h_reader_namePlaces, .ref h_reader_nameUnits, .ref h_reader_nameSettings, .int v_reader_nameCount, .ref h_reader_setNames, .ref h_reader_setValues, .int v_reader_setCount])), (h_reader_tape, .inr (4, [.ref h_reader_tape_bytes, .int v_reader_tape_length, .int v_reader_tape_next, .int v_reader_tape_type, .int v_reader_tape_place, .int v_reader_tape_formerPlace, .long v_reader_tape_word, .int v_reader_tape_number])), (h_yard, .inr (5, [.int v_yard_count, .ref h_yard_sampled, .ref h_yard_towns, .ref h_yard_loads, .ref h_yard_struck, .ref h_yard_ofTowns]))] sz) (QI D (FX6_about n v_costOfKilogram v_told_units a_told_grades v_reader_tape_length v_yard_count z1) (fun u => [(h_t, .inr (6, [.ref h_told, .ref h_reader, .int v_faultNumber, .int v_faultPlace, .ref h_chosen, .ref h_tried, .ref h_byHand, .ref h_coming, .ref h_ends, .ref h_heaps, .ref h_yard, .int v_costOfKilogram])), (h_told, .inr (2, [.int v_told_units, .ref h_told_settings, .ref h_told_yesLeads, .ref h_told_noLeads, .ref h_told_percents, .ref h_told_grades, .ref h_told_gradeKinds, .ref h_told_gradePurities, .ref h_told_gradePrices])), (h_told_grades, .inl (cI, 4, .inl a_told_grades)), (h_reader, .inr (3, [.int v_reader_fault, .int v_reader_faultPlace, .ref h_reader_tape, .ref h_reader_draft, .ref h_reader_names, .ref h_reader_namePlaces, .ref h_reader_nameUnits, .ref h_reader_nameSettings, .int v_reader_nameCount, .ref h_reader_setNames, .ref h_reader_setValues, .int v_reader_setCount])), (h_reader_tape, .inr (4, [.ref h_reader_tape_bytes, .int v_reader_tape_length, .int v_reader_tape_next, .int v_reader_tape_type, .int v_reader_tape_place, .int v_reader_tape_formerPlace, .long v_reader_tape_word, .int v_reader_tape_number])), (h_yard, .inr (5, [.int v_yard_count, .ref h_yard_sampled, .ref h_yard_towns, .ref h_yard_loads, .ref h_yard_struck, .ref h_yard_ofTowns]))]) (va_A [(h_t, .inr (6, [.ref h_told, .ref h_reader, .int v_faultNumber, .int v_faultPlace, .ref h_chosen, .ref h_tried, .ref h_byHand, .ref h_coming, .ref h_ends, .ref h_heaps, .ref h_yard, .int v_costOfKilogram])), (h_told, .inr (2, [.int v_told_units, .ref h_told_settings, .ref h_told_yesLeads, .ref h_told_noLeads, .ref h_told_percents, .ref h_told_grades, .ref h_told_gradeKinds, .ref h_told_gradePurities, .ref h_told_gradePrices])), (h_told_grades, .inl (cI, 4, .inl a_told_grades)), (h_reader, .inr (3, [.int v_reader_fault, .int v_reader_faultPlace, .ref h_reader_tape, .ref h_reader_draft, .ref h_reader_names, .ref h_reader_namePlaces, .ref h_reader_nameUnits, .ref h_reader_nameSettings, .int v_reader_nameCount, .ref h_reader_setNames, .ref h_reader_setValues, .int v_reader_setCount])), (h_reader_tape, .inr (4, [.ref h_reader_tape_bytes, .int v_reader_tape_length, .int v_reader_tape_next, .int v_reader_tape_type, .int v_reader_tape_place, .int v_reader_tape_formerPlace, .long v_reader_tape_word, .int v_reader_tape_number])), (h_yard, .inr (5, [.int v_yard_count, .ref h_yard_sampled, .ref h_yard_towns, .ref h_yard_loads, .ref h_yard_struck, .ref h_yard_ofTowns]))] sz)) 0 0 (va_A [(h_t, .inr (6, [.ref h_told, .ref h_reader, .int v_faultNumber, .int v_faultPlace, .ref h_chosen, .ref h_tried, .ref h_byHand, .ref h_coming, .ref h_ends, .ref h_heaps, .ref h_yard, .int v_costOfKilogram])), (h_told, .inr (2, [.int v_told_units, .ref h_told_settings, .ref h_told_yesLeads, .ref h_told_noLeads, .ref h_told_percents, .ref h_told_grades, .ref h_told_gradeKinds, .ref h_told_gradePurities, .ref h_told_gradePrices])), (h_told_grades, .inl (cI, 4, .inl a_told_grades)), (h_reader, .inr (3, [.int v_reader_fault, .int v_reader_faultPlace, .ref h_reader_tape, .ref h_reader_draft, .ref h_reader_names, .ref h_reader_namePlaces, .ref h_reader_nameUnits, .ref h_reader_nameSettings, .int v_reader_nameCount, .ref h_reader_setNames, .ref h_reader_setValues, .int v_reader_setCount])), (h_reader_tape, .inr (4, [.ref h_reader_tape_bytes, .int v_reader_tape_length, .int v_reader_tape_next, .int v_reader_tape_type, .int v_reader_tape_place, .int v_reader_tape_formerPlace, .long v_reader_tape_word, .int v_reader_tape_number])), (h_yard, .inr (5, [.int v_yard_count, .ref h_yard_sampled, .ref h_yard_towns, .ref h_yard_loads, .ref h_yard_struck, .ref h_yard_ofTowns]))] sz) := by
  obtain ⟨O, hF⟩ : ∃ O, FX6_about n v_costOfKilogram v_told_units a_told_grades v_reader_tape_length v_yard_count z1 = O := ⟨_, rfl⟩
  rw [hF] at hN ⊢
  refine enterI (cc := cX6_about) (nL := 2) (by decide) (Nat.le_of_ble_eq_true rfl) ?_
  intro p e s m below meth c A Q X hA hE hnm hsz hP hD hS hret ls hl
  obtain ⟨hx, hb, hml, hown0, ha⟩ := id X
  have hown : s.vm.findClass RX6 = some m.cls := hown0
  have hK := hE.1
  have hl : lv_has ls 2 [(0, .ref h_t), (1, .int z1)] := hl
  have hX : CallFix p m c cX6_about 2 s ([.ref h_t, .int z1] : List Value).toArray AL RX6 := X
  have X := hX
  unfold FX6_about at hF
  obtain ⟨H, hH⟩ : ∃ H, H = s.heap := ⟨_, rfl⟩
  obtain ⟨locs, hlo⟩ : ∃ locs : List Loc, locs = [] := ⟨_, rfl⟩
  have hS : va_S A s.heap H locs := by rw [hH, hlo]; exact hS
  rw [← hH] at hP
  have goal : W p l e rmX6_about s m ([.ref h_t, .int z1] : List Value).toArray below meth c H locs 0 0 Q (F0 m 0 ls []) := by
    refine lv_iload_n hx hb dX6_about_0 rfl (lv_at hl 1 rfl) ?_
    by_cases c_1 : z1 = (0 : Int32)
    · replace hF := ifT c_1 hF
      refine tsI (k := 0) (off := 31) (tgt := 32) hx hb c_1 dX6_about_1 (by decide) (by decide) (by decide) (by decide) ?_
      refine lv_aload_n hx hb dX6_about_32 rfl (lv_at hl 0 rfl) ?_
      refine va_get (D := D) (ci := 6) (C := RX6) (T := TX6) (N := 12) hx hb ha inAX6 hown hK hP 0 rfl rfl 0 (by decide) (ha _ w_1_234) (fun _ h9 => h9) rfl dX6_about_33 ?_
      refine va_getN (D := D) (ci := 2) (C := RX2) (T := TX2) (N := 9) hx hb ha inAX2 hown hK hP 1 rfl rfl 0 (by decide) (va_Nw.use rfl (hE.2.1 _ w_1_30)) (fun _ h9 => h9) rfl dX6_about_36 ?_
      exact hret (v_told_units, ()) H locs ls _ hF hP hD hS dX6_about_39
    · replace hF := ifF c_1 hF
      by_cases c_2 : z1 = (1 : Int32)
      · replace hF := ifT c_2 hF
        refine tsI (k := 1) (off := 39) (tgt := 40) hx hb c_2 dX6_about_1 (by decide) (by decide) (by decide) (by decide) ?_
        refine lv_aload_n hx hb dX6_about_40 rfl (lv_at hl 0 rfl) ?_
        refine va_get (D := D) (ci := 6) (C := RX6) (T := TX6) (N := 12) hx hb ha inAX6 hown hK hP 0 rfl rfl 10 (by decide) (ha _ w_2_4) (fun _ h9 => h9) rfl dX6_about_41 ?_
        refine va_getN (D := D) (ci := 5) (C := RX5) (T := TX5) (N := 6) hx hb ha inAX5 hown hK hP 5 rfl rfl 0 (by decide) (va_Nw.use rfl (hE.2.1 _ w_1_209)) (fun _ h9 => h9) rfl dX6_about_44 ?_
        exact hret (v_yard_count, ()) H locs ls _ hF hP hD hS dX6_about_47
      · replace hF := ifF c_2 hF
        by_cases c_3 : z1 = (2 : Int32)
        · replace hF := ifT c_3 hF
          refine tsI (k := 2) (off := 47) (tgt := 48) hx hb c_3 dX6_about_1 (by decide) (by decide) (by decide) (by decide) ?_
          refine lv_aload_n hx hb dX6_about_48 rfl (lv_at hl 0 rfl) ?_
          refine va_get (D := D) (ci := 6) (C := RX6) (T := TX6) (N := 12) hx hb ha inAX6 hown hK hP 0 rfl rfl 11 (by decide) (ha _ w_2_5) (fun _ h9 => h9) rfl dX6_about_49 ?_
          exact hret (v_costOfKilogram, ()) H locs ls _ hF hP hD hS dX6_about_52
        · replace hF := ifF c_3 hF
          by_cases c_4 : z1 = (3 : Int32)
          · replace hF := ifT c_4 hF
            refine tsI (k := 3) (off := 52) (tgt := 53) hx hb c_4 dX6_about_1 (by decide) (by decide) (by decide) (by decide) ?_
            refine lv_aload_n hx hb dX6_about_53 rfl (lv_at hl 0 rfl) ?_
            refine va_get (D := D) (ci := 6) (C := RX6) (T := TX6) (N := 12) hx hb ha inAX6 hown hK hP 0 rfl rfl 1 (by decide) (ha _ w_1_235) (fun _ h9 => h9) rfl dX6_about_54 ?_
            refine va_getN (D := D) (ci := 3) (C := RX3) (T := TX3) (N := 12) hx hb ha inAX3 hown hK hP 3 rfl rfl 2 (by decide) (va_Nw.use rfl (hE.2.1 _ w_1_125)) (fun _ h9 => h9) rfl dX6_about_57 ?_
            refine va_getN (D := D) (ci := 4) (C := RX4) (T := TX4) (N := 8) hx hb ha inAX4 hown hK hP 4 rfl rfl 1 (by decide) (va_Nw.use rfl (hE.2.1 _ w_1_88)) (fun _ h9 => h9) rfl dX6_about_60 ?_
            exact hret (v_reader_tape_length, ()) H locs ls _ hF hP hD hS dX6_about_63
          · replace hF := ifF c_4 hF
            refine tsO (hi := 3) (tgt := 64) hx hb (fun k hk => match k, hk with | 0, _ => c_1 | 1, _ => c_2 | 2, _ => c_3 | 3, _ => c_4 | k + 4, hk => absurd hk (by omega)) dX6_about_1 (by decide) (by decide) ?_
            refine lv_iload_n hx hb dX6_about_64 rfl (lv_at hl 1 rfl) ?_
            refine lv_bipush (v := 10) hx hb dX6_about_65 (by decide) ?_
            refine lv_icmp_lt (tgt := 89) hx hb dX6_about_67 (by decide) (fun c_5 => ?_) (fun c_5 => ?_)
            · replace hF := ifT c_5 hF
              refine lv_iconst (v := -1) hx hb dX6_about_89 (by decide) ?_
              exact hret ((-1 : Int32), ()) H locs ls _ hF hP hD hS dX6_about_90
            · replace hF := ifF c_5 hF
              refine lv_iload_n hx hb dX6_about_70 rfl (lv_at hl 1 rfl) ?_
              refine lv_bipush (v := 14) hx hb dX6_about_71 (by decide) ?_
              refine lv_icmp_ge (tgt := 89) hx hb dX6_about_73 (by decide) (fun c_6 => ?_) (fun c_6 => ?_)
              · replace hF := ifT c_6 hF
                refine lv_iconst (v := -1) hx hb dX6_about_89 (by decide) ?_
                exact hret ((-1 : Int32), ()) H locs ls _ hF hP hD hS dX6_about_90
              · replace hF := ifF c_6 hF
                refine lv_aload_n hx hb dX6_about_76 rfl (lv_at hl 0 rfl) ?_
                refine va_get (D := D) (ci := 6) (C := RX6) (T := TX6) (N := 12) hx hb ha inAX6 hown hK hP 0 rfl rfl 0 (by decide) (ha _ w_1_234) (fun _ h9 => h9) rfl dX6_about_77 ?_
                refine va_getN (D := D) (ci := 2) (C := RX2) (T := TX2) (N := 9) hx hb ha inAX2 hown hK hP 1 rfl rfl 5 (by decide) (va_Nw.use rfl (hE.2.1 _ w_1_46)) (fun _ h9 => h9) rfl dX6_about_80 ?_
                refine lv_iload_n hx hb dX6_about_83 rfl (lv_at hl 1 rfl) ?_
                refine lv_bipush (v := 10) hx hb dX6_about_84 (by decide) ?_
                refine lv_isub hx hb dX6_about_86 ?_
                replace hF := ckP hN hF
                obtain ⟨c_7, hF⟩ := hF
                refine ld_i hx hb hK hP 2 rfl c_7 dX6_about_87 ?_
                exact hret ((a_told_grades ((z1 - (10 : Int32))).toNatClampNeg), ()) H locs ls _ hF hP hD hS dX6_about_88
  rw [hH, hlo] at goal
  exact goal
theorem dX7_sign_0 : decode cX7_sign 0 = .ok (.iload_n 1, 1) := by decide +kernel
theorem dX7_sign_1 : decode cX7_sign 1 = .ok (.aload_n 0, 1) := by decide +kernel
theorem dX7_sign_2 : decode cX7_sign 2 = .ok (.getfield 1, 3) := by decide +kernel
theorem dX7_sign_5 : decode cX7_sign 5 = .ok (.if_icmp .ge 16, 3) := by decide +kernel
theorem dX7_sign_8 : decode cX7_sign 8 = .ok (.aload_n 0, 1) := by decide +kernel
theorem dX7_sign_9 : decode cX7_sign 9 = .ok (.getfield 7, 3) := by decide +kernel
theorem dX7_sign_12 : decode cX7_sign 12 = .ok (.iload_n 1, 1) := by decide +kernel
theorem dX7_sign_13 : decode cX7_sign 13 = .ok (.baload, 1) := by decide +kernel
theorem dX7_sign_14 : decode cX7_sign 14 = .ok (.sipush 255, 3) := by decide +kernel
theorem dX7_sign_17 : decode cX7_sign 17 = .ok (.iand, 1) := by decide +kernel
theorem dX7_sign_18 : decode cX7_sign 18 = .ok (.goto 4, 3) := by decide +kernel
theorem dX7_sign_21 : decode cX7_sign 21 = .ok (.iconst 0, 1) := by decide +kernel
theorem dX7_sign_22 : decode cX7_sign 22 = .ok (.ireturn, 1) := by decide +kernel
abbrev rmX7_sign : Room := { frames := 0, cells := 0, slots := 0, locals := 0 }
theorem cb_X7_sign : CBn yX7_sign 1 := ⟨by decide +kernel, by decide +kernel, by decide +kernel⟩
def FX7_sign (n : Nat) (v_size : Int32) (a_text : Nat → Int32) (z1 : Int32) : Option (Int32 × Unit) := if v_size ≤ z1 then (some ((0 : Int32), ())) else (if ¬ (z1 < 0 ∨ 1200 ≤ (z1).toNatClampNeg) then (some (((a_text (z1).toNatClampNeg) &&& (255 : Int32)), ())) else none)
set_option maxHeartbeats 4000000 in
set_option maxRecDepth 100000 in
theorem kX7_sign (l : Launch) (D : va_G) (cB cI cJ cZ : ClassId) (rz n sz : Nat) (h_t : Nat) (h_text : Nat) (h_tape : Nat) (h_uName : Nat) (h_outName : Nat) (h_setName : Nat) (h_unitMany : Nat) (h_yesTo : Nat) (h_noTo : Nat) (h_settingMany : Nat) (h_shares : Nat) (h_gradeMany : Nat) (h_gKind : Nat) (h_gPurity : Nat) (h_gPrice : Nat) (h_outPlace : Nat) (h_setPlace : Nat) (h_setShare : Nat) (h_chosen : Nat) (h_rows : Nat) (h_parts : Nat) (h_lTown : Nat) (h_lWeight : Nat) (h_lSampled : Nat) (h_hand : Nat) (h_isStruck : Nat) (h_all : Nat) (h_bestChosen : Nat) (h_gets : Nat) (h_rests : Nat) (v_taped : Int32) (v_size : Int32) (v_faultKind : Int32) (v_faultPlace : Int32) (v_at : Int32) (v_end : Int32) (v_token : Int32) (v_number : Int32) (v_name : Int64) (v_bank : Int32) (v_rb : Int32) (v_sets : Int32) (v_missing : Int32) (v_whole : Int64) (v_lorries : Int32) (v_cost : Int32) (a_text : Nat → Int32) (z1 : Int32) (hN : FX7_sign n v_size a_text z1 ≠ none) : Met l yX7_sign (Cond.code yX7_sign cX7_sign 2 (some .int) :: AL) rmX7_sign (PW D cB cI cJ cZ rz [.ref h_t, .int z1] [(h_t, .inr (7, [.ref h_tape, .ref h_text, .int v_taped, .int v_size, .int v_faultKind, .int v_faultPlace, .int v_at, .int v_end, .int v_token, .int v_number, .long v_name, .ref h_uName, .ref h_outName, .ref h_setName, .ref h_unitMany, .ref h_yesTo, .ref h_noTo, .ref h_settingMany, .ref h_shares, .ref h_gradeMany, .ref h_gKind, .ref h_gPurity, .ref h_gPrice, .ref h_outPlace, .ref h_setPlace, .ref h_setShare, .ref h_chosen, .int v_bank, .int v_rb, .int v_sets, .int v_missing, .ref h_rows, .ref h_parts, .long v_whole, .ref h_lTown, .ref h_lWeight, .ref h_lSampled, .ref h_hand, .ref h_isStruck, .int v_lorries, .int v_cost, .ref h_all, .ref h_bestChosen, .ref h_gets, .ref h_rests])), (h_text, .inl (cB, 1200, .inl a_text))] sz) (QI D (FX7_sign n v_size a_text z1) (fun u => [(h_t, .inr (7, [.ref h_tape, .ref h_text, .int v_taped, .int v_size, .int v_faultKind, .int v_faultPlace, .int v_at, .int v_end, .int v_token, .int v_number, .long v_name, .ref h_uName, .ref h_outName, .ref h_setName, .ref h_unitMany, .ref h_yesTo, .ref h_noTo, .ref h_settingMany, .ref h_shares, .ref h_gradeMany, .ref h_gKind, .ref h_gPurity, .ref h_gPrice, .ref h_outPlace, .ref h_setPlace, .ref h_setShare, .ref h_chosen, .int v_bank, .int v_rb, .int v_sets, .int v_missing, .ref h_rows, .ref h_parts, .long v_whole, .ref h_lTown, .ref h_lWeight, .ref h_lSampled, .ref h_hand, .ref h_isStruck, .int v_lorries, .int v_cost, .ref h_all, .ref h_bestChosen, .ref h_gets, .ref h_rests])), (h_text, .inl (cB, 1200, .inl a_text))]) (va_A [(h_t, .inr (7, [.ref h_tape, .ref h_text, .int v_taped, .int v_size, .int v_faultKind, .int v_faultPlace, .int v_at, .int v_end, .int v_token, .int v_number, .long v_name, .ref h_uName, .ref h_outName, .ref h_setName, .ref h_unitMany, .ref h_yesTo, .ref h_noTo, .ref h_settingMany, .ref h_shares, .ref h_gradeMany, .ref h_gKind, .ref h_gPurity, .ref h_gPrice, .ref h_outPlace, .ref h_setPlace, .ref h_setShare, .ref h_chosen, .int v_bank, .int v_rb, .int v_sets, .int v_missing, .ref h_rows, .ref h_parts, .long v_whole, .ref h_lTown, .ref h_lWeight, .ref h_lSampled, .ref h_hand, .ref h_isStruck, .int v_lorries, .int v_cost, .ref h_all, .ref h_bestChosen, .ref h_gets, .ref h_rests])), (h_text, .inl (cB, 1200, .inl a_text))] sz)) 0 0 (va_A [(h_t, .inr (7, [.ref h_tape, .ref h_text, .int v_taped, .int v_size, .int v_faultKind, .int v_faultPlace, .int v_at, .int v_end, .int v_token, .int v_number, .long v_name, .ref h_uName, .ref h_outName, .ref h_setName, .ref h_unitMany, .ref h_yesTo, .ref h_noTo, .ref h_settingMany, .ref h_shares, .ref h_gradeMany, .ref h_gKind, .ref h_gPurity, .ref h_gPrice, .ref h_outPlace, .ref h_setPlace, .ref h_setShare, .ref h_chosen, .int v_bank, .int v_rb, .int v_sets, .int v_missing, .ref h_rows, .ref h_parts, .long v_whole, .ref h_lTown, .ref h_lWeight, .ref h_lSampled, .ref h_hand, .ref h_isStruck, .int v_lorries, .int v_cost, .ref h_all, .ref h_bestChosen, .ref h_gets, .ref h_rests])), (h_text, .inl (cB, 1200, .inl a_text))] sz) := by
  obtain ⟨O, hF⟩ : ∃ O, FX7_sign n v_size a_text z1 = O := ⟨_, rfl⟩
  rw [hF] at hN ⊢
  refine enterI (cc := cX7_sign) (nL := 2) (by decide) (Nat.le_of_ble_eq_true rfl) ?_
  intro p e s m below meth c A Q X hA hE hnm hsz hP hD hS hret ls hl
  obtain ⟨hx, hb, hml, hown0, ha⟩ := id X
  have hown : s.vm.findClass RX7 = some m.cls := hown0
  have hK := hE.1
  have hl : lv_has ls 2 [(0, .ref h_t), (1, .int z1)] := hl
  have hX : CallFix p m c cX7_sign 2 s ([.ref h_t, .int z1] : List Value).toArray AL RX7 := X
  have X := hX
  unfold FX7_sign at hF
  obtain ⟨H, hH⟩ : ∃ H, H = s.heap := ⟨_, rfl⟩
  obtain ⟨locs, hlo⟩ : ∃ locs : List Loc, locs = [] := ⟨_, rfl⟩
  have hS : va_S A s.heap H locs := by rw [hH, hlo]; exact hS
  rw [← hH] at hP
  have goal : W p l e rmX7_sign s m ([.ref h_t, .int z1] : List Value).toArray below meth c H locs 0 0 Q (F0 m 0 ls []) := by
    refine lv_iload_n hx hb dX7_sign_0 rfl (lv_at hl 1 rfl) ?_
    refine lv_aload_n hx hb dX7_sign_1 rfl (lv_at hl 0 rfl) ?_
    refine va_get (D := D) (ci := 7) (C := RX7) (T := TX7) (N := 45) hx hb ha inAX7 hown hK hP 0 rfl rfl 3 (by decide) (ha _ w_4_37) (fun _ h9 => h9) rfl dX7_sign_2 ?_
    refine lv_icmp_ge (tgt := 21) hx hb dX7_sign_5 (by decide) (fun c_1 => ?_) (fun c_1 => ?_)
    · replace hF := ifT c_1 hF
      refine lv_iconst (v := 0) hx hb dX7_sign_21 (by decide) ?_
      exact hret ((0 : Int32), ()) H locs ls _ hF hP hD hS dX7_sign_22
    · replace hF := ifF c_1 hF
      refine lv_aload_n hx hb dX7_sign_8 rfl (lv_at hl 0 rfl) ?_
      refine va_get (D := D) (ci := 7) (C := RX7) (T := TX7) (N := 45) hx hb ha inAX7 hown hK hP 0 rfl rfl 1 (by decide) (ha _ w_4_35) (fun _ h9 => h9) rfl dX7_sign_9 ?_
      refine lv_iload_n hx hb dX7_sign_12 rfl (lv_at hl 1 rfl) ?_
      replace hF := ckP hN hF
      obtain ⟨c_2, hF⟩ := hF
      refine ld_b hx hb hK hP 1 rfl c_2 dX7_sign_13 ?_
      refine lv_sipush (v := 255) hx hb dX7_sign_14 (by decide) ?_
      refine lv_iand hx hb dX7_sign_17 ?_
      refine lv_goto (tgt := 22) hx hb dX7_sign_18 (by decide) ?_
      exact hret (((a_text (z1).toNatClampNeg) &&& (255 : Int32)), ()) H locs ls _ hF hP hD hS dX7_sign_22
  rw [hH, hlo] at goal
  exact goal
theorem dX7_isLetter_0 : decode cX7_isLetter 0 = .ok (.iload_n 0, 1) := by decide +kernel
theorem dX7_isLetter_1 : decode cX7_isLetter 1 = .ok (.bipush 97, 2) := by decide +kernel
theorem dX7_isLetter_3 : decode cX7_isLetter 3 = .ok (.if_icmp .lt 13, 3) := by decide +kernel
theorem dX7_isLetter_6 : decode cX7_isLetter 6 = .ok (.iload_n 0, 1) := by decide +kernel
theorem dX7_isLetter_7 : decode cX7_isLetter 7 = .ok (.bipush 122, 2) := by decide +kernel
theorem dX7_isLetter_9 : decode cX7_isLetter 9 = .ok (.if_icmp .gt 7, 3) := by decide +kernel
theorem dX7_isLetter_12 : decode cX7_isLetter 12 = .ok (.iconst 1, 1) := by decide +kernel
theorem dX7_isLetter_13 : decode cX7_isLetter 13 = .ok (.goto 4, 3) := by decide +kernel
theorem dX7_isLetter_16 : decode cX7_isLetter 16 = .ok (.iconst 0, 1) := by decide +kernel
theorem dX7_isLetter_17 : decode cX7_isLetter 17 = .ok (.ireturn, 1) := by decide +kernel
abbrev rmX7_isLetter : Room := { frames := 0, cells := 0, slots := 0, locals := 0 }
theorem cb_X7_isLetter : CBn yX7_isLetter 1 := ⟨by decide +kernel, by decide +kernel, by decide +kernel⟩
def FX7_isLetter (n : Nat) (z0 : Int32) : Option (Int32 × Unit) := if z0 < (97 : Int32) then (some ((0 : Int32), ())) else (if (122 : Int32) < z0 then (some ((0 : Int32), ())) else (some ((1 : Int32), ())))
set_option maxHeartbeats 4000000 in
set_option maxRecDepth 100000 in
theorem kX7_isLetter (l : Launch) (D : va_G) (cB cI cJ cZ : ClassId) (rz n sz : Nat) (z0 : Int32) (hN : FX7_isLetter n z0 ≠ none) : Met l yX7_isLetter (Cond.code yX7_isLetter cX7_isLetter 1 (some .boolean) :: AL) rmX7_isLetter (PW D cB cI cJ cZ rz [.int z0] [] sz) (QZ D (FX7_isLetter n z0) (fun u => []) (va_A [] sz)) 0 0 (va_A [] sz) := by
  obtain ⟨O, hF⟩ : ∃ O, FX7_isLetter n z0 = O := ⟨_, rfl⟩
  rw [hF] at hN ⊢
  refine enterZ (cc := cX7_isLetter) (nL := 1) (by decide) (Nat.le_of_ble_eq_true rfl) ?_
  intro p e s m below meth c A Q X hA hE hnm hsz hP hD hS hret ls hl
  obtain ⟨hx, hb, hml, hown0, ha⟩ := id X
  have hown : s.vm.findClass RX7 = some m.cls := hown0
  have hK := hE.1
  have hl : lv_has ls 1 [(0, .int z0)] := hl
  have hX : CallFix p m c cX7_isLetter 1 s ([.int z0] : List Value).toArray AL RX7 := X
  have X := hX
  unfold FX7_isLetter at hF
  obtain ⟨H, hH⟩ : ∃ H, H = s.heap := ⟨_, rfl⟩
  obtain ⟨locs, hlo⟩ : ∃ locs : List Loc, locs = [] := ⟨_, rfl⟩
  have hS : va_S A s.heap H locs := by rw [hH, hlo]; exact hS
  rw [← hH] at hP
  have goal : W p l e rmX7_isLetter s m ([.int z0] : List Value).toArray below meth c H locs 0 0 Q (F0 m 0 ls []) := by
    refine lv_iload_n hx hb dX7_isLetter_0 rfl (lv_at hl 0 rfl) ?_
    refine lv_bipush (v := 97) hx hb dX7_isLetter_1 (by decide) ?_
    refine lv_icmp_lt (tgt := 16) hx hb dX7_isLetter_3 (by decide) (fun c_1 => ?_) (fun c_1 => ?_)
    · replace hF := ifT c_1 hF
      refine lv_iconst (v := 0) hx hb dX7_isLetter_16 (by decide) ?_
      exact hret ((0 : Int32), ()) H locs ls _ hF nz0 hP hD hS dX7_isLetter_17
    · replace hF := ifF c_1 hF
      refine lv_iload_n hx hb dX7_isLetter_6 rfl (lv_at hl 0 rfl) ?_
      refine lv_bipush (v := 122) hx hb dX7_isLetter_7 (by decide) ?_
      refine lv_icmp_gt (tgt := 16) hx hb dX7_isLetter_9 (by decide) (fun c_2 => ?_) (fun c_2 => ?_)
      · replace hF := ifT c_2 hF
        refine lv_iconst (v := 0) hx hb dX7_isLetter_16 (by decide) ?_
        exact hret ((0 : Int32), ()) H locs ls _ hF nz0 hP hD hS dX7_isLetter_17
      · replace hF := ifF c_2 hF
        refine lv_iconst (v := 1) hx hb dX7_isLetter_12 (by decide) ?_
        refine lv_goto (tgt := 17) hx hb dX7_isLetter_13 (by decide) ?_
        exact hret ((1 : Int32), ()) H locs ls _ hF nz1 hP hD hS dX7_isLetter_17
  rw [hH, hlo] at goal
  exact goal
theorem dX7_isDigit_0 : decode cX7_isDigit 0 = .ok (.iload_n 0, 1) := by decide +kernel
theorem dX7_isDigit_1 : decode cX7_isDigit 1 = .ok (.bipush 48, 2) := by decide +kernel
theorem dX7_isDigit_3 : decode cX7_isDigit 3 = .ok (.if_icmp .lt 13, 3) := by decide +kernel
theorem dX7_isDigit_6 : decode cX7_isDigit 6 = .ok (.iload_n 0, 1) := by decide +kernel
theorem dX7_isDigit_7 : decode cX7_isDigit 7 = .ok (.bipush 57, 2) := by decide +kernel
theorem dX7_isDigit_9 : decode cX7_isDigit 9 = .ok (.if_icmp .gt 7, 3) := by decide +kernel
theorem dX7_isDigit_12 : decode cX7_isDigit 12 = .ok (.iconst 1, 1) := by decide +kernel
theorem dX7_isDigit_13 : decode cX7_isDigit 13 = .ok (.goto 4, 3) := by decide +kernel
theorem dX7_isDigit_16 : decode cX7_isDigit 16 = .ok (.iconst 0, 1) := by decide +kernel
theorem dX7_isDigit_17 : decode cX7_isDigit 17 = .ok (.ireturn, 1) := by decide +kernel
abbrev rmX7_isDigit : Room := { frames := 0, cells := 0, slots := 0, locals := 0 }
theorem cb_X7_isDigit : CBn yX7_isDigit 1 := ⟨by decide +kernel, by decide +kernel, by decide +kernel⟩
def FX7_isDigit (n : Nat) (z0 : Int32) : Option (Int32 × Unit) := if z0 < (48 : Int32) then (some ((0 : Int32), ())) else (if (57 : Int32) < z0 then (some ((0 : Int32), ())) else (some ((1 : Int32), ())))
set_option maxHeartbeats 4000000 in
set_option maxRecDepth 100000 in
theorem kX7_isDigit (l : Launch) (D : va_G) (cB cI cJ cZ : ClassId) (rz n sz : Nat) (z0 : Int32) (hN : FX7_isDigit n z0 ≠ none) : Met l yX7_isDigit (Cond.code yX7_isDigit cX7_isDigit 1 (some .boolean) :: AL) rmX7_isDigit (PW D cB cI cJ cZ rz [.int z0] [] sz) (QZ D (FX7_isDigit n z0) (fun u => []) (va_A [] sz)) 0 0 (va_A [] sz) := by
  obtain ⟨O, hF⟩ : ∃ O, FX7_isDigit n z0 = O := ⟨_, rfl⟩
  rw [hF] at hN ⊢
  refine enterZ (cc := cX7_isDigit) (nL := 1) (by decide) (Nat.le_of_ble_eq_true rfl) ?_
  intro p e s m below meth c A Q X hA hE hnm hsz hP hD hS hret ls hl
  obtain ⟨hx, hb, hml, hown0, ha⟩ := id X
  have hown : s.vm.findClass RX7 = some m.cls := hown0
  have hK := hE.1
  have hl : lv_has ls 1 [(0, .int z0)] := hl
  have hX : CallFix p m c cX7_isDigit 1 s ([.int z0] : List Value).toArray AL RX7 := X
  have X := hX
  unfold FX7_isDigit at hF
  obtain ⟨H, hH⟩ : ∃ H, H = s.heap := ⟨_, rfl⟩
  obtain ⟨locs, hlo⟩ : ∃ locs : List Loc, locs = [] := ⟨_, rfl⟩
  have hS : va_S A s.heap H locs := by rw [hH, hlo]; exact hS
  rw [← hH] at hP
  have goal : W p l e rmX7_isDigit s m ([.int z0] : List Value).toArray below meth c H locs 0 0 Q (F0 m 0 ls []) := by
    refine lv_iload_n hx hb dX7_isDigit_0 rfl (lv_at hl 0 rfl) ?_
    refine lv_bipush (v := 48) hx hb dX7_isDigit_1 (by decide) ?_
    refine lv_icmp_lt (tgt := 16) hx hb dX7_isDigit_3 (by decide) (fun c_1 => ?_) (fun c_1 => ?_)
    · replace hF := ifT c_1 hF
      refine lv_iconst (v := 0) hx hb dX7_isDigit_16 (by decide) ?_
      exact hret ((0 : Int32), ()) H locs ls _ hF nz0 hP hD hS dX7_isDigit_17
    · replace hF := ifF c_1 hF
      refine lv_iload_n hx hb dX7_isDigit_6 rfl (lv_at hl 0 rfl) ?_
      refine lv_bipush (v := 57) hx hb dX7_isDigit_7 (by decide) ?_
      refine lv_icmp_gt (tgt := 16) hx hb dX7_isDigit_9 (by decide) (fun c_2 => ?_) (fun c_2 => ?_)
      · replace hF := ifT c_2 hF
        refine lv_iconst (v := 0) hx hb dX7_isDigit_16 (by decide) ?_
        exact hret ((0 : Int32), ()) H locs ls _ hF nz0 hP hD hS dX7_isDigit_17
      · replace hF := ifF c_2 hF
        refine lv_iconst (v := 1) hx hb dX7_isDigit_12 (by decide) ?_
        refine lv_goto (tgt := 17) hx hb dX7_isDigit_13 (by decide) ?_
        exact hret ((1 : Int32), ()) H locs ls _ hF nz1 hP hD hS dX7_isDigit_17
  rw [hH, hlo] at goal
  exact goal
theorem dX7_fails_0 : decode cX7_fails 0 = .ok (.aload_n 0, 1) := by decide +kernel
theorem dX7_fails_1 : decode cX7_fails 1 = .ok (.getfield 11, 3) := by decide +kernel
theorem dX7_fails_4 : decode cX7_fails 4 = .ok (.ifCond .le 4, 3) := by decide +kernel
theorem dX7_fails_7 : decode cX7_fails 7 = .ok (.return_, 1) := by decide +kernel
theorem dX7_fails_8 : decode cX7_fails 8 = .ok (.aload_n 0, 1) := by decide +kernel
theorem dX7_fails_9 : decode cX7_fails 9 = .ok (.iload_n 1, 1) := by decide +kernel
theorem dX7_fails_10 : decode cX7_fails 10 = .ok (.putfield 11, 3) := by decide +kernel
theorem dX7_fails_13 : decode cX7_fails 13 = .ok (.aload_n 0, 1) := by decide +kernel
theorem dX7_fails_14 : decode cX7_fails 14 = .ok (.iload_n 2, 1) := by decide +kernel
theorem dX7_fails_15 : decode cX7_fails 15 = .ok (.putfield 14, 3) := by decide +kernel
theorem dX7_fails_18 : decode cX7_fails 18 = .ok (.return_, 1) := by decide +kernel
abbrev rmX7_fails : Room := { frames := 0, cells := 0, slots := 0, locals := 0 }
theorem cb_X7_fails : CBn yX7_fails 2 := ⟨by decide +kernel, by decide +kernel, by decide +kernel⟩
def FX7_fails (n : Nat) (v_faultKind : Int32) (v_faultPlace : Int32) (z1 : Int32) (z2 : Int32) : Option (Unit × Int32 × Int32) := if v_faultKind ≤ 0 then (some ((), z1, z2)) else (some ((), v_faultKind, v_faultPlace))
set_option maxHeartbeats 4000000 in
set_option maxRecDepth 100000 in
theorem kX7_fails (l : Launch) (D : va_G) (cB cI cJ cZ : ClassId) (rz n sz : Nat) (h_t : Nat) (h_tape : Nat) (h_text : Nat) (h_uName : Nat) (h_outName : Nat) (h_setName : Nat) (h_unitMany : Nat) (h_yesTo : Nat) (h_noTo : Nat) (h_settingMany : Nat) (h_shares : Nat) (h_gradeMany : Nat) (h_gKind : Nat) (h_gPurity : Nat) (h_gPrice : Nat) (h_outPlace : Nat) (h_setPlace : Nat) (h_setShare : Nat) (h_chosen : Nat) (h_rows : Nat) (h_parts : Nat) (h_lTown : Nat) (h_lWeight : Nat) (h_lSampled : Nat) (h_hand : Nat) (h_isStruck : Nat) (h_all : Nat) (h_bestChosen : Nat) (h_gets : Nat) (h_rests : Nat) (v_taped : Int32) (v_size : Int32) (v_faultKind : Int32) (v_faultPlace : Int32) (v_at : Int32) (v_end : Int32) (v_token : Int32) (v_number : Int32) (v_name : Int64) (v_bank : Int32) (v_rb : Int32) (v_sets : Int32) (v_missing : Int32) (v_whole : Int64) (v_lorries : Int32) (v_cost : Int32) (z1 : Int32) (z2 : Int32) (hN : FX7_fails n v_faultKind v_faultPlace z1 z2 ≠ none) : Met l yX7_fails (Cond.code yX7_fails cX7_fails 3 none :: AL) rmX7_fails (PW D cB cI cJ cZ rz [.ref h_t, .int z1, .int z2] [(h_t, .inr (7, [.ref h_tape, .ref h_text, .int v_taped, .int v_size, .int v_faultKind, .int v_faultPlace, .int v_at, .int v_end, .int v_token, .int v_number, .long v_name, .ref h_uName, .ref h_outName, .ref h_setName, .ref h_unitMany, .ref h_yesTo, .ref h_noTo, .ref h_settingMany, .ref h_shares, .ref h_gradeMany, .ref h_gKind, .ref h_gPurity, .ref h_gPrice, .ref h_outPlace, .ref h_setPlace, .ref h_setShare, .ref h_chosen, .int v_bank, .int v_rb, .int v_sets, .int v_missing, .ref h_rows, .ref h_parts, .long v_whole, .ref h_lTown, .ref h_lWeight, .ref h_lSampled, .ref h_hand, .ref h_isStruck, .int v_lorries, .int v_cost, .ref h_all, .ref h_bestChosen, .ref h_gets, .ref h_rests]))] sz) (QV D (FX7_fails n v_faultKind v_faultPlace z1 z2) (fun u => [(h_t, .inr (7, [.ref h_tape, .ref h_text, .int v_taped, .int v_size, .int u.2.1, .int u.2.2, .int v_at, .int v_end, .int v_token, .int v_number, .long v_name, .ref h_uName, .ref h_outName, .ref h_setName, .ref h_unitMany, .ref h_yesTo, .ref h_noTo, .ref h_settingMany, .ref h_shares, .ref h_gradeMany, .ref h_gKind, .ref h_gPurity, .ref h_gPrice, .ref h_outPlace, .ref h_setPlace, .ref h_setShare, .ref h_chosen, .int v_bank, .int v_rb, .int v_sets, .int v_missing, .ref h_rows, .ref h_parts, .long v_whole, .ref h_lTown, .ref h_lWeight, .ref h_lSampled, .ref h_hand, .ref h_isStruck, .int v_lorries, .int v_cost, .ref h_all, .ref h_bestChosen, .ref h_gets, .ref h_rests]))]) (va_A [(h_t, .inr (7, [.ref h_tape, .ref h_text, .int v_taped, .int v_size, .int v_faultKind, .int v_faultPlace, .int v_at, .int v_end, .int v_token, .int v_number, .long v_name, .ref h_uName, .ref h_outName, .ref h_setName, .ref h_unitMany, .ref h_yesTo, .ref h_noTo, .ref h_settingMany, .ref h_shares, .ref h_gradeMany, .ref h_gKind, .ref h_gPurity, .ref h_gPrice, .ref h_outPlace, .ref h_setPlace, .ref h_setShare, .ref h_chosen, .int v_bank, .int v_rb, .int v_sets, .int v_missing, .ref h_rows, .ref h_parts, .long v_whole, .ref h_lTown, .ref h_lWeight, .ref h_lSampled, .ref h_hand, .ref h_isStruck, .int v_lorries, .int v_cost, .ref h_all, .ref h_bestChosen, .ref h_gets, .ref h_rests]))] sz)) 0 0 (va_A [(h_t, .inr (7, [.ref h_tape, .ref h_text, .int v_taped, .int v_size, .int v_faultKind, .int v_faultPlace, .int v_at, .int v_end, .int v_token, .int v_number, .long v_name, .ref h_uName, .ref h_outName, .ref h_setName, .ref h_unitMany, .ref h_yesTo, .ref h_noTo, .ref h_settingMany, .ref h_shares, .ref h_gradeMany, .ref h_gKind, .ref h_gPurity, .ref h_gPrice, .ref h_outPlace, .ref h_setPlace, .ref h_setShare, .ref h_chosen, .int v_bank, .int v_rb, .int v_sets, .int v_missing, .ref h_rows, .ref h_parts, .long v_whole, .ref h_lTown, .ref h_lWeight, .ref h_lSampled, .ref h_hand, .ref h_isStruck, .int v_lorries, .int v_cost, .ref h_all, .ref h_bestChosen, .ref h_gets, .ref h_rests]))] sz) := by
  obtain ⟨O, hF⟩ : ∃ O, FX7_fails n v_faultKind v_faultPlace z1 z2 = O := ⟨_, rfl⟩
  rw [hF] at hN ⊢
  refine enterV (cc := cX7_fails) (nL := 3) (by decide) (Nat.le_of_ble_eq_true rfl) ?_
  intro p e s m below meth c A Q X hA hE hnm hsz hP hD hS hret ls hl
  obtain ⟨hx, hb, hml, hown0, ha⟩ := id X
  have hown : s.vm.findClass RX7 = some m.cls := hown0
  have hK := hE.1
  have hl : lv_has ls 3 [(0, .ref h_t), (1, .int z1), (2, .int z2)] := hl
  have hX : CallFix p m c cX7_fails 3 s ([.ref h_t, .int z1, .int z2] : List Value).toArray AL RX7 := X
  have X := hX
  unfold FX7_fails at hF
  obtain ⟨H, hH⟩ : ∃ H, H = s.heap := ⟨_, rfl⟩
  obtain ⟨locs, hlo⟩ : ∃ locs : List Loc, locs = [] := ⟨_, rfl⟩
  have hS : va_S A s.heap H locs := by rw [hH, hlo]; exact hS
  rw [← hH] at hP
  have goal : W p l e rmX7_fails s m ([.ref h_t, .int z1, .int z2] : List Value).toArray below meth c H locs 0 0 Q (F0 m 0 ls []) := by
    refine lv_aload_n hx hb dX7_fails_0 rfl (lv_at hl 0 rfl) ?_
    refine va_get (D := D) (ci := 7) (C := RX7) (T := TX7) (N := 45) hx hb ha inAX7 hown hK hP 0 rfl rfl 4 (by decide) (ha _ w_4_38) (fun _ h9 => h9) rfl dX7_fails_1 ?_
    refine lv_if_le (tgt := 8) hx hb dX7_fails_4 (by decide) (fun c_1 => ?_) (fun c_1 => ?_)
    · replace hF := ifT c_1 hF
      refine lv_aload_n hx hb dX7_fails_8 rfl (lv_at hl 0 rfl) ?_
      refine lv_iload_n hx hb dX7_fails_9 rfl (lv_at hl 1 rfl) ?_
      refine pt (C := RX7) (T := TX7) (N := 45) (ci := 7) (v := .int z1) (W2 := [(h_t, .inr (7, [.ref h_tape, .ref h_text, .int v_taped, .int v_size, .int z1, .int v_faultPlace, .int v_at, .int v_end, .int v_token, .int v_number, .long v_name, .ref h_uName, .ref h_outName, .ref h_setName, .ref h_unitMany, .ref h_yesTo, .ref h_noTo, .ref h_settingMany, .ref h_shares, .ref h_gradeMany, .ref h_gKind, .ref h_gPurity, .ref h_gPrice, .ref h_outPlace, .ref h_setPlace, .ref h_setShare, .ref h_chosen, .int v_bank, .int v_rb, .int v_sets, .int v_missing, .ref h_rows, .ref h_parts, .long v_whole, .ref h_lTown, .ref h_lWeight, .ref h_lSampled, .ref h_hand, .ref h_isStruck, .int v_lorries, .int v_cost, .ref h_all, .ref h_bestChosen, .ref h_gets, .ref h_rests]))]) hx hb ha inAX7 tyX7 tyX7_ok nmX7 hown hK hP hD hS 0 rfl rfl 4 (by decide) (ha _ w_4_38) rfl rfl rfl rfl (Nat.le_of_ble_eq_true rfl) dX7_fails_10 rfl (fun H locs hP hD hS => ?_)
      refine lv_aload_n hx hb dX7_fails_13 rfl (lv_at hl 0 rfl) ?_
      refine lv_iload_n hx hb dX7_fails_14 rfl (lv_at hl 2 rfl) ?_
      refine pt (C := RX7) (T := TX7) (N := 45) (ci := 7) (v := .int z2) (W2 := [(h_t, .inr (7, [.ref h_tape, .ref h_text, .int v_taped, .int v_size, .int z1, .int z2, .int v_at, .int v_end, .int v_token, .int v_number, .long v_name, .ref h_uName, .ref h_outName, .ref h_setName, .ref h_unitMany, .ref h_yesTo, .ref h_noTo, .ref h_settingMany, .ref h_shares, .ref h_gradeMany, .ref h_gKind, .ref h_gPurity, .ref h_gPrice, .ref h_outPlace, .ref h_setPlace, .ref h_setShare, .ref h_chosen, .int v_bank, .int v_rb, .int v_sets, .int v_missing, .ref h_rows, .ref h_parts, .long v_whole, .ref h_lTown, .ref h_lWeight, .ref h_lSampled, .ref h_hand, .ref h_isStruck, .int v_lorries, .int v_cost, .ref h_all, .ref h_bestChosen, .ref h_gets, .ref h_rests]))]) hx hb ha inAX7 tyX7 tyX7_ok nmX7 hown hK hP hD hS 0 rfl rfl 5 (by decide) (ha _ w_4_39) rfl rfl rfl rfl (Nat.le_of_ble_eq_true rfl) dX7_fails_15 rfl (fun H locs hP hD hS => ?_)
      exact hret ((), z1, z2) H locs ls _ hF hP hD hS dX7_fails_18
    · replace hF := ifF c_1 hF
      exact hret ((), v_faultKind, v_faultPlace) H locs ls _ hF hP hD hS dX7_fails_7
  rw [hH, hlo] at goal
  exact goal
theorem dX7_isGood_0 : decode cX7_isGood 0 = .ok (.aload_n 0, 1) := by decide +kernel
theorem dX7_isGood_1 : decode cX7_isGood 1 = .ok (.getfield 11, 3) := by decide +kernel
theorem dX7_isGood_4 : decode cX7_isGood 4 = .ok (.ifCond .ne 7, 3) := by decide +kernel
theorem dX7_isGood_7 : decode cX7_isGood 7 = .ok (.iconst 1, 1) := by decide +kernel
theorem dX7_isGood_8 : decode cX7_isGood 8 = .ok (.goto 4, 3) := by decide +kernel
theorem dX7_isGood_11 : decode cX7_isGood 11 = .ok (.iconst 0, 1) := by decide +kernel
theorem dX7_isGood_12 : decode cX7_isGood 12 = .ok (.ireturn, 1) := by decide +kernel
abbrev rmX7_isGood : Room := { frames := 0, cells := 0, slots := 0, locals := 0 }
theorem cb_X7_isGood : CBn yX7_isGood 0 := ⟨by decide +kernel, by decide +kernel, by decide +kernel⟩
def FX7_isGood (n : Nat) (v_faultKind : Int32) : Option (Int32 × Unit) := if v_faultKind = 0 then (some ((1 : Int32), ())) else (some ((0 : Int32), ()))
set_option maxHeartbeats 4000000 in
set_option maxRecDepth 100000 in
theorem kX7_isGood (l : Launch) (D : va_G) (cB cI cJ cZ : ClassId) (rz n sz : Nat) (h_t : Nat) (h_tape : Nat) (h_text : Nat) (h_uName : Nat) (h_outName : Nat) (h_setName : Nat) (h_unitMany : Nat) (h_yesTo : Nat) (h_noTo : Nat) (h_settingMany : Nat) (h_shares : Nat) (h_gradeMany : Nat) (h_gKind : Nat) (h_gPurity : Nat) (h_gPrice : Nat) (h_outPlace : Nat) (h_setPlace : Nat) (h_setShare : Nat) (h_chosen : Nat) (h_rows : Nat) (h_parts : Nat) (h_lTown : Nat) (h_lWeight : Nat) (h_lSampled : Nat) (h_hand : Nat) (h_isStruck : Nat) (h_all : Nat) (h_bestChosen : Nat) (h_gets : Nat) (h_rests : Nat) (v_taped : Int32) (v_size : Int32) (v_faultKind : Int32) (v_faultPlace : Int32) (v_at : Int32) (v_end : Int32) (v_token : Int32) (v_number : Int32) (v_name : Int64) (v_bank : Int32) (v_rb : Int32) (v_sets : Int32) (v_missing : Int32) (v_whole : Int64) (v_lorries : Int32) (v_cost : Int32) (hN : FX7_isGood n v_faultKind ≠ none) : Met l yX7_isGood (Cond.code yX7_isGood cX7_isGood 1 (some .boolean) :: AL) rmX7_isGood (PW D cB cI cJ cZ rz [.ref h_t] [(h_t, .inr (7, [.ref h_tape, .ref h_text, .int v_taped, .int v_size, .int v_faultKind, .int v_faultPlace, .int v_at, .int v_end, .int v_token, .int v_number, .long v_name, .ref h_uName, .ref h_outName, .ref h_setName, .ref h_unitMany, .ref h_yesTo, .ref h_noTo, .ref h_settingMany, .ref h_shares, .ref h_gradeMany, .ref h_gKind, .ref h_gPurity, .ref h_gPrice, .ref h_outPlace, .ref h_setPlace, .ref h_setShare, .ref h_chosen, .int v_bank, .int v_rb, .int v_sets, .int v_missing, .ref h_rows, .ref h_parts, .long v_whole, .ref h_lTown, .ref h_lWeight, .ref h_lSampled, .ref h_hand, .ref h_isStruck, .int v_lorries, .int v_cost, .ref h_all, .ref h_bestChosen, .ref h_gets, .ref h_rests]))] sz) (QZ D (FX7_isGood n v_faultKind) (fun u => [(h_t, .inr (7, [.ref h_tape, .ref h_text, .int v_taped, .int v_size, .int v_faultKind, .int v_faultPlace, .int v_at, .int v_end, .int v_token, .int v_number, .long v_name, .ref h_uName, .ref h_outName, .ref h_setName, .ref h_unitMany, .ref h_yesTo, .ref h_noTo, .ref h_settingMany, .ref h_shares, .ref h_gradeMany, .ref h_gKind, .ref h_gPurity, .ref h_gPrice, .ref h_outPlace, .ref h_setPlace, .ref h_setShare, .ref h_chosen, .int v_bank, .int v_rb, .int v_sets, .int v_missing, .ref h_rows, .ref h_parts, .long v_whole, .ref h_lTown, .ref h_lWeight, .ref h_lSampled, .ref h_hand, .ref h_isStruck, .int v_lorries, .int v_cost, .ref h_all, .ref h_bestChosen, .ref h_gets, .ref h_rests]))]) (va_A [(h_t, .inr (7, [.ref h_tape, .ref h_text, .int v_taped, .int v_size, .int v_faultKind, .int v_faultPlace, .int v_at, .int v_end, .int v_token, .int v_number, .long v_name, .ref h_uName, .ref h_outName, .ref h_setName, .ref h_unitMany, .ref h_yesTo, .ref h_noTo, .ref h_settingMany, .ref h_shares, .ref h_gradeMany, .ref h_gKind, .ref h_gPurity, .ref h_gPrice, .ref h_outPlace, .ref h_setPlace, .ref h_setShare, .ref h_chosen, .int v_bank, .int v_rb, .int v_sets, .int v_missing, .ref h_rows, .ref h_parts, .long v_whole, .ref h_lTown, .ref h_lWeight, .ref h_lSampled, .ref h_hand, .ref h_isStruck, .int v_lorries, .int v_cost, .ref h_all, .ref h_bestChosen, .ref h_gets, .ref h_rests]))] sz)) 0 0 (va_A [(h_t, .inr (7, [.ref h_tape, .ref h_text, .int v_taped, .int v_size, .int v_faultKind, .int v_faultPlace, .int v_at, .int v_end, .int v_token, .int v_number, .long v_name, .ref h_uName, .ref h_outName, .ref h_setName, .ref h_unitMany, .ref h_yesTo, .ref h_noTo, .ref h_settingMany, .ref h_shares, .ref h_gradeMany, .ref h_gKind, .ref h_gPurity, .ref h_gPrice, .ref h_outPlace, .ref h_setPlace, .ref h_setShare, .ref h_chosen, .int v_bank, .int v_rb, .int v_sets, .int v_missing, .ref h_rows, .ref h_parts, .long v_whole, .ref h_lTown, .ref h_lWeight, .ref h_lSampled, .ref h_hand, .ref h_isStruck, .int v_lorries, .int v_cost, .ref h_all, .ref h_bestChosen, .ref h_gets, .ref h_rests]))] sz) := by
  obtain ⟨O, hF⟩ : ∃ O, FX7_isGood n v_faultKind = O := ⟨_, rfl⟩
  rw [hF] at hN ⊢
  refine enterZ (cc := cX7_isGood) (nL := 1) (by decide) (Nat.le_of_ble_eq_true rfl) ?_
  intro p e s m below meth c A Q X hA hE hnm hsz hP hD hS hret ls hl
  obtain ⟨hx, hb, hml, hown0, ha⟩ := id X
  have hown : s.vm.findClass RX7 = some m.cls := hown0
  have hK := hE.1
  have hl : lv_has ls 1 [(0, .ref h_t)] := hl
  have hX : CallFix p m c cX7_isGood 1 s ([.ref h_t] : List Value).toArray AL RX7 := X
  have X := hX
  unfold FX7_isGood at hF
  obtain ⟨H, hH⟩ : ∃ H, H = s.heap := ⟨_, rfl⟩
  obtain ⟨locs, hlo⟩ : ∃ locs : List Loc, locs = [] := ⟨_, rfl⟩
  have hS : va_S A s.heap H locs := by rw [hH, hlo]; exact hS
  rw [← hH] at hP
  have goal : W p l e rmX7_isGood s m ([.ref h_t] : List Value).toArray below meth c H locs 0 0 Q (F0 m 0 ls []) := by
    refine lv_aload_n hx hb dX7_isGood_0 rfl (lv_at hl 0 rfl) ?_
    refine va_get (D := D) (ci := 7) (C := RX7) (T := TX7) (N := 45) hx hb ha inAX7 hown hK hP 0 rfl rfl 4 (by decide) (ha _ w_4_38) (fun _ h9 => h9) rfl dX7_isGood_1 ?_
    refine lv_if_ne (tgt := 11) hx hb dX7_isGood_4 (by decide) (fun c_1 => ?_) (fun c_1 => ?_)
    · replace hF := ifF c_1 hF
      refine lv_iconst (v := 0) hx hb dX7_isGood_11 (by decide) ?_
      exact hret ((0 : Int32), ()) H locs ls _ hF nz0 hP hD hS dX7_isGood_12
    · replace hF := ifT c_1 hF
      refine lv_iconst (v := 1) hx hb dX7_isGood_7 (by decide) ?_
      refine lv_goto (tgt := 12) hx hb dX7_isGood_8 (by decide) ?_
      exact hret ((1 : Int32), ()) H locs ls _ hF nz1 hP hD hS dX7_isGood_12
  rw [hH, hlo] at goal
  exact goal
theorem dX7_isKept_0 : decode cX7_isKept 0 = .ok (.lload_n 0, 1) := by decide +kernel
theorem dX7_isKept_1 : decode cX7_isKept 1 = .ok (.ldc2_w 17, 3) := by decide +kernel
theorem dX7_isKept_4 : decode cX7_isKept 4 = .ok (.lcmp, 1) := by decide +kernel
theorem dX7_isKept_5 : decode cX7_isKept 5 = .ok (.ifCond .eq 51, 3) := by decide +kernel
theorem dX7_isKept_8 : decode cX7_isKept 8 = .ok (.lload_n 0, 1) := by decide +kernel
theorem dX7_isKept_9 : decode cX7_isKept 9 = .ok (.ldc2_w 19, 3) := by decide +kernel
theorem dX7_isKept_12 : decode cX7_isKept 12 = .ok (.lcmp, 1) := by decide +kernel
theorem dX7_isKept_13 : decode cX7_isKept 13 = .ok (.ifCond .eq 43, 3) := by decide +kernel
theorem dX7_isKept_16 : decode cX7_isKept 16 = .ok (.lload_n 0, 1) := by decide +kernel
theorem dX7_isKept_17 : decode cX7_isKept 17 = .ok (.ldc2_w 21, 3) := by decide +kernel
theorem dX7_isKept_20 : decode cX7_isKept 20 = .ok (.lcmp, 1) := by decide +kernel
theorem dX7_isKept_21 : decode cX7_isKept 21 = .ok (.ifCond .eq 35, 3) := by decide +kernel
theorem dX7_isKept_24 : decode cX7_isKept 24 = .ok (.lload_n 0, 1) := by decide +kernel
theorem dX7_isKept_25 : decode cX7_isKept 25 = .ok (.ldc2_w 23, 3) := by decide +kernel
theorem dX7_isKept_28 : decode cX7_isKept 28 = .ok (.lcmp, 1) := by decide +kernel
theorem dX7_isKept_29 : decode cX7_isKept 29 = .ok (.ifCond .eq 27, 3) := by decide +kernel
theorem dX7_isKept_32 : decode cX7_isKept 32 = .ok (.lload_n 0, 1) := by decide +kernel
theorem dX7_isKept_33 : decode cX7_isKept 33 = .ok (.ldc2_w 25, 3) := by decide +kernel
theorem dX7_isKept_36 : decode cX7_isKept 36 = .ok (.lcmp, 1) := by decide +kernel
theorem dX7_isKept_37 : decode cX7_isKept 37 = .ok (.ifCond .eq 19, 3) := by decide +kernel
theorem dX7_isKept_40 : decode cX7_isKept 40 = .ok (.lload_n 0, 1) := by decide +kernel
theorem dX7_isKept_41 : decode cX7_isKept 41 = .ok (.ldc2_w 27, 3) := by decide +kernel
theorem dX7_isKept_44 : decode cX7_isKept 44 = .ok (.lcmp, 1) := by decide +kernel
theorem dX7_isKept_45 : decode cX7_isKept 45 = .ok (.ifCond .eq 11, 3) := by decide +kernel
theorem dX7_isKept_48 : decode cX7_isKept 48 = .ok (.lload_n 0, 1) := by decide +kernel
theorem dX7_isKept_49 : decode cX7_isKept 49 = .ok (.ldc2_w 29, 3) := by decide +kernel
theorem dX7_isKept_52 : decode cX7_isKept 52 = .ok (.lcmp, 1) := by decide +kernel
theorem dX7_isKept_53 : decode cX7_isKept 53 = .ok (.ifCond .ne 7, 3) := by decide +kernel
theorem dX7_isKept_56 : decode cX7_isKept 56 = .ok (.iconst 1, 1) := by decide +kernel
theorem dX7_isKept_57 : decode cX7_isKept 57 = .ok (.goto 4, 3) := by decide +kernel
theorem dX7_isKept_60 : decode cX7_isKept 60 = .ok (.iconst 0, 1) := by decide +kernel
theorem dX7_isKept_61 : decode cX7_isKept 61 = .ok (.ireturn, 1) := by decide +kernel
abbrev rmX7_isKept : Room := { frames := 0, cells := 0, slots := 0, locals := 0 }
theorem cb_X7_isKept : CBn yX7_isKept 1 := ⟨by decide +kernel, by decide +kernel, by decide +kernel⟩
def FX7_isKept_56 (n : Nat) (z0 : Int64) : Option (Int32 × Unit) := some ((1 : Int32), ())
def FX7_isKept (n : Nat) (z0 : Int64) : Option (Int32 × Unit) := if (lg_cmp z0 (1970170228 : Int64)) = 0 then (FX7_isKept_56 n z0) else (if (lg_cmp z0 (7955827 : Int64)) = 0 then (FX7_isKept_56 n z0) else (if (lg_cmp z0 (28271 : Int64)) = 0 then (FX7_isKept_56 n z0) else (if (lg_cmp z0 (7562612 : Int64)) = 0 then (FX7_isKept_56 n z0) else (if (lg_cmp z0 (444300616805 : Int64)) = 0 then (FX7_isKept_56 n z0) else (if (lg_cmp z0 (1650551909 : Int64)) = 0 then (FX7_isKept_56 n z0) else (if (lg_cmp z0 (125779836236645 : Int64)) = 0 then (FX7_isKept_56 n z0) else (some ((0 : Int32), ()))))))))
set_option maxHeartbeats 4000000 in
set_option maxRecDepth 100000 in
theorem kX7_isKept (l : Launch) (D : va_G) (cB cI cJ cZ : ClassId) (rz n sz : Nat) (z0 : Int64) (hN : FX7_isKept n z0 ≠ none) : Met l yX7_isKept (Cond.code yX7_isKept cX7_isKept 2 (some .boolean) :: AL) rmX7_isKept (PW D cB cI cJ cZ rz [.long z0] [] sz) (QZ D (FX7_isKept n z0) (fun u => []) (va_A [] sz)) 0 0 (va_A [] sz) := by
  obtain ⟨O, hF⟩ : ∃ O, FX7_isKept n z0 = O := ⟨_, rfl⟩
  rw [hF] at hN ⊢
  refine enterZ (cc := cX7_isKept) (nL := 2) (by decide) (Nat.le_of_ble_eq_true rfl) ?_
  intro p e s m below meth c A Q X hA hE hnm hsz hP hD hS hret ls hl
  obtain ⟨hx, hb, hml, hown0, ha⟩ := id X
  have hown : s.vm.findClass RX7 = some m.cls := hown0
  have hK := hE.1
  have hl : lv_has ls 2 [(0, .long z0)] := hl
  have hX : CallFix p m c cX7_isKept 2 s ([.long z0] : List Value).toArray AL RX7 := X
  have X := hX
  have L56 : ∀ (H : Heap) (locs : List Loc) (ls : Array Slot), FX7_isKept_56 n z0 = O → va_P D classes [] H → va_D A [] → va_S A s.heap H locs → lv_has ls 2 [] → W p l e rmX7_isKept s m ([.long z0] : List Value).toArray below meth c H locs 0 0 Q (F0 m 56 ls []) := by
    intro H locs ls hF hP hD hS hl
    unfold FX7_isKept_56 at hF
    refine lv_iconst (v := 1) hx hb dX7_isKept_56 (by decide) ?_
    refine lv_goto (tgt := 61) hx hb dX7_isKept_57 (by decide) ?_
    exact hret ((1 : Int32), ()) H locs ls _ hF nz1 hP hD hS dX7_isKept_61
  unfold FX7_isKept at hF
  obtain ⟨H, hH⟩ : ∃ H, H = s.heap := ⟨_, rfl⟩
  obtain ⟨locs, hlo⟩ : ∃ locs : List Loc, locs = [] := ⟨_, rfl⟩
  have hS : va_S A s.heap H locs := by rw [hH, hlo]; exact hS
  rw [← hH] at hP
  have goal : W p l e rmX7_isKept s m ([.long z0] : List Value).toArray below meth c H locs 0 0 Q (F0 m 0 ls []) := by
    refine lv_lload_n hx hb dX7_isKept_0 rfl (lv_at hl 0 rfl) ?_
    refine lv_ldc2 hx hb hown (ha _ w_3_150) dX7_isKept_1 ?_
    refine W.lcmp hx hb dX7_isKept_4 ?_
    refine lv_if_eq (tgt := 56) hx hb dX7_isKept_5 (by decide) (fun c_1 => ?_) (fun c_1 => ?_)
    · replace hF := ifT c_1 hF
      exact L56 H locs ls hF hP hD hS (lv_sub hl [] rfl)
    · replace hF := ifF c_1 hF
      refine lv_lload_n hx hb dX7_isKept_8 rfl (lv_at hl 0 rfl) ?_
      refine lv_ldc2 hx hb hown (ha _ w_3_151) dX7_isKept_9 ?_
      refine W.lcmp hx hb dX7_isKept_12 ?_
      refine lv_if_eq (tgt := 56) hx hb dX7_isKept_13 (by decide) (fun c_2 => ?_) (fun c_2 => ?_)
      · replace hF := ifT c_2 hF
        exact L56 H locs ls hF hP hD hS (lv_sub hl [] rfl)
      · replace hF := ifF c_2 hF
        refine lv_lload_n hx hb dX7_isKept_16 rfl (lv_at hl 0 rfl) ?_
        refine lv_ldc2 hx hb hown (ha _ w_3_152) dX7_isKept_17 ?_
        refine W.lcmp hx hb dX7_isKept_20 ?_
        refine lv_if_eq (tgt := 56) hx hb dX7_isKept_21 (by decide) (fun c_3 => ?_) (fun c_3 => ?_)
        · replace hF := ifT c_3 hF
          exact L56 H locs ls hF hP hD hS (lv_sub hl [] rfl)
        · replace hF := ifF c_3 hF
          refine lv_lload_n hx hb dX7_isKept_24 rfl (lv_at hl 0 rfl) ?_
          refine lv_ldc2 hx hb hown (ha _ w_3_153) dX7_isKept_25 ?_
          refine W.lcmp hx hb dX7_isKept_28 ?_
          refine lv_if_eq (tgt := 56) hx hb dX7_isKept_29 (by decide) (fun c_4 => ?_) (fun c_4 => ?_)
          · replace hF := ifT c_4 hF
            exact L56 H locs ls hF hP hD hS (lv_sub hl [] rfl)
          · replace hF := ifF c_4 hF
            refine lv_lload_n hx hb dX7_isKept_32 rfl (lv_at hl 0 rfl) ?_
            refine lv_ldc2 hx hb hown (ha _ w_3_154) dX7_isKept_33 ?_
            refine W.lcmp hx hb dX7_isKept_36 ?_
            refine lv_if_eq (tgt := 56) hx hb dX7_isKept_37 (by decide) (fun c_5 => ?_) (fun c_5 => ?_)
            · replace hF := ifT c_5 hF
              exact L56 H locs ls hF hP hD hS (lv_sub hl [] rfl)
            · replace hF := ifF c_5 hF
              refine lv_lload_n hx hb dX7_isKept_40 rfl (lv_at hl 0 rfl) ?_
              refine lv_ldc2 hx hb hown (ha _ w_3_155) dX7_isKept_41 ?_
              refine W.lcmp hx hb dX7_isKept_44 ?_
              refine lv_if_eq (tgt := 56) hx hb dX7_isKept_45 (by decide) (fun c_6 => ?_) (fun c_6 => ?_)
              · replace hF := ifT c_6 hF
                exact L56 H locs ls hF hP hD hS (lv_sub hl [] rfl)
              · replace hF := ifF c_6 hF
                refine lv_lload_n hx hb dX7_isKept_48 rfl (lv_at hl 0 rfl) ?_
                refine lv_ldc2 hx hb hown (ha _ w_3_156) dX7_isKept_49 ?_
                refine W.lcmp hx hb dX7_isKept_52 ?_
                refine lv_if_ne (tgt := 60) hx hb dX7_isKept_53 (by decide) (fun c_7 => ?_) (fun c_7 => ?_)
                · replace hF := ifF c_7 hF
                  refine lv_iconst (v := 0) hx hb dX7_isKept_60 (by decide) ?_
                  exact hret ((0 : Int32), ()) H locs ls _ hF nz0 hP hD hS dX7_isKept_61
                · replace hF := ifT c_7 hF
                  exact L56 H locs ls hF hP hD hS (lv_sub hl [] rfl)
  rw [hH, hlo] at goal
  exact goal
