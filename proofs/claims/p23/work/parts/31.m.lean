theorem dX7_unit_0 : decode cX7_unit 0 = .ok (.aload_n 0, 1) := by decide +kernel
theorem dX7_unit_1 : decode cX7_unit 1 = .ok (.iload_n 1, 1) := by decide +kernel
theorem dX7_unit_2 : decode cX7_unit 2 = .ok (.invokevirtual 181, 3) := by decide +kernel
theorem dX7_unit_5 : decode cX7_unit 5 = .ok (.ifCond .ne 5, 3) := by decide +kernel
theorem dX7_unit_8 : decode cX7_unit 8 = .ok (.iconst (-1), 1) := by decide +kernel
theorem dX7_unit_9 : decode cX7_unit 9 = .ok (.ireturn, 1) := by decide +kernel
theorem dX7_unit_10 : decode cX7_unit 10 = .ok (.iload_n 2, 1) := by decide +kernel
theorem dX7_unit_11 : decode cX7_unit 11 = .ok (.tableswitch 70 0 3 #[29, 35, 49, 63], 29) := by decide +kernel
theorem dX7_unit_40 : decode cX7_unit 40 = .ok (.aload_n 0, 1) := by decide +kernel
theorem dX7_unit_41 : decode cX7_unit 41 = .ok (.iload_n 1, 1) := by decide +kernel
theorem dX7_unit_42 : decode cX7_unit 42 = .ok (.invokevirtual 184, 3) := by decide +kernel
theorem dX7_unit_45 : decode cX7_unit 45 = .ok (.ireturn, 1) := by decide +kernel
theorem dX7_unit_46 : decode cX7_unit 46 = .ok (.aload_n 0, 1) := by decide +kernel
theorem dX7_unit_47 : decode cX7_unit 47 = .ok (.getfield 132, 3) := by decide +kernel
theorem dX7_unit_50 : decode cX7_unit 50 = .ok (.iconst 5, 1) := by decide +kernel
theorem dX7_unit_51 : decode cX7_unit 51 = .ok (.aload_n 0, 1) := by decide +kernel
theorem dX7_unit_52 : decode cX7_unit 52 = .ok (.getfield 83, 3) := by decide +kernel
theorem dX7_unit_55 : decode cX7_unit 55 = .ok (.imul, 1) := by decide +kernel
theorem dX7_unit_56 : decode cX7_unit 56 = .ok (.iload_n 1, 1) := by decide +kernel
theorem dX7_unit_57 : decode cX7_unit 57 = .ok (.iadd, 1) := by decide +kernel
theorem dX7_unit_58 : decode cX7_unit 58 = .ok (.iaload, 1) := by decide +kernel
theorem dX7_unit_59 : decode cX7_unit 59 = .ok (.ireturn, 1) := by decide +kernel
theorem dX7_unit_60 : decode cX7_unit 60 = .ok (.aload_n 0, 1) := by decide +kernel
theorem dX7_unit_61 : decode cX7_unit 61 = .ok (.getfield 138, 3) := by decide +kernel
theorem dX7_unit_64 : decode cX7_unit 64 = .ok (.iconst 5, 1) := by decide +kernel
theorem dX7_unit_65 : decode cX7_unit 65 = .ok (.aload_n 0, 1) := by decide +kernel
theorem dX7_unit_66 : decode cX7_unit 66 = .ok (.getfield 83, 3) := by decide +kernel
theorem dX7_unit_69 : decode cX7_unit 69 = .ok (.imul, 1) := by decide +kernel
theorem dX7_unit_70 : decode cX7_unit 70 = .ok (.iload_n 1, 1) := by decide +kernel
theorem dX7_unit_71 : decode cX7_unit 71 = .ok (.iadd, 1) := by decide +kernel
theorem dX7_unit_72 : decode cX7_unit 72 = .ok (.iaload, 1) := by decide +kernel
theorem dX7_unit_73 : decode cX7_unit 73 = .ok (.ireturn, 1) := by decide +kernel
theorem dX7_unit_74 : decode cX7_unit 74 = .ok (.aload_n 0, 1) := by decide +kernel
theorem dX7_unit_75 : decode cX7_unit 75 = .ok (.getfield 105, 3) := by decide +kernel
theorem dX7_unit_78 : decode cX7_unit 78 = .ok (.iload_n 1, 1) := by decide +kernel
theorem dX7_unit_79 : decode cX7_unit 79 = .ok (.iaload, 1) := by decide +kernel
theorem dX7_unit_80 : decode cX7_unit 80 = .ok (.ireturn, 1) := by decide +kernel
theorem dX7_unit_81 : decode cX7_unit 81 = .ok (.iconst (-1), 1) := by decide +kernel
theorem dX7_unit_82 : decode cX7_unit 82 = .ok (.ireturn, 1) := by decide +kernel
abbrev rmX7_unit : Room := { frames := 1, cells := 0, slots := 0, locals := 21 }
theorem cb_X7_unit : CBn yX7_unit 2 := ⟨by decide +kernel, by decide +kernel, by decide +kernel⟩
def FX7_unit (n : Nat) (v_bank : Int32) (a_unitMany : Nat → Int32) (a_chosen : Nat → Int32) (a_noTo : Nat → Int32) (a_yesTo : Nat → Int32) (a_settingMany : Nat → Int32) (z1 : Int32) (z2 : Int32) : Option (Int32 × Unit) := bd (FX7_isUnit n v_bank a_unitMany z1) (fun u_2 => if u_2.1 = 0 then (some ((-1 : Int32), ())) else (if z2 = (0 : Int32) then (bd (FX7_settings n v_bank a_settingMany z1) (fun u_6 => some (u_6.1, ()))) else (if z2 = (1 : Int32) then (if ¬ ((((5 : Int32) * v_bank) + z1) < 0 ∨ 10 ≤ ((((5 : Int32) * v_bank) + z1)).toNatClampNeg) then (some ((a_yesTo ((((5 : Int32) * v_bank) + z1)).toNatClampNeg), ())) else none) else (if z2 = (2 : Int32) then (if ¬ ((((5 : Int32) * v_bank) + z1) < 0 ∨ 10 ≤ ((((5 : Int32) * v_bank) + z1)).toNatClampNeg) then (some ((a_noTo ((((5 : Int32) * v_bank) + z1)).toNatClampNeg), ())) else none) else (if z2 = (3 : Int32) then (if ¬ (z1 < 0 ∨ 5 ≤ (z1).toNatClampNeg) then (some ((a_chosen (z1).toNatClampNeg), ())) else none) else (some ((-1 : Int32), ())))))))
set_option maxHeartbeats 4000000 in
set_option maxRecDepth 100000 in
theorem kX7_unit (l : Launch) (D : va_G) (cB cI cJ cZ : ClassId) (rz n sz : Nat) (h_t : Nat) (h_unitMany : Nat) (h_chosen : Nat) (h_noTo : Nat) (h_yesTo : Nat) (h_settingMany : Nat) (h_tape : Nat) (h_text : Nat) (h_uName : Nat) (h_outName : Nat) (h_setName : Nat) (h_shares : Nat) (h_gradeMany : Nat) (h_gKind : Nat) (h_gPurity : Nat) (h_gPrice : Nat) (h_outPlace : Nat) (h_setPlace : Nat) (h_setShare : Nat) (h_rows : Nat) (h_parts : Nat) (h_lTown : Nat) (h_lWeight : Nat) (h_lSampled : Nat) (h_hand : Nat) (h_isStruck : Nat) (h_all : Nat) (h_bestChosen : Nat) (h_gets : Nat) (h_rests : Nat) (v_taped : Int32) (v_size : Int32) (v_faultKind : Int32) (v_faultPlace : Int32) (v_at : Int32) (v_end : Int32) (v_token : Int32) (v_number : Int32) (v_name : Int64) (v_bank : Int32) (v_rb : Int32) (v_sets : Int32) (v_missing : Int32) (v_whole : Int64) (v_lorries : Int32) (v_cost : Int32) (a_unitMany : Nat → Int32) (a_chosen : Nat → Int32) (a_noTo : Nat → Int32) (a_yesTo : Nat → Int32) (a_settingMany : Nat → Int32) (z1 : Int32) (z2 : Int32) (hN : FX7_unit n v_bank a_unitMany a_chosen a_noTo a_yesTo a_settingMany z1 z2 ≠ none) : Met l yX7_unit (Cond.code yX7_unit cX7_unit 3 (some .int) :: AL) rmX7_unit (PW D cB cI cJ cZ rz [.ref h_t, .int z1, .int z2] [(h_t, .inr (7, [.ref h_tape, .ref h_text, .int v_taped, .int v_size, .int v_faultKind, .int v_faultPlace, .int v_at, .int v_end, .int v_token, .int v_number, .long v_name, .ref h_uName, .ref h_outName, .ref h_setName, .ref h_unitMany, .ref h_yesTo, .ref h_noTo, .ref h_settingMany, .ref h_shares, .ref h_gradeMany, .ref h_gKind, .ref h_gPurity, .ref h_gPrice, .ref h_outPlace, .ref h_setPlace, .ref h_setShare, .ref h_chosen, .int v_bank, .int v_rb, .int v_sets, .int v_missing, .ref h_rows, .ref h_parts, .long v_whole, .ref h_lTown, .ref h_lWeight, .ref h_lSampled, .ref h_hand, .ref h_isStruck, .int v_lorries, .int v_cost, .ref h_all, .ref h_bestChosen, .ref h_gets, .ref h_rests])), (h_unitMany, .inl (cI, 2, .inl a_unitMany)), (h_chosen, .inl (cI, 5, .inl a_chosen)), (h_noTo, .inl (cI, 10, .inl a_noTo)), (h_yesTo, .inl (cI, 10, .inl a_yesTo)), (h_settingMany, .inl (cI, 10, .inl a_settingMany))] sz) (QI D (FX7_unit n v_bank a_unitMany a_chosen a_noTo a_yesTo a_settingMany z1 z2) (fun u => [(h_t, .inr (7, [.ref h_tape, .ref h_text, .int v_taped, .int v_size, .int v_faultKind, .int v_faultPlace, .int v_at, .int v_end, .int v_token, .int v_number, .long v_name, .ref h_uName, .ref h_outName, .ref h_setName, .ref h_unitMany, .ref h_yesTo, .ref h_noTo, .ref h_settingMany, .ref h_shares, .ref h_gradeMany, .ref h_gKind, .ref h_gPurity, .ref h_gPrice, .ref h_outPlace, .ref h_setPlace, .ref h_setShare, .ref h_chosen, .int v_bank, .int v_rb, .int v_sets, .int v_missing, .ref h_rows, .ref h_parts, .long v_whole, .ref h_lTown, .ref h_lWeight, .ref h_lSampled, .ref h_hand, .ref h_isStruck, .int v_lorries, .int v_cost, .ref h_all, .ref h_bestChosen, .ref h_gets, .ref h_rests])), (h_unitMany, .inl (cI, 2, .inl a_unitMany)), (h_chosen, .inl (cI, 5, .inl a_chosen)), (h_noTo, .inl (cI, 10, .inl a_noTo)), (h_yesTo, .inl (cI, 10, .inl a_yesTo)), (h_settingMany, .inl (cI, 10, .inl a_settingMany))]) (va_A [(h_t, .inr (7, [.ref h_tape, .ref h_text, .int v_taped, .int v_size, .int v_faultKind, .int v_faultPlace, .int v_at, .int v_end, .int v_token, .int v_number, .long v_name, .ref h_uName, .ref h_outName, .ref h_setName, .ref h_unitMany, .ref h_yesTo, .ref h_noTo, .ref h_settingMany, .ref h_shares, .ref h_gradeMany, .ref h_gKind, .ref h_gPurity, .ref h_gPrice, .ref h_outPlace, .ref h_setPlace, .ref h_setShare, .ref h_chosen, .int v_bank, .int v_rb, .int v_sets, .int v_missing, .ref h_rows, .ref h_parts, .long v_whole, .ref h_lTown, .ref h_lWeight, .ref h_lSampled, .ref h_hand, .ref h_isStruck, .int v_lorries, .int v_cost, .ref h_all, .ref h_bestChosen, .ref h_gets, .ref h_rests])), (h_unitMany, .inl (cI, 2, .inl a_unitMany)), (h_chosen, .inl (cI, 5, .inl a_chosen)), (h_noTo, .inl (cI, 10, .inl a_noTo)), (h_yesTo, .inl (cI, 10, .inl a_yesTo)), (h_settingMany, .inl (cI, 10, .inl a_settingMany))] sz)) 0 0 (va_A [(h_t, .inr (7, [.ref h_tape, .ref h_text, .int v_taped, .int v_size, .int v_faultKind, .int v_faultPlace, .int v_at, .int v_end, .int v_token, .int v_number, .long v_name, .ref h_uName, .ref h_outName, .ref h_setName, .ref h_unitMany, .ref h_yesTo, .ref h_noTo, .ref h_settingMany, .ref h_shares, .ref h_gradeMany, .ref h_gKind, .ref h_gPurity, .ref h_gPrice, .ref h_outPlace, .ref h_setPlace, .ref h_setShare, .ref h_chosen, .int v_bank, .int v_rb, .int v_sets, .int v_missing, .ref h_rows, .ref h_parts, .long v_whole, .ref h_lTown, .ref h_lWeight, .ref h_lSampled, .ref h_hand, .ref h_isStruck, .int v_lorries, .int v_cost, .ref h_all, .ref h_bestChosen, .ref h_gets, .ref h_rests])), (h_unitMany, .inl (cI, 2, .inl a_unitMany)), (h_chosen, .inl (cI, 5, .inl a_chosen)), (h_noTo, .inl (cI, 10, .inl a_noTo)), (h_yesTo, .inl (cI, 10, .inl a_yesTo)), (h_settingMany, .inl (cI, 10, .inl a_settingMany))] sz) := by
  obtain ⟨O, hF⟩ : ∃ O, FX7_unit n v_bank a_unitMany a_chosen a_noTo a_yesTo a_settingMany z1 z2 = O := ⟨_, rfl⟩
  rw [hF] at hN ⊢
  refine enterI (cc := cX7_unit) (nL := 3) (by decide) (Nat.le_of_ble_eq_true rfl) ?_
  intro p e s m below meth c A Q X hA hE hnm hsz hP hD hS hret ls hl
  obtain ⟨hx, hb, hml, hown0, ha⟩ := id X
  have hown : s.vm.findClass RX7 = some m.cls := hown0
  have hK := hE.1
  have hl : lv_has ls 3 [(0, .ref h_t), (1, .int z1), (2, .int z2)] := hl
  have hX : CallFix p m c cX7_unit 3 s ([.ref h_t, .int z1, .int z2] : List Value).toArray AL RX7 := X
  have X := hX
  unfold FX7_unit at hF
  obtain ⟨H, hH⟩ : ∃ H, H = s.heap := ⟨_, rfl⟩
  obtain ⟨locs, hlo⟩ : ∃ locs : List Loc, locs = [] := ⟨_, rfl⟩
  have hS : va_S A s.heap H locs := by rw [hH, hlo]; exact hS
  rw [← hH] at hP
  have goal : W p l e rmX7_unit s m ([.ref h_t, .int z1, .int z2] : List Value).toArray below meth c H locs 0 0 Q (F0 m 0 ls []) := by
    refine lv_aload_n hx hb dX7_unit_0 rfl (lv_at hl 0 rfl) ?_
    refine lv_iload_n hx hb dX7_unit_1 rfl (lv_at hl 1 rfl) ?_
    have hn_1 := bdN hN hF
    refine callVZ (As := [.int z1]) (rest := []) (wr := [(h_chosen, .inl (cI, 5, .inl a_chosen)), (h_noTo, .inl (cI, 10, .inl a_noTo)), (h_yesTo, .inl (cI, 10, .inl a_yesTo)), (h_settingMany, .inl (cI, 10, .inl a_settingMany))]) (W2 := fun u_2 => [(h_t, .inr (7, [.ref h_tape, .ref h_text, .int v_taped, .int v_size, .int v_faultKind, .int v_faultPlace, .int v_at, .int v_end, .int v_token, .int v_number, .long v_name, .ref h_uName, .ref h_outName, .ref h_setName, .ref h_unitMany, .ref h_yesTo, .ref h_noTo, .ref h_settingMany, .ref h_shares, .ref h_gradeMany, .ref h_gKind, .ref h_gPurity, .ref h_gPrice, .ref h_outPlace, .ref h_setPlace, .ref h_setShare, .ref h_chosen, .int v_bank, .int v_rb, .int v_sets, .int v_missing, .ref h_rows, .ref h_parts, .long v_whole, .ref h_lTown, .ref h_lWeight, .ref h_lSampled, .ref h_hand, .ref h_isStruck, .int v_lorries, .int v_cost, .ref h_all, .ref h_bestChosen, .ref h_gets, .ref h_rests])), (h_unitMany, .inl (cI, 2, .inl a_unitMany)), (h_chosen, .inl (cI, 5, .inl a_chosen)), (h_noTo, .inl (cI, 10, .inl a_noTo)), (h_yesTo, .inl (cI, 10, .inl a_yesTo)), (h_settingMany, .inl (cI, 10, .inl a_settingMany))]) X hE hP hD hS hA (kX7_isUnit l D cB cI cJ cZ rz n H.size h_t h_unitMany h_tape h_text h_uName h_outName h_setName h_yesTo h_noTo h_settingMany h_shares h_gradeMany h_gKind h_gPurity h_gPrice h_outPlace h_setPlace h_setShare h_chosen h_rows h_parts h_lTown h_lWeight h_lSampled h_hand h_isStruck h_all h_bestChosen h_gets h_rests v_taped v_size v_faultKind v_faultPlace v_at v_end v_token v_number v_name v_bank v_rb v_sets v_missing v_whole v_lorries v_cost a_unitMany z1 hn_1) w_3_224 w_3_226 ws_62 w_1_9 w_3_227 cb_X7_isUnit rfl rfl ⟨Nat.le_of_ble_eq_true rfl, Nat.le_of_ble_eq_true rfl⟩ rfl hl.1 rfl (Nat.le_of_ble_eq_true rfl) dX7_unit_2 ⟨Nat.le_of_ble_eq_true rfl, Nat.le_of_ble_eq_true rfl⟩ (c2 := 0) (s2 := 0) rfl rfl (k0 := 0) rfl rfl [0, 1] [2, 3, 4, 5] [4, 5, 0, 1, 2, 3] rfl rfl (by decide) (by decide) (by decide) (by decide) (fun _ => rfl) (fun u_2 H locs hG hzu_2 hP hD hS => ?_)
    replace hF := bdQ hG hF
    refine lv_if_ne (tgt := 10) hx hb dX7_unit_5 (by decide) (fun c_3 => ?_) (fun c_3 => ?_)
    · replace hF := ifF c_3 hF
      refine lv_iload_n hx hb dX7_unit_10 rfl (lv_at hl 2 rfl) ?_
      by_cases c_4 : z2 = (0 : Int32)
      · replace hF := ifT c_4 hF
        refine tsI (k := 0) (off := 29) (tgt := 40) hx hb c_4 dX7_unit_11 (by decide) (by decide) (by decide) (by decide) ?_
        refine lv_aload_n hx hb dX7_unit_40 rfl (lv_at hl 0 rfl) ?_
        refine lv_iload_n hx hb dX7_unit_41 rfl (lv_at hl 1 rfl) ?_
        have hn_5 := bdN hN hF
        refine callVI (As := [.int z1]) (rest := []) (wr := [(h_unitMany, .inl (cI, 2, .inl a_unitMany)), (h_chosen, .inl (cI, 5, .inl a_chosen)), (h_noTo, .inl (cI, 10, .inl a_noTo)), (h_yesTo, .inl (cI, 10, .inl a_yesTo))]) (W2 := fun u_6 => [(h_t, .inr (7, [.ref h_tape, .ref h_text, .int v_taped, .int v_size, .int v_faultKind, .int v_faultPlace, .int v_at, .int v_end, .int v_token, .int v_number, .long v_name, .ref h_uName, .ref h_outName, .ref h_setName, .ref h_unitMany, .ref h_yesTo, .ref h_noTo, .ref h_settingMany, .ref h_shares, .ref h_gradeMany, .ref h_gKind, .ref h_gPurity, .ref h_gPrice, .ref h_outPlace, .ref h_setPlace, .ref h_setShare, .ref h_chosen, .int v_bank, .int v_rb, .int v_sets, .int v_missing, .ref h_rows, .ref h_parts, .long v_whole, .ref h_lTown, .ref h_lWeight, .ref h_lSampled, .ref h_hand, .ref h_isStruck, .int v_lorries, .int v_cost, .ref h_all, .ref h_bestChosen, .ref h_gets, .ref h_rests])), (h_unitMany, .inl (cI, 2, .inl a_unitMany)), (h_chosen, .inl (cI, 5, .inl a_chosen)), (h_noTo, .inl (cI, 10, .inl a_noTo)), (h_yesTo, .inl (cI, 10, .inl a_yesTo)), (h_settingMany, .inl (cI, 10, .inl a_settingMany))]) X hE hP hD hS hA (kX7_settings l D cB cI cJ cZ rz n H.size h_t h_settingMany h_tape h_text h_uName h_outName h_setName h_unitMany h_yesTo h_noTo h_shares h_gradeMany h_gKind h_gPurity h_gPrice h_outPlace h_setPlace h_setShare h_chosen h_rows h_parts h_lTown h_lWeight h_lSampled h_hand h_isStruck h_all h_bestChosen h_gets h_rests v_taped v_size v_faultKind v_faultPlace v_at v_end v_token v_number v_name v_bank v_rb v_sets v_missing v_whole v_lorries v_cost a_settingMany z1 hn_5) w_3_228 w_3_230 ws_63 w_1_9 w_3_231 cb_X7_settings rfl rfl ⟨Nat.le_of_ble_eq_true rfl, Nat.le_of_ble_eq_true rfl⟩ rfl hl.1 rfl (Nat.le_of_ble_eq_true rfl) dX7_unit_42 ⟨Nat.le_of_ble_eq_true rfl, Nat.le_of_ble_eq_true rfl⟩ (c2 := 0) (s2 := 0) rfl rfl (k0 := 0) rfl rfl [0, 5] [1, 2, 3, 4] [4, 0, 1, 2, 3, 5] rfl rfl (by decide) (by decide) (by decide) (by decide) (fun _ => rfl) (fun u_6 H locs hG hP hD hS => ?_)
        replace hF := bdQ hG hF
        exact hret (u_6.1, ()) H locs ls _ hF hP hD hS dX7_unit_45
      · replace hF := ifF c_4 hF
        by_cases c_7 : z2 = (1 : Int32)
        · replace hF := ifT c_7 hF
          refine tsI (k := 1) (off := 35) (tgt := 46) hx hb c_7 dX7_unit_11 (by decide) (by decide) (by decide) (by decide) ?_
          refine lv_aload_n hx hb dX7_unit_46 rfl (lv_at hl 0 rfl) ?_
          refine va_get (D := D) (ci := 7) (C := RX7) (T := TX7) (N := 45) hx hb ha inAX7 hown hK hP 0 rfl rfl 15 (by decide) (ha _ w_4_49) (fun _ h9 => h9) rfl dX7_unit_47 ?_
          refine lv_iconst (v := 5) hx hb dX7_unit_50 (by decide) ?_
          refine lv_aload_n hx hb dX7_unit_51 rfl (lv_at hl 0 rfl) ?_
          refine va_get (D := D) (ci := 7) (C := RX7) (T := TX7) (N := 45) hx hb ha inAX7 hown hK hP 0 rfl rfl 27 (by decide) (ha _ w_4_61) (fun _ h9 => h9) rfl dX7_unit_52 ?_
          refine lv_imul hx hb dX7_unit_55 ?_
          refine lv_iload_n hx hb dX7_unit_56 rfl (lv_at hl 1 rfl) ?_
          refine lv_iadd hx hb dX7_unit_57 ?_
          replace hF := ckP hN hF
          obtain ⟨c_8, hF⟩ := hF
          refine ld_i hx hb hK hP 4 rfl c_8 dX7_unit_58 ?_
          exact hret ((a_yesTo ((((5 : Int32) * v_bank) + z1)).toNatClampNeg), ()) H locs ls _ hF hP hD hS dX7_unit_59
        · replace hF := ifF c_7 hF
          by_cases c_9 : z2 = (2 : Int32)
          · replace hF := ifT c_9 hF
            refine tsI (k := 2) (off := 49) (tgt := 60) hx hb c_9 dX7_unit_11 (by decide) (by decide) (by decide) (by decide) ?_
            refine lv_aload_n hx hb dX7_unit_60 rfl (lv_at hl 0 rfl) ?_
            refine va_get (D := D) (ci := 7) (C := RX7) (T := TX7) (N := 45) hx hb ha inAX7 hown hK hP 0 rfl rfl 16 (by decide) (ha _ w_4_50) (fun _ h9 => h9) rfl dX7_unit_61 ?_
            refine lv_iconst (v := 5) hx hb dX7_unit_64 (by decide) ?_
            refine lv_aload_n hx hb dX7_unit_65 rfl (lv_at hl 0 rfl) ?_
            refine va_get (D := D) (ci := 7) (C := RX7) (T := TX7) (N := 45) hx hb ha inAX7 hown hK hP 0 rfl rfl 27 (by decide) (ha _ w_4_61) (fun _ h9 => h9) rfl dX7_unit_66 ?_
            refine lv_imul hx hb dX7_unit_69 ?_
            refine lv_iload_n hx hb dX7_unit_70 rfl (lv_at hl 1 rfl) ?_
            refine lv_iadd hx hb dX7_unit_71 ?_
            replace hF := ckP hN hF
            obtain ⟨c_10, hF⟩ := hF
            refine ld_i hx hb hK hP 3 rfl c_10 dX7_unit_72 ?_
            exact hret ((a_noTo ((((5 : Int32) * v_bank) + z1)).toNatClampNeg), ()) H locs ls _ hF hP hD hS dX7_unit_73
          · replace hF := ifF c_9 hF
            by_cases c_11 : z2 = (3 : Int32)
            · replace hF := ifT c_11 hF
              refine tsI (k := 3) (off := 63) (tgt := 74) hx hb c_11 dX7_unit_11 (by decide) (by decide) (by decide) (by decide) ?_
              refine lv_aload_n hx hb dX7_unit_74 rfl (lv_at hl 0 rfl) ?_
              refine va_get (D := D) (ci := 7) (C := RX7) (T := TX7) (N := 45) hx hb ha inAX7 hown hK hP 0 rfl rfl 26 (by decide) (ha _ w_4_60) (fun _ h9 => h9) rfl dX7_unit_75 ?_
              refine lv_iload_n hx hb dX7_unit_78 rfl (lv_at hl 1 rfl) ?_
              replace hF := ckP hN hF
              obtain ⟨c_12, hF⟩ := hF
              refine ld_i hx hb hK hP 2 rfl c_12 dX7_unit_79 ?_
              exact hret ((a_chosen (z1).toNatClampNeg), ()) H locs ls _ hF hP hD hS dX7_unit_80
            · replace hF := ifF c_11 hF
              refine tsO (hi := 3) (tgt := 81) hx hb (fun k hk => match k, hk with | 0, _ => c_4 | 1, _ => c_7 | 2, _ => c_9 | 3, _ => c_11 | k + 4, hk => absurd hk (by omega)) dX7_unit_11 (by decide) (by decide) ?_
              refine lv_iconst (v := -1) hx hb dX7_unit_81 (by decide) ?_
              exact hret ((-1 : Int32), ()) H locs ls _ hF hP hD hS dX7_unit_82
    · replace hF := ifT c_3 hF
      refine lv_iconst (v := -1) hx hb dX7_unit_8 (by decide) ?_
      exact hret ((-1 : Int32), ()) H locs ls _ hF hP hD hS dX7_unit_9
  rw [hH, hlo] at goal
  exact goal
theorem dX7_setting_0 : decode cX7_setting 0 = .ok (.aload_n 0, 1) := by decide +kernel
theorem dX7_setting_1 : decode cX7_setting 1 = .ok (.iload_n 1, 1) := by decide +kernel
theorem dX7_setting_2 : decode cX7_setting 2 = .ok (.invokevirtual 181, 3) := by decide +kernel
theorem dX7_setting_5 : decode cX7_setting 5 = .ok (.ifCond .eq 23, 3) := by decide +kernel
theorem dX7_setting_8 : decode cX7_setting 8 = .ok (.iload_n 3, 1) := by decide +kernel
theorem dX7_setting_9 : decode cX7_setting 9 = .ok (.invokestatic 187, 3) := by decide +kernel
theorem dX7_setting_12 : decode cX7_setting 12 = .ok (.ifCond .eq 16, 3) := by decide +kernel
theorem dX7_setting_15 : decode cX7_setting 15 = .ok (.iload_n 2, 1) := by decide +kernel
theorem dX7_setting_16 : decode cX7_setting 16 = .ok (.ifCond .lt 12, 3) := by decide +kernel
theorem dX7_setting_19 : decode cX7_setting 19 = .ok (.iload_n 2, 1) := by decide +kernel
theorem dX7_setting_20 : decode cX7_setting 20 = .ok (.aload_n 0, 1) := by decide +kernel
theorem dX7_setting_21 : decode cX7_setting 21 = .ok (.iload_n 1, 1) := by decide +kernel
theorem dX7_setting_22 : decode cX7_setting 22 = .ok (.invokevirtual 184, 3) := by decide +kernel
theorem dX7_setting_25 : decode cX7_setting 25 = .ok (.if_icmp .lt 7, 3) := by decide +kernel
theorem dX7_setting_28 : decode cX7_setting 28 = .ok (.iconst (-1), 1) := by decide +kernel
theorem dX7_setting_29 : decode cX7_setting 29 = .ok (.goto 10, 3) := by decide +kernel
theorem dX7_setting_32 : decode cX7_setting 32 = .ok (.aload_n 0, 1) := by decide +kernel
theorem dX7_setting_33 : decode cX7_setting 33 = .ok (.iload_n 1, 1) := by decide +kernel
theorem dX7_setting_34 : decode cX7_setting 34 = .ok (.iload_n 2, 1) := by decide +kernel
theorem dX7_setting_35 : decode cX7_setting 35 = .ok (.iload_n 3, 1) := by decide +kernel
theorem dX7_setting_36 : decode cX7_setting 36 = .ok (.invokevirtual 190, 3) := by decide +kernel
theorem dX7_setting_39 : decode cX7_setting 39 = .ok (.ireturn, 1) := by decide +kernel
abbrev rmX7_setting : Room := { frames := 1, cells := 0, slots := 0, locals := 23 }
theorem cb_X7_setting : CBn yX7_setting 3 := ⟨by decide +kernel, by decide +kernel, by decide +kernel⟩
def FX7_setting_28 (n : Nat) (v_bank : Int32) (a_unitMany : Nat → Int32) (a_settingMany : Nat → Int32) (a_shares : Nat → Int32) (z1 : Int32) (z2 : Int32) (z3 : Int32) : Option (Int32 × Unit) := some ((-1 : Int32), ())
def FX7_setting (n : Nat) (v_bank : Int32) (a_unitMany : Nat → Int32) (a_settingMany : Nat → Int32) (a_shares : Nat → Int32) (z1 : Int32) (z2 : Int32) (z3 : Int32) : Option (Int32 × Unit) := bd (FX7_isUnit n v_bank a_unitMany z1) (fun u_2 => if u_2.1 = 0 then (FX7_setting_28 n v_bank a_unitMany a_settingMany a_shares z1 z2 z3) else (bd (FX7_isKind n z3) (fun u_5 => if u_5.1 = 0 then (FX7_setting_28 n v_bank a_unitMany a_settingMany a_shares z1 z2 z3) else (if z2 < 0 then (FX7_setting_28 n v_bank a_unitMany a_settingMany a_shares z1 z2 z3) else (bd (FX7_settings n v_bank a_settingMany z1) (fun u_9 => if z2 < u_9.1 then (bd (FX7_goes n v_bank a_settingMany a_shares z1 z2 z3) (fun u_12 => some (u_12.1, ()))) else (FX7_setting_28 n v_bank a_unitMany a_settingMany a_shares z1 z2 z3)))))))
set_option maxHeartbeats 4000000 in
set_option maxRecDepth 100000 in
theorem kX7_setting (l : Launch) (D : va_G) (cB cI cJ cZ : ClassId) (rz n sz : Nat) (h_t : Nat) (h_unitMany : Nat) (h_settingMany : Nat) (h_shares : Nat) (h_tape : Nat) (h_text : Nat) (h_uName : Nat) (h_outName : Nat) (h_setName : Nat) (h_yesTo : Nat) (h_noTo : Nat) (h_gradeMany : Nat) (h_gKind : Nat) (h_gPurity : Nat) (h_gPrice : Nat) (h_outPlace : Nat) (h_setPlace : Nat) (h_setShare : Nat) (h_chosen : Nat) (h_rows : Nat) (h_parts : Nat) (h_lTown : Nat) (h_lWeight : Nat) (h_lSampled : Nat) (h_hand : Nat) (h_isStruck : Nat) (h_all : Nat) (h_bestChosen : Nat) (h_gets : Nat) (h_rests : Nat) (v_taped : Int32) (v_size : Int32) (v_faultKind : Int32) (v_faultPlace : Int32) (v_at : Int32) (v_end : Int32) (v_token : Int32) (v_number : Int32) (v_name : Int64) (v_bank : Int32) (v_rb : Int32) (v_sets : Int32) (v_missing : Int32) (v_whole : Int64) (v_lorries : Int32) (v_cost : Int32) (a_unitMany : Nat → Int32) (a_settingMany : Nat → Int32) (a_shares : Nat → Int32) (z1 : Int32) (z2 : Int32) (z3 : Int32) (hN : FX7_setting n v_bank a_unitMany a_settingMany a_shares z1 z2 z3 ≠ none) : Met l yX7_setting (Cond.code yX7_setting cX7_setting 4 (some .int) :: AL) rmX7_setting (PW D cB cI cJ cZ rz [.ref h_t, .int z1, .int z2, .int z3] [(h_t, .inr (7, [.ref h_tape, .ref h_text, .int v_taped, .int v_size, .int v_faultKind, .int v_faultPlace, .int v_at, .int v_end, .int v_token, .int v_number, .long v_name, .ref h_uName, .ref h_outName, .ref h_setName, .ref h_unitMany, .ref h_yesTo, .ref h_noTo, .ref h_settingMany, .ref h_shares, .ref h_gradeMany, .ref h_gKind, .ref h_gPurity, .ref h_gPrice, .ref h_outPlace, .ref h_setPlace, .ref h_setShare, .ref h_chosen, .int v_bank, .int v_rb, .int v_sets, .int v_missing, .ref h_rows, .ref h_parts, .long v_whole, .ref h_lTown, .ref h_lWeight, .ref h_lSampled, .ref h_hand, .ref h_isStruck, .int v_lorries, .int v_cost, .ref h_all, .ref h_bestChosen, .ref h_gets, .ref h_rests])), (h_unitMany, .inl (cI, 2, .inl a_unitMany)), (h_settingMany, .inl (cI, 10, .inl a_settingMany)), (h_shares, .inl (cI, 150, .inl a_shares))] sz) (QI D (FX7_setting n v_bank a_unitMany a_settingMany a_shares z1 z2 z3) (fun u => [(h_t, .inr (7, [.ref h_tape, .ref h_text, .int v_taped, .int v_size, .int v_faultKind, .int v_faultPlace, .int v_at, .int v_end, .int v_token, .int v_number, .long v_name, .ref h_uName, .ref h_outName, .ref h_setName, .ref h_unitMany, .ref h_yesTo, .ref h_noTo, .ref h_settingMany, .ref h_shares, .ref h_gradeMany, .ref h_gKind, .ref h_gPurity, .ref h_gPrice, .ref h_outPlace, .ref h_setPlace, .ref h_setShare, .ref h_chosen, .int v_bank, .int v_rb, .int v_sets, .int v_missing, .ref h_rows, .ref h_parts, .long v_whole, .ref h_lTown, .ref h_lWeight, .ref h_lSampled, .ref h_hand, .ref h_isStruck, .int v_lorries, .int v_cost, .ref h_all, .ref h_bestChosen, .ref h_gets, .ref h_rests])), (h_unitMany, .inl (cI, 2, .inl a_unitMany)), (h_settingMany, .inl (cI, 10, .inl a_settingMany)), (h_shares, .inl (cI, 150, .inl a_shares))]) (va_A [(h_t, .inr (7, [.ref h_tape, .ref h_text, .int v_taped, .int v_size, .int v_faultKind, .int v_faultPlace, .int v_at, .int v_end, .int v_token, .int v_number, .long v_name, .ref h_uName, .ref h_outName, .ref h_setName, .ref h_unitMany, .ref h_yesTo, .ref h_noTo, .ref h_settingMany, .ref h_shares, .ref h_gradeMany, .ref h_gKind, .ref h_gPurity, .ref h_gPrice, .ref h_outPlace, .ref h_setPlace, .ref h_setShare, .ref h_chosen, .int v_bank, .int v_rb, .int v_sets, .int v_missing, .ref h_rows, .ref h_parts, .long v_whole, .ref h_lTown, .ref h_lWeight, .ref h_lSampled, .ref h_hand, .ref h_isStruck, .int v_lorries, .int v_cost, .ref h_all, .ref h_bestChosen, .ref h_gets, .ref h_rests])), (h_unitMany, .inl (cI, 2, .inl a_unitMany)), (h_settingMany, .inl (cI, 10, .inl a_settingMany)), (h_shares, .inl (cI, 150, .inl a_shares))] sz)) 0 0 (va_A [(h_t, .inr (7, [.ref h_tape, .ref h_text, .int v_taped, .int v_size, .int v_faultKind, .int v_faultPlace, .int v_at, .int v_end, .int v_token, .int v_number, .long v_name, .ref h_uName, .ref h_outName, .ref h_setName, .ref h_unitMany, .ref h_yesTo, .ref h_noTo, .ref h_settingMany, .ref h_shares, .ref h_gradeMany, .ref h_gKind, .ref h_gPurity, .ref h_gPrice, .ref h_outPlace, .ref h_setPlace, .ref h_setShare, .ref h_chosen, .int v_bank, .int v_rb, .int v_sets, .int v_missing, .ref h_rows, .ref h_parts, .long v_whole, .ref h_lTown, .ref h_lWeight, .ref h_lSampled, .ref h_hand, .ref h_isStruck, .int v_lorries, .int v_cost, .ref h_all, .ref h_bestChosen, .ref h_gets, .ref h_rests])), (h_unitMany, .inl (cI, 2, .inl a_unitMany)), (h_settingMany, .inl (cI, 10, .inl a_settingMany)), (h_shares, .inl (cI, 150, .inl a_shares))] sz) := by
  obtain ⟨O, hF⟩ : ∃ O, FX7_setting n v_bank a_unitMany a_settingMany a_shares z1 z2 z3 = O := ⟨_, rfl⟩
  rw [hF] at hN ⊢
  refine enterI (cc := cX7_setting) (nL := 4) (by decide) (Nat.le_of_ble_eq_true rfl) ?_
  intro p e s m below meth c A Q X hA hE hnm hsz hP hD hS hret ls hl
  obtain ⟨hx, hb, hml, hown0, ha⟩ := id X
  have hown : s.vm.findClass RX7 = some m.cls := hown0
  have hK := hE.1
  have hl : lv_has ls 4 [(0, .ref h_t), (1, .int z1), (2, .int z2), (3, .int z3)] := hl
  have hX : CallFix p m c cX7_setting 4 s ([.ref h_t, .int z1, .int z2, .int z3] : List Value).toArray AL RX7 := X
  have X := hX
  have L28 : ∀ (H : Heap) (locs : List Loc) (ls : Array Slot), FX7_setting_28 n v_bank a_unitMany a_settingMany a_shares z1 z2 z3 = O → va_P D classes [(h_t, .inr (7, [.ref h_tape, .ref h_text, .int v_taped, .int v_size, .int v_faultKind, .int v_faultPlace, .int v_at, .int v_end, .int v_token, .int v_number, .long v_name, .ref h_uName, .ref h_outName, .ref h_setName, .ref h_unitMany, .ref h_yesTo, .ref h_noTo, .ref h_settingMany, .ref h_shares, .ref h_gradeMany, .ref h_gKind, .ref h_gPurity, .ref h_gPrice, .ref h_outPlace, .ref h_setPlace, .ref h_setShare, .ref h_chosen, .int v_bank, .int v_rb, .int v_sets, .int v_missing, .ref h_rows, .ref h_parts, .long v_whole, .ref h_lTown, .ref h_lWeight, .ref h_lSampled, .ref h_hand, .ref h_isStruck, .int v_lorries, .int v_cost, .ref h_all, .ref h_bestChosen, .ref h_gets, .ref h_rests])), (h_unitMany, .inl (cI, 2, .inl a_unitMany)), (h_settingMany, .inl (cI, 10, .inl a_settingMany)), (h_shares, .inl (cI, 150, .inl a_shares))] H → va_D A [(h_t, .inr (7, [.ref h_tape, .ref h_text, .int v_taped, .int v_size, .int v_faultKind, .int v_faultPlace, .int v_at, .int v_end, .int v_token, .int v_number, .long v_name, .ref h_uName, .ref h_outName, .ref h_setName, .ref h_unitMany, .ref h_yesTo, .ref h_noTo, .ref h_settingMany, .ref h_shares, .ref h_gradeMany, .ref h_gKind, .ref h_gPurity, .ref h_gPrice, .ref h_outPlace, .ref h_setPlace, .ref h_setShare, .ref h_chosen, .int v_bank, .int v_rb, .int v_sets, .int v_missing, .ref h_rows, .ref h_parts, .long v_whole, .ref h_lTown, .ref h_lWeight, .ref h_lSampled, .ref h_hand, .ref h_isStruck, .int v_lorries, .int v_cost, .ref h_all, .ref h_bestChosen, .ref h_gets, .ref h_rests])), (h_unitMany, .inl (cI, 2, .inl a_unitMany)), (h_settingMany, .inl (cI, 10, .inl a_settingMany)), (h_shares, .inl (cI, 150, .inl a_shares))] → va_S A s.heap H locs → lv_has ls 4 [] → W p l e rmX7_setting s m ([.ref h_t, .int z1, .int z2, .int z3] : List Value).toArray below meth c H locs 0 0 Q (F0 m 28 ls []) := by
    intro H locs ls hF hP hD hS hl
    unfold FX7_setting_28 at hF
    refine lv_iconst (v := -1) hx hb dX7_setting_28 (by decide) ?_
    refine lv_goto (tgt := 39) hx hb dX7_setting_29 (by decide) ?_
    exact hret ((-1 : Int32), ()) H locs ls _ hF hP hD hS dX7_setting_39
  unfold FX7_setting at hF
  obtain ⟨H, hH⟩ : ∃ H, H = s.heap := ⟨_, rfl⟩
  obtain ⟨locs, hlo⟩ : ∃ locs : List Loc, locs = [] := ⟨_, rfl⟩
  have hS : va_S A s.heap H locs := by rw [hH, hlo]; exact hS
  rw [← hH] at hP
  have goal : W p l e rmX7_setting s m ([.ref h_t, .int z1, .int z2, .int z3] : List Value).toArray below meth c H locs 0 0 Q (F0 m 0 ls []) := by
    refine lv_aload_n hx hb dX7_setting_0 rfl (lv_at hl 0 rfl) ?_
    refine lv_iload_n hx hb dX7_setting_1 rfl (lv_at hl 1 rfl) ?_
    have hn_1 := bdN hN hF
    refine callVZ (As := [.int z1]) (rest := []) (wr := [(h_settingMany, .inl (cI, 10, .inl a_settingMany)), (h_shares, .inl (cI, 150, .inl a_shares))]) (W2 := fun u_2 => [(h_t, .inr (7, [.ref h_tape, .ref h_text, .int v_taped, .int v_size, .int v_faultKind, .int v_faultPlace, .int v_at, .int v_end, .int v_token, .int v_number, .long v_name, .ref h_uName, .ref h_outName, .ref h_setName, .ref h_unitMany, .ref h_yesTo, .ref h_noTo, .ref h_settingMany, .ref h_shares, .ref h_gradeMany, .ref h_gKind, .ref h_gPurity, .ref h_gPrice, .ref h_outPlace, .ref h_setPlace, .ref h_setShare, .ref h_chosen, .int v_bank, .int v_rb, .int v_sets, .int v_missing, .ref h_rows, .ref h_parts, .long v_whole, .ref h_lTown, .ref h_lWeight, .ref h_lSampled, .ref h_hand, .ref h_isStruck, .int v_lorries, .int v_cost, .ref h_all, .ref h_bestChosen, .ref h_gets, .ref h_rests])), (h_unitMany, .inl (cI, 2, .inl a_unitMany)), (h_settingMany, .inl (cI, 10, .inl a_settingMany)), (h_shares, .inl (cI, 150, .inl a_shares))]) X hE hP hD hS hA (kX7_isUnit l D cB cI cJ cZ rz n H.size h_t h_unitMany h_tape h_text h_uName h_outName h_setName h_yesTo h_noTo h_settingMany h_shares h_gradeMany h_gKind h_gPurity h_gPrice h_outPlace h_setPlace h_setShare h_chosen h_rows h_parts h_lTown h_lWeight h_lSampled h_hand h_isStruck h_all h_bestChosen h_gets h_rests v_taped v_size v_faultKind v_faultPlace v_at v_end v_token v_number v_name v_bank v_rb v_sets v_missing v_whole v_lorries v_cost a_unitMany z1 hn_1) w_3_224 w_3_226 ws_62 w_1_9 w_3_227 cb_X7_isUnit rfl rfl ⟨Nat.le_of_ble_eq_true rfl, Nat.le_of_ble_eq_true rfl⟩ rfl hl.1 rfl (Nat.le_of_ble_eq_true rfl) dX7_setting_2 ⟨Nat.le_of_ble_eq_true rfl, Nat.le_of_ble_eq_true rfl⟩ (c2 := 0) (s2 := 0) rfl rfl (k0 := 0) rfl rfl [0, 1] [2, 3] [2, 3, 0, 1] rfl rfl (by decide) (by decide) (by decide) (by decide) (fun _ => rfl) (fun u_2 H locs hG hzu_2 hP hD hS => ?_)
    replace hF := bdQ hG hF
    refine lv_if_eq (tgt := 28) hx hb dX7_setting_5 (by decide) (fun c_3 => ?_) (fun c_3 => ?_)
    · replace hF := ifT c_3 hF
      exact L28 H locs ls hF hP hD hS (lv_sub hl [] rfl)
    · replace hF := ifF c_3 hF
      refine lv_iload_n hx hb dX7_setting_8 rfl (lv_at hl 3 rfl) ?_
      have hn_4 := bdN hN hF
      refine callSZ (As := [.int z3]) (rest := []) (wr := [(h_t, .inr (7, [.ref h_tape, .ref h_text, .int v_taped, .int v_size, .int v_faultKind, .int v_faultPlace, .int v_at, .int v_end, .int v_token, .int v_number, .long v_name, .ref h_uName, .ref h_outName, .ref h_setName, .ref h_unitMany, .ref h_yesTo, .ref h_noTo, .ref h_settingMany, .ref h_shares, .ref h_gradeMany, .ref h_gKind, .ref h_gPurity, .ref h_gPrice, .ref h_outPlace, .ref h_setPlace, .ref h_setShare, .ref h_chosen, .int v_bank, .int v_rb, .int v_sets, .int v_missing, .ref h_rows, .ref h_parts, .long v_whole, .ref h_lTown, .ref h_lWeight, .ref h_lSampled, .ref h_hand, .ref h_isStruck, .int v_lorries, .int v_cost, .ref h_all, .ref h_bestChosen, .ref h_gets, .ref h_rests])), (h_unitMany, .inl (cI, 2, .inl a_unitMany)), (h_settingMany, .inl (cI, 10, .inl a_settingMany)), (h_shares, .inl (cI, 150, .inl a_shares))]) (W2 := fun u_5 => [(h_t, .inr (7, [.ref h_tape, .ref h_text, .int v_taped, .int v_size, .int v_faultKind, .int v_faultPlace, .int v_at, .int v_end, .int v_token, .int v_number, .long v_name, .ref h_uName, .ref h_outName, .ref h_setName, .ref h_unitMany, .ref h_yesTo, .ref h_noTo, .ref h_settingMany, .ref h_shares, .ref h_gradeMany, .ref h_gKind, .ref h_gPurity, .ref h_gPrice, .ref h_outPlace, .ref h_setPlace, .ref h_setShare, .ref h_chosen, .int v_bank, .int v_rb, .int v_sets, .int v_missing, .ref h_rows, .ref h_parts, .long v_whole, .ref h_lTown, .ref h_lWeight, .ref h_lSampled, .ref h_hand, .ref h_isStruck, .int v_lorries, .int v_cost, .ref h_all, .ref h_bestChosen, .ref h_gets, .ref h_rests])), (h_unitMany, .inl (cI, 2, .inl a_unitMany)), (h_settingMany, .inl (cI, 10, .inl a_settingMany)), (h_shares, .inl (cI, 150, .inl a_shares))]) X hE hP hD hS hA (kX7_isKind l D cB cI cJ cZ rz n H.size z3 hn_4) w_3_236 w_3_237 w_1_9 w_3_238 cb_X7_isKind rfl rfl ⟨Nat.le_of_ble_eq_true rfl, Nat.le_of_ble_eq_true rfl⟩ rfl hl.1 rfl (Nat.le_of_ble_eq_true rfl) dX7_setting_9 ⟨Nat.le_of_ble_eq_true rfl, Nat.le_of_ble_eq_true rfl⟩ (c2 := 0) (s2 := 0) rfl rfl [] [0, 1, 2, 3] [0, 1, 2, 3] rfl rfl (by decide) (by decide) (by decide) (by decide) (fun _ => rfl) (fun u_5 H locs hG hzu_5 hP hD hS => ?_)
      replace hF := bdQ hG hF
      refine lv_if_eq (tgt := 28) hx hb dX7_setting_12 (by decide) (fun c_6 => ?_) (fun c_6 => ?_)
      · replace hF := ifT c_6 hF
        exact L28 H locs ls hF hP hD hS (lv_sub hl [] rfl)
      · replace hF := ifF c_6 hF
        refine lv_iload_n hx hb dX7_setting_15 rfl (lv_at hl 2 rfl) ?_
        refine lv_if_lt (tgt := 28) hx hb dX7_setting_16 (by decide) (fun c_7 => ?_) (fun c_7 => ?_)
        · replace hF := ifT c_7 hF
          exact L28 H locs ls hF hP hD hS (lv_sub hl [] rfl)
        · replace hF := ifF c_7 hF
          refine lv_iload_n hx hb dX7_setting_19 rfl (lv_at hl 2 rfl) ?_
          refine lv_aload_n hx hb dX7_setting_20 rfl (lv_at hl 0 rfl) ?_
          refine lv_iload_n hx hb dX7_setting_21 rfl (lv_at hl 1 rfl) ?_
          have hn_8 := bdN hN hF
          refine callVI (As := [.int z1]) (rest := [.int z2]) (wr := [(h_unitMany, .inl (cI, 2, .inl a_unitMany)), (h_shares, .inl (cI, 150, .inl a_shares))]) (W2 := fun u_9 => [(h_t, .inr (7, [.ref h_tape, .ref h_text, .int v_taped, .int v_size, .int v_faultKind, .int v_faultPlace, .int v_at, .int v_end, .int v_token, .int v_number, .long v_name, .ref h_uName, .ref h_outName, .ref h_setName, .ref h_unitMany, .ref h_yesTo, .ref h_noTo, .ref h_settingMany, .ref h_shares, .ref h_gradeMany, .ref h_gKind, .ref h_gPurity, .ref h_gPrice, .ref h_outPlace, .ref h_setPlace, .ref h_setShare, .ref h_chosen, .int v_bank, .int v_rb, .int v_sets, .int v_missing, .ref h_rows, .ref h_parts, .long v_whole, .ref h_lTown, .ref h_lWeight, .ref h_lSampled, .ref h_hand, .ref h_isStruck, .int v_lorries, .int v_cost, .ref h_all, .ref h_bestChosen, .ref h_gets, .ref h_rests])), (h_unitMany, .inl (cI, 2, .inl a_unitMany)), (h_settingMany, .inl (cI, 10, .inl a_settingMany)), (h_shares, .inl (cI, 150, .inl a_shares))]) X hE hP hD hS hA (kX7_settings l D cB cI cJ cZ rz n H.size h_t h_settingMany h_tape h_text h_uName h_outName h_setName h_unitMany h_yesTo h_noTo h_shares h_gradeMany h_gKind h_gPurity h_gPrice h_outPlace h_setPlace h_setShare h_chosen h_rows h_parts h_lTown h_lWeight h_lSampled h_hand h_isStruck h_all h_bestChosen h_gets h_rests v_taped v_size v_faultKind v_faultPlace v_at v_end v_token v_number v_name v_bank v_rb v_sets v_missing v_whole v_lorries v_cost a_settingMany z1 hn_8) w_3_228 w_3_230 ws_63 w_1_9 w_3_231 cb_X7_settings rfl rfl ⟨Nat.le_of_ble_eq_true rfl, Nat.le_of_ble_eq_true rfl⟩ rfl hl.1 rfl (Nat.le_of_ble_eq_true rfl) dX7_setting_22 ⟨Nat.le_of_ble_eq_true rfl, Nat.le_of_ble_eq_true rfl⟩ (c2 := 0) (s2 := 0) rfl rfl (k0 := 0) rfl rfl [0, 2] [1, 3] [2, 0, 3, 1] rfl rfl (by decide) (by decide) (by decide) (by decide) (fun _ => rfl) (fun u_9 H locs hG hP hD hS => ?_)
          replace hF := bdQ hG hF
          refine lv_icmp_lt (tgt := 32) hx hb dX7_setting_25 (by decide) (fun c_10 => ?_) (fun c_10 => ?_)
          · replace hF := ifT c_10 hF
            refine lv_aload_n hx hb dX7_setting_32 rfl (lv_at hl 0 rfl) ?_
            refine lv_iload_n hx hb dX7_setting_33 rfl (lv_at hl 1 rfl) ?_
            refine lv_iload_n hx hb dX7_setting_34 rfl (lv_at hl 2 rfl) ?_
            refine lv_iload_n hx hb dX7_setting_35 rfl (lv_at hl 3 rfl) ?_
            have hn_11 := bdN hN hF
            refine callVI (As := [.int z1, .int z2, .int z3]) (rest := []) (wr := [(h_unitMany, .inl (cI, 2, .inl a_unitMany))]) (W2 := fun u_12 => [(h_t, .inr (7, [.ref h_tape, .ref h_text, .int v_taped, .int v_size, .int v_faultKind, .int v_faultPlace, .int v_at, .int v_end, .int v_token, .int v_number, .long v_name, .ref h_uName, .ref h_outName, .ref h_setName, .ref h_unitMany, .ref h_yesTo, .ref h_noTo, .ref h_settingMany, .ref h_shares, .ref h_gradeMany, .ref h_gKind, .ref h_gPurity, .ref h_gPrice, .ref h_outPlace, .ref h_setPlace, .ref h_setShare, .ref h_chosen, .int v_bank, .int v_rb, .int v_sets, .int v_missing, .ref h_rows, .ref h_parts, .long v_whole, .ref h_lTown, .ref h_lWeight, .ref h_lSampled, .ref h_hand, .ref h_isStruck, .int v_lorries, .int v_cost, .ref h_all, .ref h_bestChosen, .ref h_gets, .ref h_rests])), (h_unitMany, .inl (cI, 2, .inl a_unitMany)), (h_settingMany, .inl (cI, 10, .inl a_settingMany)), (h_shares, .inl (cI, 150, .inl a_shares))]) X hE hP hD hS hA (kX7_goes l D cB cI cJ cZ rz n H.size h_t h_settingMany h_shares h_tape h_text h_uName h_outName h_setName h_unitMany h_yesTo h_noTo h_gradeMany h_gKind h_gPurity h_gPrice h_outPlace h_setPlace h_setShare h_chosen h_rows h_parts h_lTown h_lWeight h_lSampled h_hand h_isStruck h_all h_bestChosen h_gets h_rests v_taped v_size v_faultKind v_faultPlace v_at v_end v_token v_number v_name v_bank v_rb v_sets v_missing v_whole v_lorries v_cost a_settingMany a_shares z1 z2 z3 hn_11) w_3_239 w_4_1 ws_64 w_1_9 w_4_2 cb_X7_goes rfl rfl ⟨Nat.le_of_ble_eq_true rfl, Nat.le_of_ble_eq_true rfl⟩ rfl hl.1 rfl (Nat.le_of_ble_eq_true rfl) dX7_setting_36 ⟨Nat.le_of_ble_eq_true rfl, Nat.le_of_ble_eq_true rfl⟩ (c2 := 0) (s2 := 0) rfl rfl (k0 := 0) rfl rfl [0, 2, 3] [1] [1, 0, 2, 3] rfl rfl (by decide) (by decide) (by decide) (by decide) (fun _ => rfl) (fun u_12 H locs hG hP hD hS => ?_)
            replace hF := bdQ hG hF
            exact hret (u_12.1, ()) H locs ls _ hF hP hD hS dX7_setting_39
          · replace hF := ifF c_10 hF
            exact L28 H locs ls hF hP hD hS (lv_sub hl [] rfl)
  rw [hH, hlo] at goal
  exact goal
theorem dX7_choose_0 : decode cX7_choose 0 = .ok (.aload_n 0, 1) := by decide +kernel
theorem dX7_choose_1 : decode cX7_choose 1 = .ok (.iload_n 1, 1) := by decide +kernel
theorem dX7_choose_2 : decode cX7_choose 2 = .ok (.invokevirtual 181, 3) := by decide +kernel
theorem dX7_choose_5 : decode cX7_choose 5 = .ok (.ifCond .eq 16, 3) := by decide +kernel
theorem dX7_choose_8 : decode cX7_choose 8 = .ok (.iload_n 2, 1) := by decide +kernel
theorem dX7_choose_9 : decode cX7_choose 9 = .ok (.ifCond .lt 12, 3) := by decide +kernel
theorem dX7_choose_12 : decode cX7_choose 12 = .ok (.iload_n 2, 1) := by decide +kernel
theorem dX7_choose_13 : decode cX7_choose 13 = .ok (.aload_n 0, 1) := by decide +kernel
theorem dX7_choose_14 : decode cX7_choose 14 = .ok (.iload_n 1, 1) := by decide +kernel
theorem dX7_choose_15 : decode cX7_choose 15 = .ok (.invokevirtual 184, 3) := by decide +kernel
theorem dX7_choose_18 : decode cX7_choose 18 = .ok (.if_icmp .lt 5, 3) := by decide +kernel
theorem dX7_choose_21 : decode cX7_choose 21 = .ok (.iconst 0, 1) := by decide +kernel
theorem dX7_choose_22 : decode cX7_choose 22 = .ok (.ireturn, 1) := by decide +kernel
theorem dX7_choose_23 : decode cX7_choose 23 = .ok (.aload_n 0, 1) := by decide +kernel
theorem dX7_choose_24 : decode cX7_choose 24 = .ok (.getfield 105, 3) := by decide +kernel
theorem dX7_choose_27 : decode cX7_choose 27 = .ok (.iload_n 1, 1) := by decide +kernel
theorem dX7_choose_28 : decode cX7_choose 28 = .ok (.iload_n 2, 1) := by decide +kernel
theorem dX7_choose_29 : decode cX7_choose 29 = .ok (.iastore, 1) := by decide +kernel
theorem dX7_choose_30 : decode cX7_choose 30 = .ok (.iconst 1, 1) := by decide +kernel
theorem dX7_choose_31 : decode cX7_choose 31 = .ok (.ireturn, 1) := by decide +kernel
abbrev rmX7_choose : Room := { frames := 1, cells := 0, slots := 0, locals := 21 }
theorem cb_X7_choose : CBn yX7_choose 2 := ⟨by decide +kernel, by decide +kernel, by decide +kernel⟩
def FX7_choose (n : Nat) (v_bank : Int32) (a_unitMany : Nat → Int32) (a_settingMany : Nat → Int32) (a_chosen : Nat → Int32) (z1 : Int32) (z2 : Int32) : Option (Int32 × (Nat → Int32)) := bd (FX7_isUnit n v_bank a_unitMany z1) (fun u_2 => if u_2.1 = 0 then (some ((0 : Int32), a_chosen)) else (if z2 < 0 then (some ((0 : Int32), a_chosen)) else (bd (FX7_settings n v_bank a_settingMany z1) (fun u_6 => if z2 < u_6.1 then (if ¬ (z1 < 0 ∨ 5 ≤ (z1).toNatClampNeg) then (lt1 (upd a_chosen (z1).toNatClampNeg z2) (fun f_9 => some ((1 : Int32), f_9))) else none) else (some ((0 : Int32), a_chosen))))))
set_option maxHeartbeats 4000000 in
set_option maxRecDepth 100000 in
theorem kX7_choose (l : Launch) (D : va_G) (cB cI cJ cZ : ClassId) (rz n sz : Nat) (h_t : Nat) (h_unitMany : Nat) (h_settingMany : Nat) (h_chosen : Nat) (h_tape : Nat) (h_text : Nat) (h_uName : Nat) (h_outName : Nat) (h_setName : Nat) (h_yesTo : Nat) (h_noTo : Nat) (h_shares : Nat) (h_gradeMany : Nat) (h_gKind : Nat) (h_gPurity : Nat) (h_gPrice : Nat) (h_outPlace : Nat) (h_setPlace : Nat) (h_setShare : Nat) (h_rows : Nat) (h_parts : Nat) (h_lTown : Nat) (h_lWeight : Nat) (h_lSampled : Nat) (h_hand : Nat) (h_isStruck : Nat) (h_all : Nat) (h_bestChosen : Nat) (h_gets : Nat) (h_rests : Nat) (v_taped : Int32) (v_size : Int32) (v_faultKind : Int32) (v_faultPlace : Int32) (v_at : Int32) (v_end : Int32) (v_token : Int32) (v_number : Int32) (v_name : Int64) (v_bank : Int32) (v_rb : Int32) (v_sets : Int32) (v_missing : Int32) (v_whole : Int64) (v_lorries : Int32) (v_cost : Int32) (a_unitMany : Nat → Int32) (a_settingMany : Nat → Int32) (a_chosen : Nat → Int32) (z1 : Int32) (z2 : Int32) (hN : FX7_choose n v_bank a_unitMany a_settingMany a_chosen z1 z2 ≠ none) : Met l yX7_choose (Cond.code yX7_choose cX7_choose 3 (some .boolean) :: AL) rmX7_choose (PW D cB cI cJ cZ rz [.ref h_t, .int z1, .int z2] [(h_t, .inr (7, [.ref h_tape, .ref h_text, .int v_taped, .int v_size, .int v_faultKind, .int v_faultPlace, .int v_at, .int v_end, .int v_token, .int v_number, .long v_name, .ref h_uName, .ref h_outName, .ref h_setName, .ref h_unitMany, .ref h_yesTo, .ref h_noTo, .ref h_settingMany, .ref h_shares, .ref h_gradeMany, .ref h_gKind, .ref h_gPurity, .ref h_gPrice, .ref h_outPlace, .ref h_setPlace, .ref h_setShare, .ref h_chosen, .int v_bank, .int v_rb, .int v_sets, .int v_missing, .ref h_rows, .ref h_parts, .long v_whole, .ref h_lTown, .ref h_lWeight, .ref h_lSampled, .ref h_hand, .ref h_isStruck, .int v_lorries, .int v_cost, .ref h_all, .ref h_bestChosen, .ref h_gets, .ref h_rests])), (h_unitMany, .inl (cI, 2, .inl a_unitMany)), (h_settingMany, .inl (cI, 10, .inl a_settingMany)), (h_chosen, .inl (cI, 5, .inl a_chosen))] sz) (QZ D (FX7_choose n v_bank a_unitMany a_settingMany a_chosen z1 z2) (fun u => [(h_t, .inr (7, [.ref h_tape, .ref h_text, .int v_taped, .int v_size, .int v_faultKind, .int v_faultPlace, .int v_at, .int v_end, .int v_token, .int v_number, .long v_name, .ref h_uName, .ref h_outName, .ref h_setName, .ref h_unitMany, .ref h_yesTo, .ref h_noTo, .ref h_settingMany, .ref h_shares, .ref h_gradeMany, .ref h_gKind, .ref h_gPurity, .ref h_gPrice, .ref h_outPlace, .ref h_setPlace, .ref h_setShare, .ref h_chosen, .int v_bank, .int v_rb, .int v_sets, .int v_missing, .ref h_rows, .ref h_parts, .long v_whole, .ref h_lTown, .ref h_lWeight, .ref h_lSampled, .ref h_hand, .ref h_isStruck, .int v_lorries, .int v_cost, .ref h_all, .ref h_bestChosen, .ref h_gets, .ref h_rests])), (h_unitMany, .inl (cI, 2, .inl a_unitMany)), (h_settingMany, .inl (cI, 10, .inl a_settingMany)), (h_chosen, .inl (cI, 5, .inl u.2))]) (va_A [(h_t, .inr (7, [.ref h_tape, .ref h_text, .int v_taped, .int v_size, .int v_faultKind, .int v_faultPlace, .int v_at, .int v_end, .int v_token, .int v_number, .long v_name, .ref h_uName, .ref h_outName, .ref h_setName, .ref h_unitMany, .ref h_yesTo, .ref h_noTo, .ref h_settingMany, .ref h_shares, .ref h_gradeMany, .ref h_gKind, .ref h_gPurity, .ref h_gPrice, .ref h_outPlace, .ref h_setPlace, .ref h_setShare, .ref h_chosen, .int v_bank, .int v_rb, .int v_sets, .int v_missing, .ref h_rows, .ref h_parts, .long v_whole, .ref h_lTown, .ref h_lWeight, .ref h_lSampled, .ref h_hand, .ref h_isStruck, .int v_lorries, .int v_cost, .ref h_all, .ref h_bestChosen, .ref h_gets, .ref h_rests])), (h_unitMany, .inl (cI, 2, .inl a_unitMany)), (h_settingMany, .inl (cI, 10, .inl a_settingMany)), (h_chosen, .inl (cI, 5, .inl a_chosen))] sz)) 0 0 (va_A [(h_t, .inr (7, [.ref h_tape, .ref h_text, .int v_taped, .int v_size, .int v_faultKind, .int v_faultPlace, .int v_at, .int v_end, .int v_token, .int v_number, .long v_name, .ref h_uName, .ref h_outName, .ref h_setName, .ref h_unitMany, .ref h_yesTo, .ref h_noTo, .ref h_settingMany, .ref h_shares, .ref h_gradeMany, .ref h_gKind, .ref h_gPurity, .ref h_gPrice, .ref h_outPlace, .ref h_setPlace, .ref h_setShare, .ref h_chosen, .int v_bank, .int v_rb, .int v_sets, .int v_missing, .ref h_rows, .ref h_parts, .long v_whole, .ref h_lTown, .ref h_lWeight, .ref h_lSampled, .ref h_hand, .ref h_isStruck, .int v_lorries, .int v_cost, .ref h_all, .ref h_bestChosen, .ref h_gets, .ref h_rests])), (h_unitMany, .inl (cI, 2, .inl a_unitMany)), (h_settingMany, .inl (cI, 10, .inl a_settingMany)), (h_chosen, .inl (cI, 5, .inl a_chosen))] sz) := by
  obtain ⟨O, hF⟩ : ∃ O, FX7_choose n v_bank a_unitMany a_settingMany a_chosen z1 z2 = O := ⟨_, rfl⟩
  rw [hF] at hN ⊢
  refine enterZ (cc := cX7_choose) (nL := 3) (by decide) (Nat.le_of_ble_eq_true rfl) ?_
  intro p e s m below meth c A Q X hA hE hnm hsz hP hD hS hret ls hl
  obtain ⟨hx, hb, hml, hown0, ha⟩ := id X
  have hown : s.vm.findClass RX7 = some m.cls := hown0
  have hK := hE.1
  have hl : lv_has ls 3 [(0, .ref h_t), (1, .int z1), (2, .int z2)] := hl
  have hX : CallFix p m c cX7_choose 3 s ([.ref h_t, .int z1, .int z2] : List Value).toArray AL RX7 := X
  have X := hX
  unfold FX7_choose at hF
  obtain ⟨H, hH⟩ : ∃ H, H = s.heap := ⟨_, rfl⟩
  obtain ⟨locs, hlo⟩ : ∃ locs : List Loc, locs = [] := ⟨_, rfl⟩
  have hS : va_S A s.heap H locs := by rw [hH, hlo]; exact hS
  rw [← hH] at hP
  have goal : W p l e rmX7_choose s m ([.ref h_t, .int z1, .int z2] : List Value).toArray below meth c H locs 0 0 Q (F0 m 0 ls []) := by
    refine lv_aload_n hx hb dX7_choose_0 rfl (lv_at hl 0 rfl) ?_
    refine lv_iload_n hx hb dX7_choose_1 rfl (lv_at hl 1 rfl) ?_
    have hn_1 := bdN hN hF
    refine callVZ (As := [.int z1]) (rest := []) (wr := [(h_settingMany, .inl (cI, 10, .inl a_settingMany)), (h_chosen, .inl (cI, 5, .inl a_chosen))]) (W2 := fun u_2 => [(h_t, .inr (7, [.ref h_tape, .ref h_text, .int v_taped, .int v_size, .int v_faultKind, .int v_faultPlace, .int v_at, .int v_end, .int v_token, .int v_number, .long v_name, .ref h_uName, .ref h_outName, .ref h_setName, .ref h_unitMany, .ref h_yesTo, .ref h_noTo, .ref h_settingMany, .ref h_shares, .ref h_gradeMany, .ref h_gKind, .ref h_gPurity, .ref h_gPrice, .ref h_outPlace, .ref h_setPlace, .ref h_setShare, .ref h_chosen, .int v_bank, .int v_rb, .int v_sets, .int v_missing, .ref h_rows, .ref h_parts, .long v_whole, .ref h_lTown, .ref h_lWeight, .ref h_lSampled, .ref h_hand, .ref h_isStruck, .int v_lorries, .int v_cost, .ref h_all, .ref h_bestChosen, .ref h_gets, .ref h_rests])), (h_unitMany, .inl (cI, 2, .inl a_unitMany)), (h_settingMany, .inl (cI, 10, .inl a_settingMany)), (h_chosen, .inl (cI, 5, .inl a_chosen))]) X hE hP hD hS hA (kX7_isUnit l D cB cI cJ cZ rz n H.size h_t h_unitMany h_tape h_text h_uName h_outName h_setName h_yesTo h_noTo h_settingMany h_shares h_gradeMany h_gKind h_gPurity h_gPrice h_outPlace h_setPlace h_setShare h_chosen h_rows h_parts h_lTown h_lWeight h_lSampled h_hand h_isStruck h_all h_bestChosen h_gets h_rests v_taped v_size v_faultKind v_faultPlace v_at v_end v_token v_number v_name v_bank v_rb v_sets v_missing v_whole v_lorries v_cost a_unitMany z1 hn_1) w_3_224 w_3_226 ws_62 w_1_9 w_3_227 cb_X7_isUnit rfl rfl ⟨Nat.le_of_ble_eq_true rfl, Nat.le_of_ble_eq_true rfl⟩ rfl hl.1 rfl (Nat.le_of_ble_eq_true rfl) dX7_choose_2 ⟨Nat.le_of_ble_eq_true rfl, Nat.le_of_ble_eq_true rfl⟩ (c2 := 0) (s2 := 0) rfl rfl (k0 := 0) rfl rfl [0, 1] [2, 3] [2, 3, 0, 1] rfl rfl (by decide) (by decide) (by decide) (by decide) (fun _ => rfl) (fun u_2 H locs hG hzu_2 hP hD hS => ?_)
    replace hF := bdQ hG hF
    refine lv_if_eq (tgt := 21) hx hb dX7_choose_5 (by decide) (fun c_3 => ?_) (fun c_3 => ?_)
    · replace hF := ifT c_3 hF
      refine lv_iconst (v := 0) hx hb dX7_choose_21 (by decide) ?_
      exact hret ((0 : Int32), a_chosen) H locs ls _ hF nz0 hP hD hS dX7_choose_22
    · replace hF := ifF c_3 hF
      refine lv_iload_n hx hb dX7_choose_8 rfl (lv_at hl 2 rfl) ?_
      refine lv_if_lt (tgt := 21) hx hb dX7_choose_9 (by decide) (fun c_4 => ?_) (fun c_4 => ?_)
      · replace hF := ifT c_4 hF
        refine lv_iconst (v := 0) hx hb dX7_choose_21 (by decide) ?_
        exact hret ((0 : Int32), a_chosen) H locs ls _ hF nz0 hP hD hS dX7_choose_22
      · replace hF := ifF c_4 hF
        refine lv_iload_n hx hb dX7_choose_12 rfl (lv_at hl 2 rfl) ?_
        refine lv_aload_n hx hb dX7_choose_13 rfl (lv_at hl 0 rfl) ?_
        refine lv_iload_n hx hb dX7_choose_14 rfl (lv_at hl 1 rfl) ?_
        have hn_5 := bdN hN hF
        refine callVI (As := [.int z1]) (rest := [.int z2]) (wr := [(h_unitMany, .inl (cI, 2, .inl a_unitMany)), (h_chosen, .inl (cI, 5, .inl a_chosen))]) (W2 := fun u_6 => [(h_t, .inr (7, [.ref h_tape, .ref h_text, .int v_taped, .int v_size, .int v_faultKind, .int v_faultPlace, .int v_at, .int v_end, .int v_token, .int v_number, .long v_name, .ref h_uName, .ref h_outName, .ref h_setName, .ref h_unitMany, .ref h_yesTo, .ref h_noTo, .ref h_settingMany, .ref h_shares, .ref h_gradeMany, .ref h_gKind, .ref h_gPurity, .ref h_gPrice, .ref h_outPlace, .ref h_setPlace, .ref h_setShare, .ref h_chosen, .int v_bank, .int v_rb, .int v_sets, .int v_missing, .ref h_rows, .ref h_parts, .long v_whole, .ref h_lTown, .ref h_lWeight, .ref h_lSampled, .ref h_hand, .ref h_isStruck, .int v_lorries, .int v_cost, .ref h_all, .ref h_bestChosen, .ref h_gets, .ref h_rests])), (h_unitMany, .inl (cI, 2, .inl a_unitMany)), (h_settingMany, .inl (cI, 10, .inl a_settingMany)), (h_chosen, .inl (cI, 5, .inl a_chosen))]) X hE hP hD hS hA (kX7_settings l D cB cI cJ cZ rz n H.size h_t h_settingMany h_tape h_text h_uName h_outName h_setName h_unitMany h_yesTo h_noTo h_shares h_gradeMany h_gKind h_gPurity h_gPrice h_outPlace h_setPlace h_setShare h_chosen h_rows h_parts h_lTown h_lWeight h_lSampled h_hand h_isStruck h_all h_bestChosen h_gets h_rests v_taped v_size v_faultKind v_faultPlace v_at v_end v_token v_number v_name v_bank v_rb v_sets v_missing v_whole v_lorries v_cost a_settingMany z1 hn_5) w_3_228 w_3_230 ws_63 w_1_9 w_3_231 cb_X7_settings rfl rfl ⟨Nat.le_of_ble_eq_true rfl, Nat.le_of_ble_eq_true rfl⟩ rfl hl.1 rfl (Nat.le_of_ble_eq_true rfl) dX7_choose_15 ⟨Nat.le_of_ble_eq_true rfl, Nat.le_of_ble_eq_true rfl⟩ (c2 := 0) (s2 := 0) rfl rfl (k0 := 0) rfl rfl [0, 2] [1, 3] [2, 0, 3, 1] rfl rfl (by decide) (by decide) (by decide) (by decide) (fun _ => rfl) (fun u_6 H locs hG hP hD hS => ?_)
        replace hF := bdQ hG hF
        refine lv_icmp_lt (tgt := 23) hx hb dX7_choose_18 (by decide) (fun c_7 => ?_) (fun c_7 => ?_)
        · replace hF := ifT c_7 hF
          refine lv_aload_n hx hb dX7_choose_23 rfl (lv_at hl 0 rfl) ?_
          refine va_get (D := D) (ci := 7) (C := RX7) (T := TX7) (N := 45) hx hb ha inAX7 hown hK hP 0 rfl rfl 26 (by decide) (ha _ w_4_60) (fun _ h9 => h9) rfl dX7_choose_24 ?_
          refine lv_iload_n hx hb dX7_choose_27 rfl (lv_at hl 1 rfl) ?_
          refine lv_iload_n hx hb dX7_choose_28 rfl (lv_at hl 2 rfl) ?_
          replace hF := ckP hN hF
          obtain ⟨c_8, hF⟩ := hF
          obtain ⟨f_9, ef_9⟩ : ∃ g : Nat → Int32, g = upd a_chosen (z1).toNatClampNeg z2 := ⟨_, rfl⟩
          replace hF := ltP ef_9 hF
          refine st_i (g := f_9) (W2 := [(h_t, .inr (7, [.ref h_tape, .ref h_text, .int v_taped, .int v_size, .int v_faultKind, .int v_faultPlace, .int v_at, .int v_end, .int v_token, .int v_number, .long v_name, .ref h_uName, .ref h_outName, .ref h_setName, .ref h_unitMany, .ref h_yesTo, .ref h_noTo, .ref h_settingMany, .ref h_shares, .ref h_gradeMany, .ref h_gKind, .ref h_gPurity, .ref h_gPrice, .ref h_outPlace, .ref h_setPlace, .ref h_setShare, .ref h_chosen, .int v_bank, .int v_rb, .int v_sets, .int v_missing, .ref h_rows, .ref h_parts, .long v_whole, .ref h_lTown, .ref h_lWeight, .ref h_lSampled, .ref h_hand, .ref h_isStruck, .int v_lorries, .int v_cost, .ref h_all, .ref h_bestChosen, .ref h_gets, .ref h_rests])), (h_unitMany, .inl (cI, 2, .inl a_unitMany)), (h_settingMany, .inl (cI, 10, .inl a_settingMany)), (h_chosen, .inl (cI, 5, .inl f_9))]) hx hb hK hP hD hS 3 rfl c_8 ef_9 dX7_choose_29 rfl (fun H locs hP hD hS => ?_)
          refine lv_iconst (v := 1) hx hb dX7_choose_30 (by decide) ?_
          exact hret ((1 : Int32), f_9) H locs ls _ hF nz1 hP hD hS dX7_choose_31
        · replace hF := ifF c_7 hF
          refine lv_iconst (v := 0) hx hb dX7_choose_21 (by decide) ?_
          exact hret ((0 : Int32), a_chosen) H locs ls _ hF nz0 hP hD hS dX7_choose_22
  rw [hH, hlo] at goal
  exact goal
theorem dX7_lead_0 : decode cX7_lead 0 = .ok (.iload_n 2, 1) := by decide +kernel
theorem dX7_lead_1 : decode cX7_lead 1 = .ok (.iconst 5, 1) := by decide +kernel
theorem dX7_lead_2 : decode cX7_lead 2 = .ok (.if_icmp .ge 22, 3) := by decide +kernel
theorem dX7_lead_5 : decode cX7_lead 5 = .ok (.aload_n 0, 1) := by decide +kernel
theorem dX7_lead_6 : decode cX7_lead 6 = .ok (.getfield 200, 3) := by decide +kernel
theorem dX7_lead_9 : decode cX7_lead 9 = .ok (.bipush 10, 2) := by decide +kernel
theorem dX7_lead_11 : decode cX7_lead 11 = .ok (.iload_n 1, 1) := by decide +kernel
theorem dX7_lead_12 : decode cX7_lead 12 = .ok (.imul, 1) := by decide +kernel
theorem dX7_lead_13 : decode cX7_lead 13 = .ok (.iload_n 2, 1) := by decide +kernel
theorem dX7_lead_14 : decode cX7_lead 14 = .ok (.iadd, 1) := by decide +kernel
theorem dX7_lead_15 : decode cX7_lead 15 = .ok (.dup2, 1) := by decide +kernel
theorem dX7_lead_16 : decode cX7_lead 16 = .ok (.laload, 1) := by decide +kernel
theorem dX7_lead_17 : decode cX7_lead 17 = .ok (.iload_n 3, 1) := by decide +kernel
theorem dX7_lead_18 : decode cX7_lead 18 = .ok (.i2l, 1) := by decide +kernel
theorem dX7_lead_19 : decode cX7_lead 19 = .ok (.lsub, 1) := by decide +kernel
theorem dX7_lead_20 : decode cX7_lead 20 = .ok (.lastore, 1) := by decide +kernel
theorem dX7_lead_21 : decode cX7_lead 21 = .ok (.goto 34, 3) := by decide +kernel
theorem dX7_lead_24 : decode cX7_lead 24 = .ok (.aload_n 0, 1) := by decide +kernel
theorem dX7_lead_25 : decode cX7_lead 25 = .ok (.getfield 200, 3) := by decide +kernel
theorem dX7_lead_28 : decode cX7_lead 28 = .ok (.bipush 10, 2) := by decide +kernel
theorem dX7_lead_30 : decode cX7_lead 30 = .ok (.iload_n 1, 1) := by decide +kernel
theorem dX7_lead_31 : decode cX7_lead 31 = .ok (.imul, 1) := by decide +kernel
theorem dX7_lead_32 : decode cX7_lead 32 = .ok (.iconst 5, 1) := by decide +kernel
theorem dX7_lead_33 : decode cX7_lead 33 = .ok (.iadd, 1) := by decide +kernel
theorem dX7_lead_34 : decode cX7_lead 34 = .ok (.iload_n 2, 1) := by decide +kernel
theorem dX7_lead_35 : decode cX7_lead 35 = .ok (.bipush 20, 2) := by decide +kernel
theorem dX7_lead_37 : decode cX7_lead 37 = .ok (.if_icmp .ne 7, 3) := by decide +kernel
theorem dX7_lead_40 : decode cX7_lead 40 = .ok (.iconst 4, 1) := by decide +kernel
theorem dX7_lead_41 : decode cX7_lead 41 = .ok (.goto 7, 3) := by decide +kernel
theorem dX7_lead_44 : decode cX7_lead 44 = .ok (.iload_n 2, 1) := by decide +kernel
theorem dX7_lead_45 : decode cX7_lead 45 = .ok (.bipush 10, 2) := by decide +kernel
theorem dX7_lead_47 : decode cX7_lead 47 = .ok (.isub, 1) := by decide +kernel
theorem dX7_lead_48 : decode cX7_lead 48 = .ok (.iadd, 1) := by decide +kernel
theorem dX7_lead_49 : decode cX7_lead 49 = .ok (.dup2, 1) := by decide +kernel
theorem dX7_lead_50 : decode cX7_lead 50 = .ok (.laload, 1) := by decide +kernel
theorem dX7_lead_51 : decode cX7_lead 51 = .ok (.iload_n 3, 1) := by decide +kernel
theorem dX7_lead_52 : decode cX7_lead 52 = .ok (.i2l, 1) := by decide +kernel
theorem dX7_lead_53 : decode cX7_lead 53 = .ok (.ladd, 1) := by decide +kernel
theorem dX7_lead_54 : decode cX7_lead 54 = .ok (.lastore, 1) := by decide +kernel
theorem dX7_lead_55 : decode cX7_lead 55 = .ok (.return_, 1) := by decide +kernel
abbrev rmX7_lead : Room := { frames := 0, cells := 0, slots := 0, locals := 0 }
theorem cb_X7_lead : CBn yX7_lead 3 := ⟨by decide +kernel, by decide +kernel, by decide +kernel⟩
def FX7_lead_48 (n : Nat) (z1 : Int32) (z2 : Int32) (z3 : Int32) (a_rows : Nat → Int64) (x3 : Int32) (y0 : Int32) (y1 : Int32) : Option (Unit × (Nat → Int64)) := lt1 (y1 + y0) (fun x_8 => if ¬ (x_8 < 0 ∨ 50 ≤ (x_8).toNatClampNeg) then (lt1 ((a_rows (x_8).toNatClampNeg) + (x3).toInt64) (fun x_10 => if ¬ (x_8 < 0 ∨ 50 ≤ (x_8).toNatClampNeg) then (lt1 (vp_updL a_rows (x_8).toNatClampNeg x_10) (fun f_12 => some ((), f_12))) else none)) else none)
def FX7_lead (n : Nat) (a_rows : Nat → Int64) (z1 : Int32) (z2 : Int32) (z3 : Int32) : Option (Unit × (Nat → Int64)) := if (5 : Int32) ≤ z2 then (if z2 = (20 : Int32) then (FX7_lead_48 n z1 z2 z3 a_rows z3 (4 : Int32) (((10 : Int32) * z1) + (5 : Int32))) else (FX7_lead_48 n z1 z2 z3 a_rows z3 (z2 - (10 : Int32)) (((10 : Int32) * z1) + (5 : Int32)))) else (lt1 (((10 : Int32) * z1) + z2) (fun x_3 => if ¬ (x_3 < 0 ∨ 50 ≤ (x_3).toNatClampNeg) then (lt1 ((a_rows (x_3).toNatClampNeg) - (z3).toInt64) (fun x_5 => if ¬ (x_3 < 0 ∨ 50 ≤ (x_3).toNatClampNeg) then (lt1 (vp_updL a_rows (x_3).toNatClampNeg x_5) (fun f_7 => some ((), f_7))) else none)) else none))
set_option maxHeartbeats 4000000 in
set_option maxRecDepth 100000 in
theorem kX7_lead (l : Launch) (D : va_G) (cB cI cJ cZ : ClassId) (rz n sz : Nat) (h_t : Nat) (h_rows : Nat) (h_tape : Nat) (h_text : Nat) (h_uName : Nat) (h_outName : Nat) (h_setName : Nat) (h_unitMany : Nat) (h_yesTo : Nat) (h_noTo : Nat) (h_settingMany : Nat) (h_shares : Nat) (h_gradeMany : Nat) (h_gKind : Nat) (h_gPurity : Nat) (h_gPrice : Nat) (h_outPlace : Nat) (h_setPlace : Nat) (h_setShare : Nat) (h_chosen : Nat) (h_parts : Nat) (h_lTown : Nat) (h_lWeight : Nat) (h_lSampled : Nat) (h_hand : Nat) (h_isStruck : Nat) (h_all : Nat) (h_bestChosen : Nat) (h_gets : Nat) (h_rests : Nat) (v_taped : Int32) (v_size : Int32) (v_faultKind : Int32) (v_faultPlace : Int32) (v_at : Int32) (v_end : Int32) (v_token : Int32) (v_number : Int32) (v_name : Int64) (v_bank : Int32) (v_rb : Int32) (v_sets : Int32) (v_missing : Int32) (v_whole : Int64) (v_lorries : Int32) (v_cost : Int32) (a_rows : Nat → Int64) (z1 : Int32) (z2 : Int32) (z3 : Int32) (hN : FX7_lead n a_rows z1 z2 z3 ≠ none) : Met l yX7_lead (Cond.code yX7_lead cX7_lead 4 none :: AL) rmX7_lead (PW D cB cI cJ cZ rz [.ref h_t, .int z1, .int z2, .int z3] [(h_t, .inr (7, [.ref h_tape, .ref h_text, .int v_taped, .int v_size, .int v_faultKind, .int v_faultPlace, .int v_at, .int v_end, .int v_token, .int v_number, .long v_name, .ref h_uName, .ref h_outName, .ref h_setName, .ref h_unitMany, .ref h_yesTo, .ref h_noTo, .ref h_settingMany, .ref h_shares, .ref h_gradeMany, .ref h_gKind, .ref h_gPurity, .ref h_gPrice, .ref h_outPlace, .ref h_setPlace, .ref h_setShare, .ref h_chosen, .int v_bank, .int v_rb, .int v_sets, .int v_missing, .ref h_rows, .ref h_parts, .long v_whole, .ref h_lTown, .ref h_lWeight, .ref h_lSampled, .ref h_hand, .ref h_isStruck, .int v_lorries, .int v_cost, .ref h_all, .ref h_bestChosen, .ref h_gets, .ref h_rests])), (h_rows, .inl (cJ, 50, .inr (.inl a_rows)))] sz) (QV D (FX7_lead n a_rows z1 z2 z3) (fun u => [(h_t, .inr (7, [.ref h_tape, .ref h_text, .int v_taped, .int v_size, .int v_faultKind, .int v_faultPlace, .int v_at, .int v_end, .int v_token, .int v_number, .long v_name, .ref h_uName, .ref h_outName, .ref h_setName, .ref h_unitMany, .ref h_yesTo, .ref h_noTo, .ref h_settingMany, .ref h_shares, .ref h_gradeMany, .ref h_gKind, .ref h_gPurity, .ref h_gPrice, .ref h_outPlace, .ref h_setPlace, .ref h_setShare, .ref h_chosen, .int v_bank, .int v_rb, .int v_sets, .int v_missing, .ref h_rows, .ref h_parts, .long v_whole, .ref h_lTown, .ref h_lWeight, .ref h_lSampled, .ref h_hand, .ref h_isStruck, .int v_lorries, .int v_cost, .ref h_all, .ref h_bestChosen, .ref h_gets, .ref h_rests])), (h_rows, .inl (cJ, 50, .inr (.inl u.2)))]) (va_A [(h_t, .inr (7, [.ref h_tape, .ref h_text, .int v_taped, .int v_size, .int v_faultKind, .int v_faultPlace, .int v_at, .int v_end, .int v_token, .int v_number, .long v_name, .ref h_uName, .ref h_outName, .ref h_setName, .ref h_unitMany, .ref h_yesTo, .ref h_noTo, .ref h_settingMany, .ref h_shares, .ref h_gradeMany, .ref h_gKind, .ref h_gPurity, .ref h_gPrice, .ref h_outPlace, .ref h_setPlace, .ref h_setShare, .ref h_chosen, .int v_bank, .int v_rb, .int v_sets, .int v_missing, .ref h_rows, .ref h_parts, .long v_whole, .ref h_lTown, .ref h_lWeight, .ref h_lSampled, .ref h_hand, .ref h_isStruck, .int v_lorries, .int v_cost, .ref h_all, .ref h_bestChosen, .ref h_gets, .ref h_rests])), (h_rows, .inl (cJ, 50, .inr (.inl a_rows)))] sz)) 0 0 (va_A [(h_t, .inr (7, [.ref h_tape, .ref h_text, .int v_taped, .int v_size, .int v_faultKind, .int v_faultPlace, .int v_at, .int v_end, .int v_token, .int v_number, .long v_name, .ref h_uName, .ref h_outName, .ref h_setName, .ref h_unitMany, .ref h_yesTo, .ref h_noTo, .ref h_settingMany, .ref h_shares, .ref h_gradeMany, .ref h_gKind, .ref h_gPurity, .ref h_gPrice, .ref h_outPlace, .ref h_setPlace, .ref h_setShare, .ref h_chosen, .int v_bank, .int v_rb, .int v_sets, .int v_missing, .ref h_rows, .ref h_parts, .long v_whole, .ref h_lTown, .ref h_lWeight, .ref h_lSampled, .ref h_hand, .ref h_isStruck, .int v_lorries, .int v_cost, .ref h_all, .ref h_bestChosen, .ref h_gets, .ref h_rests])), (h_rows, .inl (cJ, 50, .inr (.inl a_rows)))] sz) := by
  obtain ⟨O, hF⟩ : ∃ O, FX7_lead n a_rows z1 z2 z3 = O := ⟨_, rfl⟩
  rw [hF] at hN ⊢
  refine enterV (cc := cX7_lead) (nL := 4) (by decide) (Nat.le_of_ble_eq_true rfl) ?_
  intro p e s m below meth c A Q X hA hE hnm hsz hP hD hS hret ls hl
  obtain ⟨hx, hb, hml, hown0, ha⟩ := id X
  have hown : s.vm.findClass RX7 = some m.cls := hown0
  have hK := hE.1
  have hl : lv_has ls 4 [(0, .ref h_t), (1, .int z1), (2, .int z2), (3, .int z3)] := hl
  have hX : CallFix p m c cX7_lead 4 s ([.ref h_t, .int z1, .int z2, .int z3] : List Value).toArray AL RX7 := X
  have X := hX
  have L48 : ∀ (a_rows : Nat → Int64) (x3 : Int32) (y0 : Int32) (y1 : Int32) (H : Heap) (locs : List Loc) (ls : Array Slot), FX7_lead_48 n z1 z2 z3 a_rows x3 y0 y1 = O → va_P D classes [(h_t, .inr (7, [.ref h_tape, .ref h_text, .int v_taped, .int v_size, .int v_faultKind, .int v_faultPlace, .int v_at, .int v_end, .int v_token, .int v_number, .long v_name, .ref h_uName, .ref h_outName, .ref h_setName, .ref h_unitMany, .ref h_yesTo, .ref h_noTo, .ref h_settingMany, .ref h_shares, .ref h_gradeMany, .ref h_gKind, .ref h_gPurity, .ref h_gPrice, .ref h_outPlace, .ref h_setPlace, .ref h_setShare, .ref h_chosen, .int v_bank, .int v_rb, .int v_sets, .int v_missing, .ref h_rows, .ref h_parts, .long v_whole, .ref h_lTown, .ref h_lWeight, .ref h_lSampled, .ref h_hand, .ref h_isStruck, .int v_lorries, .int v_cost, .ref h_all, .ref h_bestChosen, .ref h_gets, .ref h_rests])), (h_rows, .inl (cJ, 50, .inr (.inl a_rows)))] H → va_D A [(h_t, .inr (7, [.ref h_tape, .ref h_text, .int v_taped, .int v_size, .int v_faultKind, .int v_faultPlace, .int v_at, .int v_end, .int v_token, .int v_number, .long v_name, .ref h_uName, .ref h_outName, .ref h_setName, .ref h_unitMany, .ref h_yesTo, .ref h_noTo, .ref h_settingMany, .ref h_shares, .ref h_gradeMany, .ref h_gKind, .ref h_gPurity, .ref h_gPrice, .ref h_outPlace, .ref h_setPlace, .ref h_setShare, .ref h_chosen, .int v_bank, .int v_rb, .int v_sets, .int v_missing, .ref h_rows, .ref h_parts, .long v_whole, .ref h_lTown, .ref h_lWeight, .ref h_lSampled, .ref h_hand, .ref h_isStruck, .int v_lorries, .int v_cost, .ref h_all, .ref h_bestChosen, .ref h_gets, .ref h_rests])), (h_rows, .inl (cJ, 50, .inr (.inl a_rows)))] → va_S A s.heap H locs → lv_has ls 4 [(3, .int x3)] → W p l e rmX7_lead s m ([.ref h_t, .int z1, .int z2, .int z3] : List Value).toArray below meth c H locs 0 0 Q (F0 m 48 ls [.int y0, .int y1, .ref h_rows]) := by
    intro a_rows x3 y0 y1 H locs ls hF hP hD hS hl
    unfold FX7_lead_48 at hF
    refine lv_iadd hx hb dX7_lead_48 ?_
    refine lv_topi (fun x_8 ex_8 => ?_)
    replace hF := ltP ex_8 hF
    refine lv_dup2_11 hx hb dX7_lead_49 rfl rfl ?_
    replace hF := ckP hN hF
    obtain ⟨c_9, hF⟩ := hF
    refine ld_l hx hb hK hP 1 rfl c_9 dX7_lead_50 ?_
    refine lv_iload_n hx hb dX7_lead_51 rfl (lv_at hl 0 rfl) ?_
    refine lv_i2l hx hb dX7_lead_52 rfl ?_
    refine lv_ladd hx hb dX7_lead_53 ?_
    refine lv_topl (fun x_10 ex_10 => ?_)
    replace hF := ltP ex_10 hF
    replace hF := ckP hN hF
    obtain ⟨c_11, hF⟩ := hF
    obtain ⟨f_12, ef_12⟩ : ∃ g : Nat → Int64, g = vp_updL a_rows (x_8).toNatClampNeg x_10 := ⟨_, rfl⟩
    replace hF := ltP ef_12 hF
    refine st_l (g := f_12) (W2 := [(h_t, .inr (7, [.ref h_tape, .ref h_text, .int v_taped, .int v_size, .int v_faultKind, .int v_faultPlace, .int v_at, .int v_end, .int v_token, .int v_number, .long v_name, .ref h_uName, .ref h_outName, .ref h_setName, .ref h_unitMany, .ref h_yesTo, .ref h_noTo, .ref h_settingMany, .ref h_shares, .ref h_gradeMany, .ref h_gKind, .ref h_gPurity, .ref h_gPrice, .ref h_outPlace, .ref h_setPlace, .ref h_setShare, .ref h_chosen, .int v_bank, .int v_rb, .int v_sets, .int v_missing, .ref h_rows, .ref h_parts, .long v_whole, .ref h_lTown, .ref h_lWeight, .ref h_lSampled, .ref h_hand, .ref h_isStruck, .int v_lorries, .int v_cost, .ref h_all, .ref h_bestChosen, .ref h_gets, .ref h_rests])), (h_rows, .inl (cJ, 50, .inr (.inl f_12)))]) hx hb hK hP hD hS 1 rfl c_11 ef_12 dX7_lead_54 rfl (fun H locs hP hD hS => ?_)
    exact hret ((), f_12) H locs ls _ hF hP hD hS dX7_lead_55
  unfold FX7_lead at hF
  obtain ⟨H, hH⟩ : ∃ H, H = s.heap := ⟨_, rfl⟩
  obtain ⟨locs, hlo⟩ : ∃ locs : List Loc, locs = [] := ⟨_, rfl⟩
  have hS : va_S A s.heap H locs := by rw [hH, hlo]; exact hS
  rw [← hH] at hP
  have goal : W p l e rmX7_lead s m ([.ref h_t, .int z1, .int z2, .int z3] : List Value).toArray below meth c H locs 0 0 Q (F0 m 0 ls []) := by
    refine lv_iload_n hx hb dX7_lead_0 rfl (lv_at hl 2 rfl) ?_
    refine lv_iconst (v := 5) hx hb dX7_lead_1 (by decide) ?_
    refine lv_icmp_ge (tgt := 24) hx hb dX7_lead_2 (by decide) (fun c_1 => ?_) (fun c_1 => ?_)
    · replace hF := ifT c_1 hF
      refine lv_aload_n hx hb dX7_lead_24 rfl (lv_at hl 0 rfl) ?_
      refine va_get (D := D) (ci := 7) (C := RX7) (T := TX7) (N := 45) hx hb ha inAX7 hown hK hP 0 rfl rfl 31 (by decide) (ha _ w_4_65) (fun _ h9 => h9) rfl dX7_lead_25 ?_
      refine lv_bipush (v := 10) hx hb dX7_lead_28 (by decide) ?_
      refine lv_iload_n hx hb dX7_lead_30 rfl (lv_at hl 1 rfl) ?_
      refine lv_imul hx hb dX7_lead_31 ?_
      refine lv_iconst (v := 5) hx hb dX7_lead_32 (by decide) ?_
      refine lv_iadd hx hb dX7_lead_33 ?_
      refine lv_iload_n hx hb dX7_lead_34 rfl (lv_at hl 2 rfl) ?_
      refine lv_bipush (v := 20) hx hb dX7_lead_35 (by decide) ?_
      refine lv_icmp_ne (tgt := 44) hx hb dX7_lead_37 (by decide) (fun c_2 => ?_) (fun c_2 => ?_)
      · replace hF := ifF c_2 hF
        refine lv_iload_n hx hb dX7_lead_44 rfl (lv_at hl 2 rfl) ?_
        refine lv_bipush (v := 10) hx hb dX7_lead_45 (by decide) ?_
        refine lv_isub hx hb dX7_lead_47 ?_
        exact L48 a_rows z3 (z2 - (10 : Int32)) (((10 : Int32) * z1) + (5 : Int32)) H locs ls hF hP hD hS (lv_sub hl [3] rfl)
      · replace hF := ifT c_2 hF
        refine lv_iconst (v := 4) hx hb dX7_lead_40 (by decide) ?_
        refine lv_goto (tgt := 48) hx hb dX7_lead_41 (by decide) ?_
        exact L48 a_rows z3 (4 : Int32) (((10 : Int32) * z1) + (5 : Int32)) H locs ls hF hP hD hS (lv_sub hl [3] rfl)
    · replace hF := ifF c_1 hF
      refine lv_aload_n hx hb dX7_lead_5 rfl (lv_at hl 0 rfl) ?_
      refine va_get (D := D) (ci := 7) (C := RX7) (T := TX7) (N := 45) hx hb ha inAX7 hown hK hP 0 rfl rfl 31 (by decide) (ha _ w_4_65) (fun _ h9 => h9) rfl dX7_lead_6 ?_
      refine lv_bipush (v := 10) hx hb dX7_lead_9 (by decide) ?_
      refine lv_iload_n hx hb dX7_lead_11 rfl (lv_at hl 1 rfl) ?_
      refine lv_imul hx hb dX7_lead_12 ?_
      refine lv_iload_n hx hb dX7_lead_13 rfl (lv_at hl 2 rfl) ?_
      refine lv_iadd hx hb dX7_lead_14 ?_
      refine lv_topi (fun x_3 ex_3 => ?_)
      replace hF := ltP ex_3 hF
      refine lv_dup2_11 hx hb dX7_lead_15 rfl rfl ?_
      replace hF := ckP hN hF
      obtain ⟨c_4, hF⟩ := hF
      refine ld_l hx hb hK hP 1 rfl c_4 dX7_lead_16 ?_
      refine lv_iload_n hx hb dX7_lead_17 rfl (lv_at hl 3 rfl) ?_
      refine lv_i2l hx hb dX7_lead_18 rfl ?_
      refine lv_lsub hx hb dX7_lead_19 ?_
      refine lv_topl (fun x_5 ex_5 => ?_)
      replace hF := ltP ex_5 hF
      replace hF := ckP hN hF
      obtain ⟨c_6, hF⟩ := hF
      obtain ⟨f_7, ef_7⟩ : ∃ g : Nat → Int64, g = vp_updL a_rows (x_3).toNatClampNeg x_5 := ⟨_, rfl⟩
      replace hF := ltP ef_7 hF
      refine st_l (g := f_7) (W2 := [(h_t, .inr (7, [.ref h_tape, .ref h_text, .int v_taped, .int v_size, .int v_faultKind, .int v_faultPlace, .int v_at, .int v_end, .int v_token, .int v_number, .long v_name, .ref h_uName, .ref h_outName, .ref h_setName, .ref h_unitMany, .ref h_yesTo, .ref h_noTo, .ref h_settingMany, .ref h_shares, .ref h_gradeMany, .ref h_gKind, .ref h_gPurity, .ref h_gPrice, .ref h_outPlace, .ref h_setPlace, .ref h_setShare, .ref h_chosen, .int v_bank, .int v_rb, .int v_sets, .int v_missing, .ref h_rows, .ref h_parts, .long v_whole, .ref h_lTown, .ref h_lWeight, .ref h_lSampled, .ref h_hand, .ref h_isStruck, .int v_lorries, .int v_cost, .ref h_all, .ref h_bestChosen, .ref h_gets, .ref h_rests])), (h_rows, .inl (cJ, 50, .inr (.inl f_7)))]) hx hb hK hP hD hS 1 rfl c_6 ef_7 dX7_lead_20 rfl (fun H locs hP hD hS => ?_)
      refine lv_goto (tgt := 55) hx hb dX7_lead_21 (by decide) ?_
      exact hret ((), f_7) H locs ls _ hF hP hD hS dX7_lead_55
  rw [hH, hlo] at goal
  exact goal
theorem dX7_change_0 : decode cX7_change 0 = .ok (.iconst 0, 1) := by decide +kernel
theorem dX7_change_1 : decode cX7_change 1 = .ok (.istore_n 3, 1) := by decide +kernel
theorem dX7_change_2 : decode cX7_change 2 = .ok (.iload_n 3, 1) := by decide +kernel
theorem dX7_change_3 : decode cX7_change 3 = .ok (.bipush 10, 2) := by decide +kernel
theorem dX7_change_5 : decode cX7_change 5 = .ok (.if_icmp .ge 57, 3) := by decide +kernel
theorem dX7_change_8 : decode cX7_change 8 = .ok (.aload_n 0, 1) := by decide +kernel
theorem dX7_change_9 : decode cX7_change 9 = .ok (.getfield 200, 3) := by decide +kernel
theorem dX7_change_12 : decode cX7_change 12 = .ok (.bipush 10, 2) := by decide +kernel
theorem dX7_change_14 : decode cX7_change 14 = .ok (.iload_n 1, 1) := by decide +kernel
theorem dX7_change_15 : decode cX7_change 15 = .ok (.imul, 1) := by decide +kernel
theorem dX7_change_16 : decode cX7_change 16 = .ok (.iload_n 3, 1) := by decide +kernel
theorem dX7_change_17 : decode cX7_change 17 = .ok (.iadd, 1) := by decide +kernel
theorem dX7_change_18 : decode cX7_change 18 = .ok (.laload, 1) := by decide +kernel
theorem dX7_change_19 : decode cX7_change 19 = .ok (.lstore 4, 2) := by decide +kernel
theorem dX7_change_21 : decode cX7_change 21 = .ok (.aload_n 0, 1) := by decide +kernel
theorem dX7_change_22 : decode cX7_change 22 = .ok (.getfield 200, 3) := by decide +kernel
theorem dX7_change_25 : decode cX7_change 25 = .ok (.bipush 10, 2) := by decide +kernel
theorem dX7_change_27 : decode cX7_change 27 = .ok (.iload_n 1, 1) := by decide +kernel
theorem dX7_change_28 : decode cX7_change 28 = .ok (.imul, 1) := by decide +kernel
theorem dX7_change_29 : decode cX7_change 29 = .ok (.iload_n 3, 1) := by decide +kernel
theorem dX7_change_30 : decode cX7_change 30 = .ok (.iadd, 1) := by decide +kernel
theorem dX7_change_31 : decode cX7_change 31 = .ok (.aload_n 0, 1) := by decide +kernel
theorem dX7_change_32 : decode cX7_change 32 = .ok (.getfield 200, 3) := by decide +kernel
theorem dX7_change_35 : decode cX7_change 35 = .ok (.bipush 10, 2) := by decide +kernel
theorem dX7_change_37 : decode cX7_change 37 = .ok (.iload_n 2, 1) := by decide +kernel
theorem dX7_change_38 : decode cX7_change 38 = .ok (.imul, 1) := by decide +kernel
theorem dX7_change_39 : decode cX7_change 39 = .ok (.iload_n 3, 1) := by decide +kernel
theorem dX7_change_40 : decode cX7_change 40 = .ok (.iadd, 1) := by decide +kernel
theorem dX7_change_41 : decode cX7_change 41 = .ok (.laload, 1) := by decide +kernel
theorem dX7_change_42 : decode cX7_change 42 = .ok (.lastore, 1) := by decide +kernel
theorem dX7_change_43 : decode cX7_change 43 = .ok (.aload_n 0, 1) := by decide +kernel
theorem dX7_change_44 : decode cX7_change 44 = .ok (.getfield 200, 3) := by decide +kernel
theorem dX7_change_47 : decode cX7_change 47 = .ok (.bipush 10, 2) := by decide +kernel
theorem dX7_change_49 : decode cX7_change 49 = .ok (.iload_n 2, 1) := by decide +kernel
theorem dX7_change_50 : decode cX7_change 50 = .ok (.imul, 1) := by decide +kernel
theorem dX7_change_51 : decode cX7_change 51 = .ok (.iload_n 3, 1) := by decide +kernel
theorem dX7_change_52 : decode cX7_change 52 = .ok (.iadd, 1) := by decide +kernel
theorem dX7_change_53 : decode cX7_change 53 = .ok (.lload 4, 2) := by decide +kernel
theorem dX7_change_55 : decode cX7_change 55 = .ok (.lastore, 1) := by decide +kernel
theorem dX7_change_56 : decode cX7_change 56 = .ok (.iinc 3 1, 3) := by decide +kernel
theorem dX7_change_59 : decode cX7_change 59 = .ok (.goto (-57), 3) := by decide +kernel
theorem dX7_change_62 : decode cX7_change 62 = .ok (.return_, 1) := by decide +kernel
abbrev rmX7_change : Room := { frames := 0, cells := 0, slots := 0, locals := 0 }
theorem cb_X7_change : CBn yX7_change 2 := ⟨by decide +kernel, by decide +kernel, by decide +kernel⟩
def FX7_change_2 (n : Nat) (z1 : Int32) (z2 : Int32) (k2 : (Nat → Int64) → Int32 → Int32 → Int32 → Option (Unit × (Nat → Int64))) (a_rows : Nat → Int64) (x1 : Int32) (x2 : Int32) (x3 : Int32) : Option (Unit × (Nat → Int64)) := if (10 : Int32) ≤ x3 then (some ((), a_rows)) else (if ¬ ((((10 : Int32) * x1) + x3) < 0 ∨ 50 ≤ ((((10 : Int32) * x1) + x3)).toNatClampNeg) then (lt1 (a_rows ((((10 : Int32) * x1) + x3)).toNatClampNeg) (fun x_3 => if ¬ ((((10 : Int32) * x2) + x3) < 0 ∨ 50 ≤ ((((10 : Int32) * x2) + x3)).toNatClampNeg) then (lt1 (a_rows ((((10 : Int32) * x2) + x3)).toNatClampNeg) (fun x_5 => if ¬ ((((10 : Int32) * x1) + x3) < 0 ∨ 50 ≤ ((((10 : Int32) * x1) + x3)).toNatClampNeg) then (lt1 (vp_updL a_rows ((((10 : Int32) * x1) + x3)).toNatClampNeg x_5) (fun f_7 => if ¬ ((((10 : Int32) * x2) + x3) < 0 ∨ 50 ≤ ((((10 : Int32) * x2) + x3)).toNatClampNeg) then (lt1 (vp_updL f_7 ((((10 : Int32) * x2) + x3)).toNatClampNeg x_3) (fun f_9 => lt1 (x3 + (1 : Int32)) (fun x_10 => k2 f_9 x1 x2 x_10))) else none)) else none)) else none)) else none)
def FX7_change_2L (n : Nat) (z1 : Int32) (z2 : Int32) (j : Nat) : (Nat → Int64) → Int32 → Int32 → Int32 → Option (Unit × (Nat → Int64)) := lpR (FX7_change_2 n z1 z2) (fun _ _ _ _ => none) j
def FX7_change (n : Nat) (a_rows : Nat → Int64) (z1 : Int32) (z2 : Int32) : Option (Unit × (Nat → Int64)) := FX7_change_2L n z1 z2 n a_rows z1 z2 (0 : Int32)
set_option maxHeartbeats 4000000 in
set_option maxRecDepth 100000 in
theorem kX7_change (l : Launch) (D : va_G) (cB cI cJ cZ : ClassId) (rz n sz : Nat) (h_t : Nat) (h_rows : Nat) (h_tape : Nat) (h_text : Nat) (h_uName : Nat) (h_outName : Nat) (h_setName : Nat) (h_unitMany : Nat) (h_yesTo : Nat) (h_noTo : Nat) (h_settingMany : Nat) (h_shares : Nat) (h_gradeMany : Nat) (h_gKind : Nat) (h_gPurity : Nat) (h_gPrice : Nat) (h_outPlace : Nat) (h_setPlace : Nat) (h_setShare : Nat) (h_chosen : Nat) (h_parts : Nat) (h_lTown : Nat) (h_lWeight : Nat) (h_lSampled : Nat) (h_hand : Nat) (h_isStruck : Nat) (h_all : Nat) (h_bestChosen : Nat) (h_gets : Nat) (h_rests : Nat) (v_taped : Int32) (v_size : Int32) (v_faultKind : Int32) (v_faultPlace : Int32) (v_at : Int32) (v_end : Int32) (v_token : Int32) (v_number : Int32) (v_name : Int64) (v_bank : Int32) (v_rb : Int32) (v_sets : Int32) (v_missing : Int32) (v_whole : Int64) (v_lorries : Int32) (v_cost : Int32) (a_rows : Nat → Int64) (z1 : Int32) (z2 : Int32) (hN : FX7_change n a_rows z1 z2 ≠ none) : Met l yX7_change (Cond.code yX7_change cX7_change 6 none :: AL) rmX7_change (PW D cB cI cJ cZ rz [.ref h_t, .int z1, .int z2] [(h_t, .inr (7, [.ref h_tape, .ref h_text, .int v_taped, .int v_size, .int v_faultKind, .int v_faultPlace, .int v_at, .int v_end, .int v_token, .int v_number, .long v_name, .ref h_uName, .ref h_outName, .ref h_setName, .ref h_unitMany, .ref h_yesTo, .ref h_noTo, .ref h_settingMany, .ref h_shares, .ref h_gradeMany, .ref h_gKind, .ref h_gPurity, .ref h_gPrice, .ref h_outPlace, .ref h_setPlace, .ref h_setShare, .ref h_chosen, .int v_bank, .int v_rb, .int v_sets, .int v_missing, .ref h_rows, .ref h_parts, .long v_whole, .ref h_lTown, .ref h_lWeight, .ref h_lSampled, .ref h_hand, .ref h_isStruck, .int v_lorries, .int v_cost, .ref h_all, .ref h_bestChosen, .ref h_gets, .ref h_rests])), (h_rows, .inl (cJ, 50, .inr (.inl a_rows)))] sz) (QV D (FX7_change n a_rows z1 z2) (fun u => [(h_t, .inr (7, [.ref h_tape, .ref h_text, .int v_taped, .int v_size, .int v_faultKind, .int v_faultPlace, .int v_at, .int v_end, .int v_token, .int v_number, .long v_name, .ref h_uName, .ref h_outName, .ref h_setName, .ref h_unitMany, .ref h_yesTo, .ref h_noTo, .ref h_settingMany, .ref h_shares, .ref h_gradeMany, .ref h_gKind, .ref h_gPurity, .ref h_gPrice, .ref h_outPlace, .ref h_setPlace, .ref h_setShare, .ref h_chosen, .int v_bank, .int v_rb, .int v_sets, .int v_missing, .ref h_rows, .ref h_parts, .long v_whole, .ref h_lTown, .ref h_lWeight, .ref h_lSampled, .ref h_hand, .ref h_isStruck, .int v_lorries, .int v_cost, .ref h_all, .ref h_bestChosen, .ref h_gets, .ref h_rests])), (h_rows, .inl (cJ, 50, .inr (.inl u.2)))]) (va_A [(h_t, .inr (7, [.ref h_tape, .ref h_text, .int v_taped, .int v_size, .int v_faultKind, .int v_faultPlace, .int v_at, .int v_end, .int v_token, .int v_number, .long v_name, .ref h_uName, .ref h_outName, .ref h_setName, .ref h_unitMany, .ref h_yesTo, .ref h_noTo, .ref h_settingMany, .ref h_shares, .ref h_gradeMany, .ref h_gKind, .ref h_gPurity, .ref h_gPrice, .ref h_outPlace, .ref h_setPlace, .ref h_setShare, .ref h_chosen, .int v_bank, .int v_rb, .int v_sets, .int v_missing, .ref h_rows, .ref h_parts, .long v_whole, .ref h_lTown, .ref h_lWeight, .ref h_lSampled, .ref h_hand, .ref h_isStruck, .int v_lorries, .int v_cost, .ref h_all, .ref h_bestChosen, .ref h_gets, .ref h_rests])), (h_rows, .inl (cJ, 50, .inr (.inl a_rows)))] sz)) 0 0 (va_A [(h_t, .inr (7, [.ref h_tape, .ref h_text, .int v_taped, .int v_size, .int v_faultKind, .int v_faultPlace, .int v_at, .int v_end, .int v_token, .int v_number, .long v_name, .ref h_uName, .ref h_outName, .ref h_setName, .ref h_unitMany, .ref h_yesTo, .ref h_noTo, .ref h_settingMany, .ref h_shares, .ref h_gradeMany, .ref h_gKind, .ref h_gPurity, .ref h_gPrice, .ref h_outPlace, .ref h_setPlace, .ref h_setShare, .ref h_chosen, .int v_bank, .int v_rb, .int v_sets, .int v_missing, .ref h_rows, .ref h_parts, .long v_whole, .ref h_lTown, .ref h_lWeight, .ref h_lSampled, .ref h_hand, .ref h_isStruck, .int v_lorries, .int v_cost, .ref h_all, .ref h_bestChosen, .ref h_gets, .ref h_rests])), (h_rows, .inl (cJ, 50, .inr (.inl a_rows)))] sz) := by
  obtain ⟨O, hF⟩ : ∃ O, FX7_change n a_rows z1 z2 = O := ⟨_, rfl⟩
  rw [hF] at hN ⊢
  refine enterV (cc := cX7_change) (nL := 6) (by decide) (Nat.le_of_ble_eq_true rfl) ?_
  intro p e s m below meth c A Q X hA hE hnm hsz hP hD hS hret ls hl
  obtain ⟨hx, hb, hml, hown0, ha⟩ := id X
  have hown : s.vm.findClass RX7 = some m.cls := hown0
  have hK := hE.1
  have hl : lv_has ls 6 [(0, .ref h_t), (1, .int z1), (2, .int z2)] := hl
  have hX : CallFix p m c cX7_change 6 s ([.ref h_t, .int z1, .int z2] : List Value).toArray AL RX7 := X
  have X := hX
  have L2 : ∀ (k2 : (Nat → Int64) → Int32 → Int32 → Int32 → Option (Unit × (Nat → Int64))) (ih2 : ∀ (a_rows : Nat → Int64) (x1 : Int32) (x2 : Int32) (x3 : Int32) (H : Heap) (locs : List Loc) (ls : Array Slot), k2 a_rows x1 x2 x3 = O → va_P D classes [(h_t, .inr (7, [.ref h_tape, .ref h_text, .int v_taped, .int v_size, .int v_faultKind, .int v_faultPlace, .int v_at, .int v_end, .int v_token, .int v_number, .long v_name, .ref h_uName, .ref h_outName, .ref h_setName, .ref h_unitMany, .ref h_yesTo, .ref h_noTo, .ref h_settingMany, .ref h_shares, .ref h_gradeMany, .ref h_gKind, .ref h_gPurity, .ref h_gPrice, .ref h_outPlace, .ref h_setPlace, .ref h_setShare, .ref h_chosen, .int v_bank, .int v_rb, .int v_sets, .int v_missing, .ref h_rows, .ref h_parts, .long v_whole, .ref h_lTown, .ref h_lWeight, .ref h_lSampled, .ref h_hand, .ref h_isStruck, .int v_lorries, .int v_cost, .ref h_all, .ref h_bestChosen, .ref h_gets, .ref h_rests])), (h_rows, .inl (cJ, 50, .inr (.inl a_rows)))] H → va_D A [(h_t, .inr (7, [.ref h_tape, .ref h_text, .int v_taped, .int v_size, .int v_faultKind, .int v_faultPlace, .int v_at, .int v_end, .int v_token, .int v_number, .long v_name, .ref h_uName, .ref h_outName, .ref h_setName, .ref h_unitMany, .ref h_yesTo, .ref h_noTo, .ref h_settingMany, .ref h_shares, .ref h_gradeMany, .ref h_gKind, .ref h_gPurity, .ref h_gPrice, .ref h_outPlace, .ref h_setPlace, .ref h_setShare, .ref h_chosen, .int v_bank, .int v_rb, .int v_sets, .int v_missing, .ref h_rows, .ref h_parts, .long v_whole, .ref h_lTown, .ref h_lWeight, .ref h_lSampled, .ref h_hand, .ref h_isStruck, .int v_lorries, .int v_cost, .ref h_all, .ref h_bestChosen, .ref h_gets, .ref h_rests])), (h_rows, .inl (cJ, 50, .inr (.inl a_rows)))] → va_S A s.heap H locs → lv_has ls 6 [(0, .ref h_t), (1, .int x1), (2, .int x2), (3, .int x3)] → W p l e rmX7_change s m ([.ref h_t, .int z1, .int z2] : List Value).toArray below meth c H locs 0 0 Q (F0 m 2 ls [])), ∀ (a_rows : Nat → Int64) (x1 : Int32) (x2 : Int32) (x3 : Int32) (H : Heap) (locs : List Loc) (ls : Array Slot), FX7_change_2 n z1 z2 k2 a_rows x1 x2 x3 = O → va_P D classes [(h_t, .inr (7, [.ref h_tape, .ref h_text, .int v_taped, .int v_size, .int v_faultKind, .int v_faultPlace, .int v_at, .int v_end, .int v_token, .int v_number, .long v_name, .ref h_uName, .ref h_outName, .ref h_setName, .ref h_unitMany, .ref h_yesTo, .ref h_noTo, .ref h_settingMany, .ref h_shares, .ref h_gradeMany, .ref h_gKind, .ref h_gPurity, .ref h_gPrice, .ref h_outPlace, .ref h_setPlace, .ref h_setShare, .ref h_chosen, .int v_bank, .int v_rb, .int v_sets, .int v_missing, .ref h_rows, .ref h_parts, .long v_whole, .ref h_lTown, .ref h_lWeight, .ref h_lSampled, .ref h_hand, .ref h_isStruck, .int v_lorries, .int v_cost, .ref h_all, .ref h_bestChosen, .ref h_gets, .ref h_rests])), (h_rows, .inl (cJ, 50, .inr (.inl a_rows)))] H → va_D A [(h_t, .inr (7, [.ref h_tape, .ref h_text, .int v_taped, .int v_size, .int v_faultKind, .int v_faultPlace, .int v_at, .int v_end, .int v_token, .int v_number, .long v_name, .ref h_uName, .ref h_outName, .ref h_setName, .ref h_unitMany, .ref h_yesTo, .ref h_noTo, .ref h_settingMany, .ref h_shares, .ref h_gradeMany, .ref h_gKind, .ref h_gPurity, .ref h_gPrice, .ref h_outPlace, .ref h_setPlace, .ref h_setShare, .ref h_chosen, .int v_bank, .int v_rb, .int v_sets, .int v_missing, .ref h_rows, .ref h_parts, .long v_whole, .ref h_lTown, .ref h_lWeight, .ref h_lSampled, .ref h_hand, .ref h_isStruck, .int v_lorries, .int v_cost, .ref h_all, .ref h_bestChosen, .ref h_gets, .ref h_rests])), (h_rows, .inl (cJ, 50, .inr (.inl a_rows)))] → va_S A s.heap H locs → lv_has ls 6 [(0, .ref h_t), (1, .int x1), (2, .int x2), (3, .int x3)] → W p l e rmX7_change s m ([.ref h_t, .int z1, .int z2] : List Value).toArray below meth c H locs 0 0 Q (F0 m 2 ls []) := by
    intro k2 ih2 a_rows x1 x2 x3 H locs ls hF hP hD hS hl
    unfold FX7_change_2 at hF
    refine lv_iload_n hx hb dX7_change_2 rfl (lv_at hl 3 rfl) ?_
    refine lv_bipush (v := 10) hx hb dX7_change_3 (by decide) ?_
    refine lv_icmp_ge (tgt := 62) hx hb dX7_change_5 (by decide) (fun c_1 => ?_) (fun c_1 => ?_)
    · replace hF := ifT c_1 hF
      exact hret ((), a_rows) H locs ls _ hF hP hD hS dX7_change_62
    · replace hF := ifF c_1 hF
      refine lv_aload_n hx hb dX7_change_8 rfl (lv_at hl 0 rfl) ?_
      refine va_get (D := D) (ci := 7) (C := RX7) (T := TX7) (N := 45) hx hb ha inAX7 hown hK hP 0 rfl rfl 31 (by decide) (ha _ w_4_65) (fun _ h9 => h9) rfl dX7_change_9 ?_
      refine lv_bipush (v := 10) hx hb dX7_change_12 (by decide) ?_
      refine lv_iload_n hx hb dX7_change_14 rfl (lv_at hl 1 rfl) ?_
      refine lv_imul hx hb dX7_change_15 ?_
      refine lv_iload_n hx hb dX7_change_16 rfl (lv_at hl 3 rfl) ?_
      refine lv_iadd hx hb dX7_change_17 ?_
      replace hF := ckP hN hF
      obtain ⟨c_2, hF⟩ := hF
      refine ld_l hx hb hK hP 1 rfl c_2 dX7_change_18 ?_
      refine lv_topl (fun x_3 ex_3 => ?_)
      replace hF := ltP ex_3 hF
      refine lv_lstore (lv' := [(4, .long x_3), (0, .ref h_t), (1, .int x1), (2, .int x2), (3, .int x3)]) hx hb dX7_change_19 hl (by decide) rfl (fun ls hl => ?_)
      refine lv_aload_n hx hb dX7_change_21 rfl (lv_at hl 1 rfl) ?_
      refine va_get (D := D) (ci := 7) (C := RX7) (T := TX7) (N := 45) hx hb ha inAX7 hown hK hP 0 rfl rfl 31 (by decide) (ha _ w_4_65) (fun _ h9 => h9) rfl dX7_change_22 ?_
      refine lv_bipush (v := 10) hx hb dX7_change_25 (by decide) ?_
      refine lv_iload_n hx hb dX7_change_27 rfl (lv_at hl 2 rfl) ?_
      refine lv_imul hx hb dX7_change_28 ?_
      refine lv_iload_n hx hb dX7_change_29 rfl (lv_at hl 4 rfl) ?_
      refine lv_iadd hx hb dX7_change_30 ?_
      refine lv_aload_n hx hb dX7_change_31 rfl (lv_at hl 1 rfl) ?_
      refine va_get (D := D) (ci := 7) (C := RX7) (T := TX7) (N := 45) hx hb ha inAX7 hown hK hP 0 rfl rfl 31 (by decide) (ha _ w_4_65) (fun _ h9 => h9) rfl dX7_change_32 ?_
      refine lv_bipush (v := 10) hx hb dX7_change_35 (by decide) ?_
      refine lv_iload_n hx hb dX7_change_37 rfl (lv_at hl 3 rfl) ?_
      refine lv_imul hx hb dX7_change_38 ?_
      refine lv_iload_n hx hb dX7_change_39 rfl (lv_at hl 4 rfl) ?_
      refine lv_iadd hx hb dX7_change_40 ?_
      replace hF := ckP hN hF
      obtain ⟨c_4, hF⟩ := hF
      refine ld_l hx hb hK hP 1 rfl c_4 dX7_change_41 ?_
      refine lv_topl (fun x_5 ex_5 => ?_)
      replace hF := ltP ex_5 hF
      replace hF := ckP hN hF
      obtain ⟨c_6, hF⟩ := hF
      obtain ⟨f_7, ef_7⟩ : ∃ g : Nat → Int64, g = vp_updL a_rows ((((10 : Int32) * x1) + x3)).toNatClampNeg x_5 := ⟨_, rfl⟩
      replace hF := ltP ef_7 hF
      refine st_l (g := f_7) (W2 := [(h_t, .inr (7, [.ref h_tape, .ref h_text, .int v_taped, .int v_size, .int v_faultKind, .int v_faultPlace, .int v_at, .int v_end, .int v_token, .int v_number, .long v_name, .ref h_uName, .ref h_outName, .ref h_setName, .ref h_unitMany, .ref h_yesTo, .ref h_noTo, .ref h_settingMany, .ref h_shares, .ref h_gradeMany, .ref h_gKind, .ref h_gPurity, .ref h_gPrice, .ref h_outPlace, .ref h_setPlace, .ref h_setShare, .ref h_chosen, .int v_bank, .int v_rb, .int v_sets, .int v_missing, .ref h_rows, .ref h_parts, .long v_whole, .ref h_lTown, .ref h_lWeight, .ref h_lSampled, .ref h_hand, .ref h_isStruck, .int v_lorries, .int v_cost, .ref h_all, .ref h_bestChosen, .ref h_gets, .ref h_rests])), (h_rows, .inl (cJ, 50, .inr (.inl f_7)))]) hx hb hK hP hD hS 1 rfl c_6 ef_7 dX7_change_42 rfl (fun H locs hP hD hS => ?_)
      refine lv_aload_n hx hb dX7_change_43 rfl (lv_at hl 1 rfl) ?_
      refine va_get (D := D) (ci := 7) (C := RX7) (T := TX7) (N := 45) hx hb ha inAX7 hown hK hP 0 rfl rfl 31 (by decide) (ha _ w_4_65) (fun _ h9 => h9) rfl dX7_change_44 ?_
      refine lv_bipush (v := 10) hx hb dX7_change_47 (by decide) ?_
      refine lv_iload_n hx hb dX7_change_49 rfl (lv_at hl 3 rfl) ?_
      refine lv_imul hx hb dX7_change_50 ?_
      refine lv_iload_n hx hb dX7_change_51 rfl (lv_at hl 4 rfl) ?_
      refine lv_iadd hx hb dX7_change_52 ?_
      refine lv_lload hx hb dX7_change_53 (lv_at hl 0 rfl) ?_
      replace hF := ckP hN hF
      obtain ⟨c_8, hF⟩ := hF
      obtain ⟨f_9, ef_9⟩ : ∃ g : Nat → Int64, g = vp_updL f_7 ((((10 : Int32) * x2) + x3)).toNatClampNeg x_3 := ⟨_, rfl⟩
      replace hF := ltP ef_9 hF
      refine st_l (g := f_9) (W2 := [(h_t, .inr (7, [.ref h_tape, .ref h_text, .int v_taped, .int v_size, .int v_faultKind, .int v_faultPlace, .int v_at, .int v_end, .int v_token, .int v_number, .long v_name, .ref h_uName, .ref h_outName, .ref h_setName, .ref h_unitMany, .ref h_yesTo, .ref h_noTo, .ref h_settingMany, .ref h_shares, .ref h_gradeMany, .ref h_gKind, .ref h_gPurity, .ref h_gPrice, .ref h_outPlace, .ref h_setPlace, .ref h_setShare, .ref h_chosen, .int v_bank, .int v_rb, .int v_sets, .int v_missing, .ref h_rows, .ref h_parts, .long v_whole, .ref h_lTown, .ref h_lWeight, .ref h_lSampled, .ref h_hand, .ref h_isStruck, .int v_lorries, .int v_cost, .ref h_all, .ref h_bestChosen, .ref h_gets, .ref h_rests])), (h_rows, .inl (cJ, 50, .inr (.inl f_9)))]) hx hb hK hP hD hS 1 rfl c_8 ef_9 dX7_change_55 rfl (fun H locs hP hD hS => ?_)
      obtain ⟨x_10, ex_10⟩ : ∃ y : Int32, y = x3 + (1 : Int32) := ⟨_, rfl⟩
      replace hF := ltP ex_10 hF
      refine lv_iinc (v := x_10) (lv' := [(3, .int x_10), (4, .long x_3), (0, .ref h_t), (1, .int x1), (2, .int x2)]) hx hb dX7_change_56 hl (k := 4) rfl (by rw [ex_10]; rfl) (by decide) rfl (fun ls hl => ?_)
      refine lv_goto (tgt := 2) hx hb dX7_change_59 (by decide) ?_
      exact ih2 f_9 x1 x2 x_10 H locs ls hF hP hD hS (lv_sub hl [2, 3, 4, 0] rfl)
  have Lc2 : ∀ (j : Nat), ∀ (a_rows : Nat → Int64) (x1 : Int32) (x2 : Int32) (x3 : Int32) (H : Heap) (locs : List Loc) (ls : Array Slot), FX7_change_2L n z1 z2 j a_rows x1 x2 x3 = O → va_P D classes [(h_t, .inr (7, [.ref h_tape, .ref h_text, .int v_taped, .int v_size, .int v_faultKind, .int v_faultPlace, .int v_at, .int v_end, .int v_token, .int v_number, .long v_name, .ref h_uName, .ref h_outName, .ref h_setName, .ref h_unitMany, .ref h_yesTo, .ref h_noTo, .ref h_settingMany, .ref h_shares, .ref h_gradeMany, .ref h_gKind, .ref h_gPurity, .ref h_gPrice, .ref h_outPlace, .ref h_setPlace, .ref h_setShare, .ref h_chosen, .int v_bank, .int v_rb, .int v_sets, .int v_missing, .ref h_rows, .ref h_parts, .long v_whole, .ref h_lTown, .ref h_lWeight, .ref h_lSampled, .ref h_hand, .ref h_isStruck, .int v_lorries, .int v_cost, .ref h_all, .ref h_bestChosen, .ref h_gets, .ref h_rests])), (h_rows, .inl (cJ, 50, .inr (.inl a_rows)))] H → va_D A [(h_t, .inr (7, [.ref h_tape, .ref h_text, .int v_taped, .int v_size, .int v_faultKind, .int v_faultPlace, .int v_at, .int v_end, .int v_token, .int v_number, .long v_name, .ref h_uName, .ref h_outName, .ref h_setName, .ref h_unitMany, .ref h_yesTo, .ref h_noTo, .ref h_settingMany, .ref h_shares, .ref h_gradeMany, .ref h_gKind, .ref h_gPurity, .ref h_gPrice, .ref h_outPlace, .ref h_setPlace, .ref h_setShare, .ref h_chosen, .int v_bank, .int v_rb, .int v_sets, .int v_missing, .ref h_rows, .ref h_parts, .long v_whole, .ref h_lTown, .ref h_lWeight, .ref h_lSampled, .ref h_hand, .ref h_isStruck, .int v_lorries, .int v_cost, .ref h_all, .ref h_bestChosen, .ref h_gets, .ref h_rests])), (h_rows, .inl (cJ, 50, .inr (.inl a_rows)))] → va_S A s.heap H locs → lv_has ls 6 [(0, .ref h_t), (1, .int x1), (2, .int x2), (3, .int x3)] → W p l e rmX7_change s m ([.ref h_t, .int z1, .int z2] : List Value).toArray below meth c H locs 0 0 Q (F0 m 2 ls []) := by
    intro j
    induction j with
    | zero => intro _ _ _ _ H locs ls hF; exact absurd hF.symm hN
    | succ j ih => exact L2 (FX7_change_2L n z1 z2 j) ih
  unfold FX7_change at hF
  obtain ⟨H, hH⟩ : ∃ H, H = s.heap := ⟨_, rfl⟩
  obtain ⟨locs, hlo⟩ : ∃ locs : List Loc, locs = [] := ⟨_, rfl⟩
  have hS : va_S A s.heap H locs := by rw [hH, hlo]; exact hS
  rw [← hH] at hP
  have goal : W p l e rmX7_change s m ([.ref h_t, .int z1, .int z2] : List Value).toArray below meth c H locs 0 0 Q (F0 m 0 ls []) := by
    refine lv_iconst (v := 0) hx hb dX7_change_0 (by decide) ?_
    refine lv_istore_n (lv' := [(3, .int (0 : Int32)), (0, .ref h_t), (1, .int z1), (2, .int z2)]) hx hb dX7_change_1 rfl hl (by decide) rfl (fun ls hl => ?_)
    exact Lc2 n a_rows z1 z2 (0 : Int32) H locs ls hF hP hD hS (lv_sub hl [1, 2, 3, 0] rfl)
  rw [hH, hlo] at goal
  exact goal
