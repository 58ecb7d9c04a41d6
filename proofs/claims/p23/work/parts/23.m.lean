theorem dX6_chance_0 : decode cX6_chance 0 = .ok (.iload_n 1, 1) := by decide +kernel
theorem dX6_chance_1 : decode cX6_chance 1 = .ok (.iconst 1, 1) := by decide +kernel
theorem dX6_chance_2 : decode cX6_chance 2 = .ok (.if_icmp .lt 38, 3) := by decide +kernel
theorem dX6_chance_5 : decode cX6_chance 5 = .ok (.iload_n 1, 1) := by decide +kernel
theorem dX6_chance_6 : decode cX6_chance 6 = .ok (.bipush 30, 2) := by decide +kernel
theorem dX6_chance_8 : decode cX6_chance 8 = .ok (.if_icmp .gt 32, 3) := by decide +kernel
theorem dX6_chance_11 : decode cX6_chance 11 = .ok (.iload_n 2, 1) := by decide +kernel
theorem dX6_chance_12 : decode cX6_chance 12 = .ok (.ifCond .lt 28, 3) := by decide +kernel
theorem dX6_chance_15 : decode cX6_chance 15 = .ok (.iload_n 2, 1) := by decide +kernel
theorem dX6_chance_16 : decode cX6_chance 16 = .ok (.iload_n 1, 1) := by decide +kernel
theorem dX6_chance_17 : decode cX6_chance 17 = .ok (.if_icmp .gt 23, 3) := by decide +kernel
theorem dX6_chance_20 : decode cX6_chance 20 = .ok (.iload_n 3, 1) := by decide +kernel
theorem dX6_chance_21 : decode cX6_chance 21 = .ok (.ifCond .lt 19, 3) := by decide +kernel
theorem dX6_chance_24 : decode cX6_chance 24 = .ok (.iload_n 3, 1) := by decide +kernel
theorem dX6_chance_25 : decode cX6_chance 25 = .ok (.iload_n 1, 1) := by decide +kernel
theorem dX6_chance_26 : decode cX6_chance 26 = .ok (.if_icmp .gt 14, 3) := by decide +kernel
theorem dX6_chance_29 : decode cX6_chance 29 = .ok (.iload 4, 2) := by decide +kernel
theorem dX6_chance_31 : decode cX6_chance 31 = .ok (.ifCond .lt 9, 3) := by decide +kernel
theorem dX6_chance_34 : decode cX6_chance 34 = .ok (.iload 4, 2) := by decide +kernel
theorem dX6_chance_36 : decode cX6_chance 36 = .ok (.iload_n 3, 1) := by decide +kernel
theorem dX6_chance_37 : decode cX6_chance 37 = .ok (.if_icmp .le 5, 3) := by decide +kernel
theorem dX6_chance_40 : decode cX6_chance 40 = .ok (.iconst (-1), 1) := by decide +kernel
theorem dX6_chance_41 : decode cX6_chance 41 = .ok (.ireturn, 1) := by decide +kernel
theorem dX6_chance_42 : decode cX6_chance 42 = .ok (.iload 5, 2) := by decide +kernel
theorem dX6_chance_44 : decode cX6_chance 44 = .ok (.ifCond .eq 11, 3) := by decide +kernel
theorem dX6_chance_47 : decode cX6_chance 47 = .ok (.iload 5, 2) := by decide +kernel
theorem dX6_chance_49 : decode cX6_chance 49 = .ok (.iconst 1, 1) := by decide +kernel
theorem dX6_chance_50 : decode cX6_chance 50 = .ok (.if_icmp .eq 5, 3) := by decide +kernel
theorem dX6_chance_53 : decode cX6_chance 53 = .ok (.iconst (-1), 1) := by decide +kernel
theorem dX6_chance_54 : decode cX6_chance 54 = .ok (.ireturn, 1) := by decide +kernel
theorem dX6_chance_55 : decode cX6_chance 55 = .ok (.iload_n 1, 1) := by decide +kernel
theorem dX6_chance_56 : decode cX6_chance 56 = .ok (.iload_n 3, 1) := by decide +kernel
theorem dX6_chance_57 : decode cX6_chance 57 = .ok (.invokestatic 181, 3) := by decide +kernel
theorem dX6_chance_60 : decode cX6_chance 60 = .ok (.lstore 6, 2) := by decide +kernel
theorem dX6_chance_62 : decode cX6_chance 62 = .ok (.lconst 0, 1) := by decide +kernel
theorem dX6_chance_63 : decode cX6_chance 63 = .ok (.lstore 8, 2) := by decide +kernel
theorem dX6_chance_65 : decode cX6_chance 65 = .ok (.iconst 0, 1) := by decide +kernel
theorem dX6_chance_66 : decode cX6_chance 66 = .ok (.istore 10, 2) := by decide +kernel
theorem dX6_chance_68 : decode cX6_chance 68 = .ok (.iload 10, 2) := by decide +kernel
theorem dX6_chance_70 : decode cX6_chance 70 = .ok (.iload 4, 2) := by decide +kernel
theorem dX6_chance_72 : decode cX6_chance 72 = .ok (.if_icmp .gt 31, 3) := by decide +kernel
theorem dX6_chance_75 : decode cX6_chance 75 = .ok (.lload 8, 2) := by decide +kernel
theorem dX6_chance_77 : decode cX6_chance 77 = .ok (.iload_n 2, 1) := by decide +kernel
theorem dX6_chance_78 : decode cX6_chance 78 = .ok (.iload 10, 2) := by decide +kernel
theorem dX6_chance_80 : decode cX6_chance 80 = .ok (.invokestatic 181, 3) := by decide +kernel
theorem dX6_chance_83 : decode cX6_chance 83 = .ok (.iload_n 1, 1) := by decide +kernel
theorem dX6_chance_84 : decode cX6_chance 84 = .ok (.iload_n 2, 1) := by decide +kernel
theorem dX6_chance_85 : decode cX6_chance 85 = .ok (.isub, 1) := by decide +kernel
theorem dX6_chance_86 : decode cX6_chance 86 = .ok (.iload_n 3, 1) := by decide +kernel
theorem dX6_chance_87 : decode cX6_chance 87 = .ok (.iload 10, 2) := by decide +kernel
theorem dX6_chance_89 : decode cX6_chance 89 = .ok (.isub, 1) := by decide +kernel
theorem dX6_chance_90 : decode cX6_chance 90 = .ok (.invokestatic 181, 3) := by decide +kernel
theorem dX6_chance_93 : decode cX6_chance 93 = .ok (.lmul, 1) := by decide +kernel
theorem dX6_chance_94 : decode cX6_chance 94 = .ok (.ladd, 1) := by decide +kernel
theorem dX6_chance_95 : decode cX6_chance 95 = .ok (.lstore 8, 2) := by decide +kernel
theorem dX6_chance_97 : decode cX6_chance 97 = .ok (.iinc 10 1, 3) := by decide +kernel
theorem dX6_chance_100 : decode cX6_chance 100 = .ok (.goto (-32), 3) := by decide +kernel
theorem dX6_chance_103 : decode cX6_chance 103 = .ok (.lload 8, 2) := by decide +kernel
theorem dX6_chance_105 : decode cX6_chance 105 = .ok (.lload 6, 2) := by decide +kernel
theorem dX6_chance_107 : decode cX6_chance 107 = .ok (.invokestatic 185, 3) := by decide +kernel
theorem dX6_chance_110 : decode cX6_chance 110 = .ok (.lstore 10, 2) := by decide +kernel
theorem dX6_chance_112 : decode cX6_chance 112 = .ok (.lload 10, 2) := by decide +kernel
theorem dX6_chance_114 : decode cX6_chance 114 = .ok (.lconst 1, 1) := by decide +kernel
theorem dX6_chance_115 : decode cX6_chance 115 = .ok (.lcmp, 1) := by decide +kernel
theorem dX6_chance_116 : decode cX6_chance 116 = .ok (.ifCond .ge 5, 3) := by decide +kernel
theorem dX6_chance_119 : decode cX6_chance 119 = .ok (.iconst (-1), 1) := by decide +kernel
theorem dX6_chance_120 : decode cX6_chance 120 = .ok (.ireturn, 1) := by decide +kernel
theorem dX6_chance_121 : decode cX6_chance 121 = .ok (.iload 5, 2) := by decide +kernel
theorem dX6_chance_123 : decode cX6_chance 123 = .ok (.ifCond .ne 8, 3) := by decide +kernel
theorem dX6_chance_126 : decode cX6_chance 126 = .ok (.lload 8, 2) := by decide +kernel
theorem dX6_chance_128 : decode cX6_chance 128 = .ok (.goto 5, 3) := by decide +kernel
theorem dX6_chance_131 : decode cX6_chance 131 = .ok (.lload 6, 2) := by decide +kernel
theorem dX6_chance_133 : decode cX6_chance 133 = .ok (.lload 10, 2) := by decide +kernel
theorem dX6_chance_135 : decode cX6_chance 135 = .ok (.ldiv, 1) := by decide +kernel
theorem dX6_chance_136 : decode cX6_chance 136 = .ok (.l2i, 1) := by decide +kernel
theorem dX6_chance_137 : decode cX6_chance 137 = .ok (.ireturn, 1) := by decide +kernel
abbrev rmX6_chance : Room := { frames := 1, cells := 0, slots := 0, locals := 30 }
theorem cb_X6_chance : CBn yX6_chance 5 := ⟨by decide +kernel, by decide +kernel, by decide +kernel⟩
def FX6_chance_68 (n : Nat) (z1 : Int32) (z2 : Int32) (z3 : Int32) (z4 : Int32) (z5 : Int32) (k68 : Int32 → Int32 → Int32 → Int32 → Int32 → Int64 → Int64 → Int32 → Option (Int32 × Unit)) (x1 : Int32) (x2 : Int32) (x3 : Int32) (x4 : Int32) (x5 : Int32) (x6 : Int64) (x8 : Int64) (x10 : Int32) : Option (Int32 × Unit) := if x4 < x10 then (bd (FX6_greatestDivisor n x8 x6) (fun u_15 => if 0 ≤ (lg_cmp u_15.1 (1 : Int64)) then (if x5 = 0 then (if ¬ u_15.1 = 0 then (some (((x8 / u_15.1)).toInt32, ())) else none) else (if ¬ u_15.1 = 0 then (some (((x6 / u_15.1)).toInt32, ())) else none)) else (some ((-1 : Int32), ())))) else (bd (FX6_waysToDraw n x2 x10) (fun u_21 => bd (FX6_waysToDraw n (x1 - x2) (x3 - x10)) (fun u_23 => lt1 (x8 + (u_21.1 * u_23.1)) (fun x_24 => lt1 (x10 + (1 : Int32)) (fun x_25 => k68 x1 x2 x3 x4 x5 x6 x_24 x_25)))))
def FX6_chance_68L (n : Nat) (z1 : Int32) (z2 : Int32) (z3 : Int32) (z4 : Int32) (z5 : Int32) (j : Nat) : Int32 → Int32 → Int32 → Int32 → Int32 → Int64 → Int64 → Int32 → Option (Int32 × Unit) := lpR (FX6_chance_68 n z1 z2 z3 z4 z5) (fun _ _ _ _ _ _ _ _ => none) j
def FX6_chance_55 (n : Nat) (z1 : Int32) (z2 : Int32) (z3 : Int32) (z4 : Int32) (z5 : Int32) (x1 : Int32) (x2 : Int32) (x3 : Int32) (x4 : Int32) (x5 : Int32) : Option (Int32 × Unit) := bd (FX6_waysToDraw n x1 x3) (fun u_12 => FX6_chance_68L n z1 z2 z3 z4 z5 n x1 x2 x3 x4 x5 u_12.1 (0 : Int64) (0 : Int32))
def FX6_chance (n : Nat) (z1 : Int32) (z2 : Int32) (z3 : Int32) (z4 : Int32) (z5 : Int32) : Option (Int32 × Unit) := if z1 < (1 : Int32) then (some ((-1 : Int32), ())) else (if (30 : Int32) < z1 then (some ((-1 : Int32), ())) else (if z2 < 0 then (some ((-1 : Int32), ())) else (if z1 < z2 then (some ((-1 : Int32), ())) else (if z3 < 0 then (some ((-1 : Int32), ())) else (if z1 < z3 then (some ((-1 : Int32), ())) else (if z4 < 0 then (some ((-1 : Int32), ())) else (if z4 ≤ z3 then (if z5 = 0 then (FX6_chance_55 n z1 z2 z3 z4 z5 z1 z2 z3 z4 z5) else (if z5 = (1 : Int32) then (FX6_chance_55 n z1 z2 z3 z4 z5 z1 z2 z3 z4 z5) else (some ((-1 : Int32), ())))) else (some ((-1 : Int32), ())))))))))
set_option maxHeartbeats 4000000 in
set_option maxRecDepth 100000 in
theorem kX6_chance (l : Launch) (D : va_G) (cB cI cJ cZ : ClassId) (rz n sz : Nat) (h_t : Nat) (h_told : Nat) (h_reader : Nat) (h_chosen : Nat) (h_tried : Nat) (h_byHand : Nat) (h_coming : Nat) (h_ends : Nat) (h_heaps : Nat) (h_yard : Nat) (v_faultNumber : Int32) (v_faultPlace : Int32) (v_costOfKilogram : Int32) (z1 : Int32) (z2 : Int32) (z3 : Int32) (z4 : Int32) (z5 : Int32) (hN : FX6_chance n z1 z2 z3 z4 z5 ≠ none) : Met l yX6_chance (Cond.code yX6_chance cX6_chance 12 (some .int) :: AL) rmX6_chance (PW D cB cI cJ cZ rz [.ref h_t, .int z1, .int z2, .int z3, .int z4, .int z5] [(h_t, .inr (6, [.ref h_told, .ref h_reader, .int v_faultNumber, .int v_faultPlace, .ref h_chosen, .ref h_tried, .ref h_byHand, .ref h_coming, .ref h_ends, .ref h_heaps, .ref h_yard, .int v_costOfKilogram]))] sz) (QI D (FX6_chance n z1 z2 z3 z4 z5) (fun u => [(h_t, .inr (6, [.ref h_told, .ref h_reader, .int v_faultNumber, .int v_faultPlace, .ref h_chosen, .ref h_tried, .ref h_byHand, .ref h_coming, .ref h_ends, .ref h_heaps, .ref h_yard, .int v_costOfKilogram]))]) (va_A [(h_t, .inr (6, [.ref h_told, .ref h_reader, .int v_faultNumber, .int v_faultPlace, .ref h_chosen, .ref h_tried, .ref h_byHand, .ref h_coming, .ref h_ends, .ref h_heaps, .ref h_yard, .int v_costOfKilogram]))] sz)) 0 0 (va_A [(h_t, .inr (6, [.ref h_told, .ref h_reader, .int v_faultNumber, .int v_faultPlace, .ref h_chosen, .ref h_tried, .ref h_byHand, .ref h_coming, .ref h_ends, .ref h_heaps, .ref h_yard, .int v_costOfKilogram]))] sz) := by
  obtain ⟨O, hF⟩ : ∃ O, FX6_chance n z1 z2 z3 z4 z5 = O := ⟨_, rfl⟩
  rw [hF] at hN ⊢
  refine enterI (cc := cX6_chance) (nL := 12) (by decide) (Nat.le_of_ble_eq_true rfl) ?_
  intro p e s m below meth c A Q X hA hE hnm hsz hP hD hS hret ls hl
  obtain ⟨hx, hb, hml, hown0, ha⟩ := id X
  have hown : s.vm.findClass RX6 = some m.cls := hown0
  have hK := hE.1
  have hl : lv_has ls 12 [(0, .ref h_t), (1, .int z1), (2, .int z2), (3, .int z3), (4, .int z4), (5, .int z5)] := hl
  have hX : CallFix p m c cX6_chance 12 s ([.ref h_t, .int z1, .int z2, .int z3, .int z4, .int z5] : List Value).toArray AL RX6 := X
  have X := hX
  have L68 : ∀ (k68 : Int32 → Int32 → Int32 → Int32 → Int32 → Int64 → Int64 → Int32 → Option (Int32 × Unit)) (ih68 : ∀ (x1 : Int32) (x2 : Int32) (x3 : Int32) (x4 : Int32) (x5 : Int32) (x6 : Int64) (x8 : Int64) (x10 : Int32) (H : Heap) (locs : List Loc) (ls : Array Slot), k68 x1 x2 x3 x4 x5 x6 x8 x10 = O → va_P D classes [(h_t, .inr (6, [.ref h_told, .ref h_reader, .int v_faultNumber, .int v_faultPlace, .ref h_chosen, .ref h_tried, .ref h_byHand, .ref h_coming, .ref h_ends, .ref h_heaps, .ref h_yard, .int v_costOfKilogram]))] H → va_D A [(h_t, .inr (6, [.ref h_told, .ref h_reader, .int v_faultNumber, .int v_faultPlace, .ref h_chosen, .ref h_tried, .ref h_byHand, .ref h_coming, .ref h_ends, .ref h_heaps, .ref h_yard, .int v_costOfKilogram]))] → va_S A s.heap H locs → lv_has ls 12 [(1, .int x1), (2, .int x2), (3, .int x3), (4, .int x4), (5, .int x5), (6, .long x6), (8, .long x8), (10, .int x10)] → W p l e rmX6_chance s m ([.ref h_t, .int z1, .int z2, .int z3, .int z4, .int z5] : List Value).toArray below meth c H locs 0 0 Q (F0 m 68 ls [])), ∀ (x1 : Int32) (x2 : Int32) (x3 : Int32) (x4 : Int32) (x5 : Int32) (x6 : Int64) (x8 : Int64) (x10 : Int32) (H : Heap) (locs : List Loc) (ls : Array Slot), FX6_chance_68 n z1 z2 z3 z4 z5 k68 x1 x2 x3 x4 x5 x6 x8 x10 = O → va_P D classes [(h_t, .inr (6, [.ref h_told, .ref h_reader, .int v_faultNumber, .int v_faultPlace, .ref h_chosen, .ref h_tried, .ref h_byHand, .ref h_coming, .ref h_ends, .ref h_heaps, .ref h_yard, .int v_costOfKilogram]))] H → va_D A [(h_t, .inr (6, [.ref h_told, .ref h_reader, .int v_faultNumber, .int v_faultPlace, .ref h_chosen, .ref h_tried, .ref h_byHand, .ref h_coming, .ref h_ends, .ref h_heaps, .ref h_yard, .int v_costOfKilogram]))] → va_S A s.heap H locs → lv_has ls 12 [(1, .int x1), (2, .int x2), (3, .int x3), (4, .int x4), (5, .int x5), (6, .long x6), (8, .long x8), (10, .int x10)] → W p l e rmX6_chance s m ([.ref h_t, .int z1, .int z2, .int z3, .int z4, .int z5] : List Value).toArray below meth c H locs 0 0 Q (F0 m 68 ls []) := by
    intro k68 ih68 x1 x2 x3 x4 x5 x6 x8 x10 H locs ls hF hP hD hS hl
    unfold FX6_chance_68 at hF
    refine lv_iload hx hb dX6_chance_68 (lv_at hl 7 rfl) ?_
    refine lv_iload hx hb dX6_chance_70 (lv_at hl 3 rfl) ?_
    refine lv_icmp_gt (tgt := 103) hx hb dX6_chance_72 (by decide) (fun c_13 => ?_) (fun c_13 => ?_)
    · replace hF := ifT c_13 hF
      refine lv_lload hx hb dX6_chance_103 (lv_at hl 6 rfl) ?_
      refine lv_lload hx hb dX6_chance_105 (lv_at hl 5 rfl) ?_
      have hn_14 := bdN hN hF
      refine callSJ (As := [.long x8, .long x6]) (rest := []) (wr := [(h_t, .inr (6, [.ref h_told, .ref h_reader, .int v_faultNumber, .int v_faultPlace, .ref h_chosen, .ref h_tried, .ref h_byHand, .ref h_coming, .ref h_ends, .ref h_heaps, .ref h_yard, .int v_costOfKilogram]))]) (W2 := fun u_15 => [(h_t, .inr (6, [.ref h_told, .ref h_reader, .int v_faultNumber, .int v_faultPlace, .ref h_chosen, .ref h_tried, .ref h_byHand, .ref h_coming, .ref h_ends, .ref h_heaps, .ref h_yard, .int v_costOfKilogram]))]) X hE hP hD hS hA (kX6_greatestDivisor l D cB cI cJ cZ rz n H.size x8 x6 hn_14) w_3_87 w_3_88 w_1_1 w_3_89 cb_X6_greatestDivisor rfl rfl ⟨Nat.le_of_ble_eq_true rfl, Nat.le_of_ble_eq_true rfl⟩ rfl hl.1 rfl (Nat.le_of_ble_eq_true rfl) dX6_chance_107 ⟨Nat.le_of_ble_eq_true rfl, Nat.le_of_ble_eq_true rfl⟩ (c2 := 0) (s2 := 0) rfl rfl [] [0] [0] rfl rfl (by decide) (by decide) (by decide) (by decide) (fun _ => rfl) (fun u_15 H locs hG hP hD hS => ?_)
      replace hF := bdQ hG hF
      refine lv_lstore (lv' := [(10, .long u_15.1), (1, .int x1), (2, .int x2), (3, .int x3), (4, .int x4), (5, .int x5), (6, .long x6), (8, .long x8)]) hx hb dX6_chance_110 hl (by decide) rfl (fun ls hl => ?_)
      refine lv_lload hx hb dX6_chance_112 (lv_at hl 0 rfl) ?_
      refine lv_lconst (v := 1) hx hb dX6_chance_114 (by decide) ?_
      refine W.lcmp hx hb dX6_chance_115 ?_
      refine lv_if_ge (tgt := 121) hx hb dX6_chance_116 (by decide) (fun c_16 => ?_) (fun c_16 => ?_)
      · replace hF := ifT c_16 hF
        refine lv_iload hx hb dX6_chance_121 (lv_at hl 5 rfl) ?_
        refine lv_if_ne (tgt := 131) hx hb dX6_chance_123 (by decide) (fun c_17 => ?_) (fun c_17 => ?_)
        · replace hF := ifF c_17 hF
          refine lv_lload hx hb dX6_chance_131 (lv_at hl 6 rfl) ?_
          refine lv_lload hx hb dX6_chance_133 (lv_at hl 0 rfl) ?_
          replace hF := ckP hN hF
          obtain ⟨c_18, hF⟩ := hF
          refine lv_ldiv hx hb dX6_chance_135 c_18 ?_
          refine lv_l2i hx hb dX6_chance_136 rfl ?_
          exact hret (((x6 / u_15.1)).toInt32, ()) H locs ls _ hF hP hD hS dX6_chance_137
        · replace hF := ifT c_17 hF
          refine lv_lload hx hb dX6_chance_126 (lv_at hl 7 rfl) ?_
          refine lv_goto (tgt := 133) hx hb dX6_chance_128 (by decide) ?_
          refine lv_lload hx hb dX6_chance_133 (lv_at hl 0 rfl) ?_
          replace hF := ckP hN hF
          obtain ⟨c_19, hF⟩ := hF
          refine lv_ldiv hx hb dX6_chance_135 c_19 ?_
          refine lv_l2i hx hb dX6_chance_136 rfl ?_
          exact hret (((x8 / u_15.1)).toInt32, ()) H locs ls _ hF hP hD hS dX6_chance_137
      · replace hF := ifF c_16 hF
        refine lv_iconst (v := -1) hx hb dX6_chance_119 (by decide) ?_
        exact hret ((-1 : Int32), ()) H locs ls _ hF hP hD hS dX6_chance_120
    · replace hF := ifF c_13 hF
      refine lv_lload hx hb dX6_chance_75 (lv_at hl 6 rfl) ?_
      refine lv_iload_n hx hb dX6_chance_77 rfl (lv_at hl 1 rfl) ?_
      refine lv_iload hx hb dX6_chance_78 (lv_at hl 7 rfl) ?_
      have hn_20 := bdN hN hF
      refine callSJ (As := [.int x2, .int x10]) (rest := [.long x8]) (wr := [(h_t, .inr (6, [.ref h_told, .ref h_reader, .int v_faultNumber, .int v_faultPlace, .ref h_chosen, .ref h_tried, .ref h_byHand, .ref h_coming, .ref h_ends, .ref h_heaps, .ref h_yard, .int v_costOfKilogram]))]) (W2 := fun u_21 => [(h_t, .inr (6, [.ref h_told, .ref h_reader, .int v_faultNumber, .int v_faultPlace, .ref h_chosen, .ref h_tried, .ref h_byHand, .ref h_coming, .ref h_ends, .ref h_heaps, .ref h_yard, .int v_costOfKilogram]))]) X hE hP hD hS hA (kX6_waysToDraw l D cB cI cJ cZ rz n H.size x2 x10 hn_20) w_3_84 w_3_85 w_1_1 w_3_86 cb_X6_waysToDraw rfl rfl ⟨Nat.le_of_ble_eq_true rfl, Nat.le_of_ble_eq_true rfl⟩ rfl hl.1 rfl (Nat.le_of_ble_eq_true rfl) dX6_chance_80 ⟨Nat.le_of_ble_eq_true rfl, Nat.le_of_ble_eq_true rfl⟩ (c2 := 0) (s2 := 0) rfl rfl [] [0] [0] rfl rfl (by decide) (by decide) (by decide) (by decide) (fun _ => rfl) (fun u_21 H locs hG hP hD hS => ?_)
      replace hF := bdQ hG hF
      refine lv_iload_n hx hb dX6_chance_83 rfl (lv_at hl 0 rfl) ?_
      refine lv_iload_n hx hb dX6_chance_84 rfl (lv_at hl 1 rfl) ?_
      refine lv_isub hx hb dX6_chance_85 ?_
      refine lv_iload_n hx hb dX6_chance_86 rfl (lv_at hl 2 rfl) ?_
      refine lv_iload hx hb dX6_chance_87 (lv_at hl 7 rfl) ?_
      refine lv_isub hx hb dX6_chance_89 ?_
      have hn_22 := bdN hN hF
      refine callSJ (As := [.int (x1 - x2), .int (x3 - x10)]) (rest := [.long u_21.1, .long x8]) (wr := [(h_t, .inr (6, [.ref h_told, .ref h_reader, .int v_faultNumber, .int v_faultPlace, .ref h_chosen, .ref h_tried, .ref h_byHand, .ref h_coming, .ref h_ends, .ref h_heaps, .ref h_yard, .int v_costOfKilogram]))]) (W2 := fun u_23 => [(h_t, .inr (6, [.ref h_told, .ref h_reader, .int v_faultNumber, .int v_faultPlace, .ref h_chosen, .ref h_tried, .ref h_byHand, .ref h_coming, .ref h_ends, .ref h_heaps, .ref h_yard, .int v_costOfKilogram]))]) X hE hP hD hS hA (kX6_waysToDraw l D cB cI cJ cZ rz n H.size (x1 - x2) (x3 - x10) hn_22) w_3_84 w_3_85 w_1_1 w_3_86 cb_X6_waysToDraw rfl rfl ⟨Nat.le_of_ble_eq_true rfl, Nat.le_of_ble_eq_true rfl⟩ rfl hl.1 rfl (Nat.le_of_ble_eq_true rfl) dX6_chance_90 ⟨Nat.le_of_ble_eq_true rfl, Nat.le_of_ble_eq_true rfl⟩ (c2 := 0) (s2 := 0) rfl rfl [] [0] [0] rfl rfl (by decide) (by decide) (by decide) (by decide) (fun _ => rfl) (fun u_23 H locs hG hP hD hS => ?_)
      replace hF := bdQ hG hF
      refine lv_lmul hx hb dX6_chance_93 ?_
      refine lv_ladd hx hb dX6_chance_94 ?_
      refine lv_topl (fun x_24 ex_24 => ?_)
      replace hF := ltP ex_24 hF
      refine lv_lstore (lv' := [(8, .long x_24), (1, .int x1), (2, .int x2), (3, .int x3), (4, .int x4), (5, .int x5), (6, .long x6), (10, .int x10)]) hx hb dX6_chance_95 hl (by decide) rfl (fun ls hl => ?_)
      obtain ⟨x_25, ex_25⟩ : ∃ y : Int32, y = x10 + (1 : Int32) := ⟨_, rfl⟩
      replace hF := ltP ex_25 hF
      refine lv_iinc (v := x_25) (lv' := [(10, .int x_25), (8, .long x_24), (1, .int x1), (2, .int x2), (3, .int x3), (4, .int x4), (5, .int x5), (6, .long x6)]) hx hb dX6_chance_97 hl (k := 7) rfl (by rw [ex_25]; rfl) (by decide) rfl (fun ls hl => ?_)
      refine lv_goto (tgt := 68) hx hb dX6_chance_100 (by decide) ?_
      exact ih68 x1 x2 x3 x4 x5 x6 x_24 x_25 H locs ls hF hP hD hS (lv_sub hl [2, 3, 4, 5, 6, 7, 1, 0] rfl)
  have Lc68 : ∀ (j : Nat), ∀ (x1 : Int32) (x2 : Int32) (x3 : Int32) (x4 : Int32) (x5 : Int32) (x6 : Int64) (x8 : Int64) (x10 : Int32) (H : Heap) (locs : List Loc) (ls : Array Slot), FX6_chance_68L n z1 z2 z3 z4 z5 j x1 x2 x3 x4 x5 x6 x8 x10 = O → va_P D classes [(h_t, .inr (6, [.ref h_told, .ref h_reader, .int v_faultNumber, .int v_faultPlace, .ref h_chosen, .ref h_tried, .ref h_byHand, .ref h_coming, .ref h_ends, .ref h_heaps, .ref h_yard, .int v_costOfKilogram]))] H → va_D A [(h_t, .inr (6, [.ref h_told, .ref h_reader, .int v_faultNumber, .int v_faultPlace, .ref h_chosen, .ref h_tried, .ref h_byHand, .ref h_coming, .ref h_ends, .ref h_heaps, .ref h_yard, .int v_costOfKilogram]))] → va_S A s.heap H locs → lv_has ls 12 [(1, .int x1), (2, .int x2), (3, .int x3), (4, .int x4), (5, .int x5), (6, .long x6), (8, .long x8), (10, .int x10)] → W p l e rmX6_chance s m ([.ref h_t, .int z1, .int z2, .int z3, .int z4, .int z5] : List Value).toArray below meth c H locs 0 0 Q (F0 m 68 ls []) := by
    intro j
    induction j with
    | zero => intro _ _ _ _ _ _ _ _ H locs ls hF; exact absurd hF.symm hN
    | succ j ih => exact L68 (FX6_chance_68L n z1 z2 z3 z4 z5 j) ih
  have L55 : ∀ (x1 : Int32) (x2 : Int32) (x3 : Int32) (x4 : Int32) (x5 : Int32) (H : Heap) (locs : List Loc) (ls : Array Slot), FX6_chance_55 n z1 z2 z3 z4 z5 x1 x2 x3 x4 x5 = O → va_P D classes [(h_t, .inr (6, [.ref h_told, .ref h_reader, .int v_faultNumber, .int v_faultPlace, .ref h_chosen, .ref h_tried, .ref h_byHand, .ref h_coming, .ref h_ends, .ref h_heaps, .ref h_yard, .int v_costOfKilogram]))] H → va_D A [(h_t, .inr (6, [.ref h_told, .ref h_reader, .int v_faultNumber, .int v_faultPlace, .ref h_chosen, .ref h_tried, .ref h_byHand, .ref h_coming, .ref h_ends, .ref h_heaps, .ref h_yard, .int v_costOfKilogram]))] → va_S A s.heap H locs → lv_has ls 12 [(1, .int x1), (2, .int x2), (3, .int x3), (4, .int x4), (5, .int x5)] → W p l e rmX6_chance s m ([.ref h_t, .int z1, .int z2, .int z3, .int z4, .int z5] : List Value).toArray below meth c H locs 0 0 Q (F0 m 55 ls []) := by
    intro x1 x2 x3 x4 x5 H locs ls hF hP hD hS hl
    unfold FX6_chance_55 at hF
    refine lv_iload_n hx hb dX6_chance_55 rfl (lv_at hl 0 rfl) ?_
    refine lv_iload_n hx hb dX6_chance_56 rfl (lv_at hl 2 rfl) ?_
    have hn_11 := bdN hN hF
    refine callSJ (As := [.int x1, .int x3]) (rest := []) (wr := [(h_t, .inr (6, [.ref h_told, .ref h_reader, .int v_faultNumber, .int v_faultPlace, .ref h_chosen, .ref h_tried, .ref h_byHand, .ref h_coming, .ref h_ends, .ref h_heaps, .ref h_yard, .int v_costOfKilogram]))]) (W2 := fun u_12 => [(h_t, .inr (6, [.ref h_told, .ref h_reader, .int v_faultNumber, .int v_faultPlace, .ref h_chosen, .ref h_tried, .ref h_byHand, .ref h_coming, .ref h_ends, .ref h_heaps, .ref h_yard, .int v_costOfKilogram]))]) X hE hP hD hS hA (kX6_waysToDraw l D cB cI cJ cZ rz n H.size x1 x3 hn_11) w_3_84 w_3_85 w_1_1 w_3_86 cb_X6_waysToDraw rfl rfl ⟨Nat.le_of_ble_eq_true rfl, Nat.le_of_ble_eq_true rfl⟩ rfl hl.1 rfl (Nat.le_of_ble_eq_true rfl) dX6_chance_57 ⟨Nat.le_of_ble_eq_true rfl, Nat.le_of_ble_eq_true rfl⟩ (c2 := 0) (s2 := 0) rfl rfl [] [0] [0] rfl rfl (by decide) (by decide) (by decide) (by decide) (fun _ => rfl) (fun u_12 H locs hG hP hD hS => ?_)
    replace hF := bdQ hG hF
    refine lv_lstore (lv' := [(6, .long u_12.1), (1, .int x1), (2, .int x2), (3, .int x3), (4, .int x4), (5, .int x5)]) hx hb dX6_chance_60 hl (by decide) rfl (fun ls hl => ?_)
    refine lv_lconst (v := 0) hx hb dX6_chance_62 (by decide) ?_
    refine lv_lstore (lv' := [(8, .long (0 : Int64)), (6, .long u_12.1), (1, .int x1), (2, .int x2), (3, .int x3), (4, .int x4), (5, .int x5)]) hx hb dX6_chance_63 hl (by decide) rfl (fun ls hl => ?_)
    refine lv_iconst (v := 0) hx hb dX6_chance_65 (by decide) ?_
    refine lv_istore (lv' := [(10, .int (0 : Int32)), (8, .long (0 : Int64)), (6, .long u_12.1), (1, .int x1), (2, .int x2), (3, .int x3), (4, .int x4), (5, .int x5)]) hx hb dX6_chance_66 hl (by decide) rfl (fun ls hl => ?_)
    exact Lc68 n x1 x2 x3 x4 x5 u_12.1 (0 : Int64) (0 : Int32) H locs ls hF hP hD hS (lv_sub hl [3, 4, 5, 6, 7, 2, 1, 0] rfl)
  unfold FX6_chance at hF
  obtain ⟨H, hH⟩ : ∃ H, H = s.heap := ⟨_, rfl⟩
  obtain ⟨locs, hlo⟩ : ∃ locs : List Loc, locs = [] := ⟨_, rfl⟩
  have hS : va_S A s.heap H locs := by rw [hH, hlo]; exact hS
  rw [← hH] at hP
  have goal : W p l e rmX6_chance s m ([.ref h_t, .int z1, .int z2, .int z3, .int z4, .int z5] : List Value).toArray below meth c H locs 0 0 Q (F0 m 0 ls []) := by
    refine lv_iload_n hx hb dX6_chance_0 rfl (lv_at hl 1 rfl) ?_
    refine lv_iconst (v := 1) hx hb dX6_chance_1 (by decide) ?_
    refine lv_icmp_lt (tgt := 40) hx hb dX6_chance_2 (by decide) (fun c_1 => ?_) (fun c_1 => ?_)
    · replace hF := ifT c_1 hF
      refine lv_iconst (v := -1) hx hb dX6_chance_40 (by decide) ?_
      exact hret ((-1 : Int32), ()) H locs ls _ hF hP hD hS dX6_chance_41
    · replace hF := ifF c_1 hF
      refine lv_iload_n hx hb dX6_chance_5 rfl (lv_at hl 1 rfl) ?_
      refine lv_bipush (v := 30) hx hb dX6_chance_6 (by decide) ?_
      refine lv_icmp_gt (tgt := 40) hx hb dX6_chance_8 (by decide) (fun c_2 => ?_) (fun c_2 => ?_)
      · replace hF := ifT c_2 hF
        refine lv_iconst (v := -1) hx hb dX6_chance_40 (by decide) ?_
        exact hret ((-1 : Int32), ()) H locs ls _ hF hP hD hS dX6_chance_41
      · replace hF := ifF c_2 hF
        refine lv_iload_n hx hb dX6_chance_11 rfl (lv_at hl 2 rfl) ?_
        refine lv_if_lt (tgt := 40) hx hb dX6_chance_12 (by decide) (fun c_3 => ?_) (fun c_3 => ?_)
        · replace hF := ifT c_3 hF
          refine lv_iconst (v := -1) hx hb dX6_chance_40 (by decide) ?_
          exact hret ((-1 : Int32), ()) H locs ls _ hF hP hD hS dX6_chance_41
        · replace hF := ifF c_3 hF
          refine lv_iload_n hx hb dX6_chance_15 rfl (lv_at hl 2 rfl) ?_
          refine lv_iload_n hx hb dX6_chance_16 rfl (lv_at hl 1 rfl) ?_
          refine lv_icmp_gt (tgt := 40) hx hb dX6_chance_17 (by decide) (fun c_4 => ?_) (fun c_4 => ?_)
          · replace hF := ifT c_4 hF
            refine lv_iconst (v := -1) hx hb dX6_chance_40 (by decide) ?_
            exact hret ((-1 : Int32), ()) H locs ls _ hF hP hD hS dX6_chance_41
          · replace hF := ifF c_4 hF
            refine lv_iload_n hx hb dX6_chance_20 rfl (lv_at hl 3 rfl) ?_
            refine lv_if_lt (tgt := 40) hx hb dX6_chance_21 (by decide) (fun c_5 => ?_) (fun c_5 => ?_)
            · replace hF := ifT c_5 hF
              refine lv_iconst (v := -1) hx hb dX6_chance_40 (by decide) ?_
              exact hret ((-1 : Int32), ()) H locs ls _ hF hP hD hS dX6_chance_41
            · replace hF := ifF c_5 hF
              refine lv_iload_n hx hb dX6_chance_24 rfl (lv_at hl 3 rfl) ?_
              refine lv_iload_n hx hb dX6_chance_25 rfl (lv_at hl 1 rfl) ?_
              refine lv_icmp_gt (tgt := 40) hx hb dX6_chance_26 (by decide) (fun c_6 => ?_) (fun c_6 => ?_)
              · replace hF := ifT c_6 hF
                refine lv_iconst (v := -1) hx hb dX6_chance_40 (by decide) ?_
                exact hret ((-1 : Int32), ()) H locs ls _ hF hP hD hS dX6_chance_41
              · replace hF := ifF c_6 hF
                refine lv_iload hx hb dX6_chance_29 (lv_at hl 4 rfl) ?_
                refine lv_if_lt (tgt := 40) hx hb dX6_chance_31 (by decide) (fun c_7 => ?_) (fun c_7 => ?_)
                · replace hF := ifT c_7 hF
                  refine lv_iconst (v := -1) hx hb dX6_chance_40 (by decide) ?_
                  exact hret ((-1 : Int32), ()) H locs ls _ hF hP hD hS dX6_chance_41
                · replace hF := ifF c_7 hF
                  refine lv_iload hx hb dX6_chance_34 (lv_at hl 4 rfl) ?_
                  refine lv_iload_n hx hb dX6_chance_36 rfl (lv_at hl 3 rfl) ?_
                  refine lv_icmp_le (tgt := 42) hx hb dX6_chance_37 (by decide) (fun c_8 => ?_) (fun c_8 => ?_)
                  · replace hF := ifT c_8 hF
                    refine lv_iload hx hb dX6_chance_42 (lv_at hl 5 rfl) ?_
                    refine lv_if_eq (tgt := 55) hx hb dX6_chance_44 (by decide) (fun c_9 => ?_) (fun c_9 => ?_)
                    · replace hF := ifT c_9 hF
                      exact L55 z1 z2 z3 z4 z5 H locs ls hF hP hD hS (lv_sub hl [1, 2, 3, 4, 5] rfl)
                    · replace hF := ifF c_9 hF
                      refine lv_iload hx hb dX6_chance_47 (lv_at hl 5 rfl) ?_
                      refine lv_iconst (v := 1) hx hb dX6_chance_49 (by decide) ?_
                      refine lv_icmp_eq (tgt := 55) hx hb dX6_chance_50 (by decide) (fun c_10 => ?_) (fun c_10 => ?_)
                      · replace hF := ifT c_10 hF
                        exact L55 z1 z2 z3 z4 z5 H locs ls hF hP hD hS (lv_sub hl [1, 2, 3, 4, 5] rfl)
                      · replace hF := ifF c_10 hF
                        refine lv_iconst (v := -1) hx hb dX6_chance_53 (by decide) ?_
                        exact hret ((-1 : Int32), ()) H locs ls _ hF hP hD hS dX6_chance_54
                  · replace hF := ifF c_8 hF
                    refine lv_iconst (v := -1) hx hb dX6_chance_40 (by decide) ?_
                    exact hret ((-1 : Int32), ()) H locs ls _ hF hP hD hS dX6_chance_41
  rw [hH, hlo] at goal
  exact goal
theorem dX6_isTown_0 : decode cX6_isTown 0 = .ok (.iload_n 0, 1) := by decide +kernel
theorem dX6_isTown_1 : decode cX6_isTown 1 = .ok (.ifCond .lt 12, 3) := by decide +kernel
theorem dX6_isTown_4 : decode cX6_isTown 4 = .ok (.iload_n 0, 1) := by decide +kernel
theorem dX6_isTown_5 : decode cX6_isTown 5 = .ok (.iconst 5, 1) := by decide +kernel
theorem dX6_isTown_6 : decode cX6_isTown 6 = .ok (.if_icmp .ge 7, 3) := by decide +kernel
theorem dX6_isTown_9 : decode cX6_isTown 9 = .ok (.iconst 1, 1) := by decide +kernel
theorem dX6_isTown_10 : decode cX6_isTown 10 = .ok (.goto 4, 3) := by decide +kernel
theorem dX6_isTown_13 : decode cX6_isTown 13 = .ok (.iconst 0, 1) := by decide +kernel
theorem dX6_isTown_14 : decode cX6_isTown 14 = .ok (.ireturn, 1) := by decide +kernel
abbrev rmX6_isTown : Room := { frames := 0, cells := 0, slots := 0, locals := 0 }
theorem cb_X6_isTown : CBn yX6_isTown 1 := ⟨by decide +kernel, by decide +kernel, by decide +kernel⟩
def FX6_isTown (n : Nat) (z0 : Int32) : Option (Int32 × Unit) := if z0 < 0 then (some ((0 : Int32), ())) else (if (5 : Int32) ≤ z0 then (some ((0 : Int32), ())) else (some ((1 : Int32), ())))
set_option maxHeartbeats 4000000 in
set_option maxRecDepth 100000 in
theorem kX6_isTown (l : Launch) (D : va_G) (cB cI cJ cZ : ClassId) (rz n sz : Nat) (z0 : Int32) (hN : FX6_isTown n z0 ≠ none) : Met l yX6_isTown (Cond.code yX6_isTown cX6_isTown 1 (some .boolean) :: AL) rmX6_isTown (PW D cB cI cJ cZ rz [.int z0] [] sz) (QZ D (FX6_isTown n z0) (fun u => []) (va_A [] sz)) 0 0 (va_A [] sz) := by
  obtain ⟨O, hF⟩ : ∃ O, FX6_isTown n z0 = O := ⟨_, rfl⟩
  rw [hF] at hN ⊢
  refine enterZ (cc := cX6_isTown) (nL := 1) (by decide) (Nat.le_of_ble_eq_true rfl) ?_
  intro p e s m below meth c A Q X hA hE hnm hsz hP hD hS hret ls hl
  obtain ⟨hx, hb, hml, hown0, ha⟩ := id X
  have hown : s.vm.findClass RX6 = some m.cls := hown0
  have hK := hE.1
  have hl : lv_has ls 1 [(0, .int z0)] := hl
  have hX : CallFix p m c cX6_isTown 1 s ([.int z0] : List Value).toArray AL RX6 := X
  have X := hX
  unfold FX6_isTown at hF
  obtain ⟨H, hH⟩ : ∃ H, H = s.heap := ⟨_, rfl⟩
  obtain ⟨locs, hlo⟩ : ∃ locs : List Loc, locs = [] := ⟨_, rfl⟩
  have hS : va_S A s.heap H locs := by rw [hH, hlo]; exact hS
  rw [← hH] at hP
  have goal : W p l e rmX6_isTown s m ([.int z0] : List Value).toArray below meth c H locs 0 0 Q (F0 m 0 ls []) := by
    refine lv_iload_n hx hb dX6_isTown_0 rfl (lv_at hl 0 rfl) ?_
    refine lv_if_lt (tgt := 13) hx hb dX6_isTown_1 (by decide) (fun c_1 => ?_) (fun c_1 => ?_)
    · replace hF := ifT c_1 hF
      refine lv_iconst (v := 0) hx hb dX6_isTown_13 (by decide) ?_
      exact hret ((0 : Int32), ()) H locs ls _ hF nz0 hP hD hS dX6_isTown_14
    · replace hF := ifF c_1 hF
      refine lv_iload_n hx hb dX6_isTown_4 rfl (lv_at hl 0 rfl) ?_
      refine lv_iconst (v := 5) hx hb dX6_isTown_5 (by decide) ?_
      refine lv_icmp_ge (tgt := 13) hx hb dX6_isTown_6 (by decide) (fun c_2 => ?_) (fun c_2 => ?_)
      · replace hF := ifT c_2 hF
        refine lv_iconst (v := 0) hx hb dX6_isTown_13 (by decide) ?_
        exact hret ((0 : Int32), ()) H locs ls _ hF nz0 hP hD hS dX6_isTown_14
      · replace hF := ifF c_2 hF
        refine lv_iconst (v := 1) hx hb dX6_isTown_9 (by decide) ?_
        refine lv_goto (tgt := 14) hx hb dX6_isTown_10 (by decide) ?_
        exact hret ((1 : Int32), ()) H locs ls _ hF nz1 hP hD hS dX6_isTown_14
  rw [hH, hlo] at goal
  exact goal
theorem dX6_isSampled_0 : decode cX6_isSampled 0 = .ok (.iload_n 0, 1) := by decide +kernel
theorem dX6_isSampled_1 : decode cX6_isSampled 1 = .ok (.ifCond .lt 14, 3) := by decide +kernel
theorem dX6_isSampled_4 : decode cX6_isSampled 4 = .ok (.iload_n 0, 1) := by decide +kernel
theorem dX6_isSampled_5 : decode cX6_isSampled 5 = .ok (.sipush 1000, 3) := by decide +kernel
theorem dX6_isSampled_8 : decode cX6_isSampled 8 = .ok (.if_icmp .gt 7, 3) := by decide +kernel
theorem dX6_isSampled_11 : decode cX6_isSampled 11 = .ok (.iconst 1, 1) := by decide +kernel
theorem dX6_isSampled_12 : decode cX6_isSampled 12 = .ok (.goto 4, 3) := by decide +kernel
theorem dX6_isSampled_15 : decode cX6_isSampled 15 = .ok (.iconst 0, 1) := by decide +kernel
theorem dX6_isSampled_16 : decode cX6_isSampled 16 = .ok (.ireturn, 1) := by decide +kernel
abbrev rmX6_isSampled : Room := { frames := 0, cells := 0, slots := 0, locals := 0 }
theorem cb_X6_isSampled : CBn yX6_isSampled 1 := ⟨by decide +kernel, by decide +kernel, by decide +kernel⟩
def FX6_isSampled (n : Nat) (z0 : Int32) : Option (Int32 × Unit) := if z0 < 0 then (some ((0 : Int32), ())) else (if (1000 : Int32) < z0 then (some ((0 : Int32), ())) else (some ((1 : Int32), ())))
set_option maxHeartbeats 4000000 in
set_option maxRecDepth 100000 in
theorem kX6_isSampled (l : Launch) (D : va_G) (cB cI cJ cZ : ClassId) (rz n sz : Nat) (z0 : Int32) (hN : FX6_isSampled n z0 ≠ none) : Met l yX6_isSampled (Cond.code yX6_isSampled cX6_isSampled 1 (some .boolean) :: AL) rmX6_isSampled (PW D cB cI cJ cZ rz [.int z0] [] sz) (QZ D (FX6_isSampled n z0) (fun u => []) (va_A [] sz)) 0 0 (va_A [] sz) := by
  obtain ⟨O, hF⟩ : ∃ O, FX6_isSampled n z0 = O := ⟨_, rfl⟩
  rw [hF] at hN ⊢
  refine enterZ (cc := cX6_isSampled) (nL := 1) (by decide) (Nat.le_of_ble_eq_true rfl) ?_
  intro p e s m below meth c A Q X hA hE hnm hsz hP hD hS hret ls hl
  obtain ⟨hx, hb, hml, hown0, ha⟩ := id X
  have hown : s.vm.findClass RX6 = some m.cls := hown0
  have hK := hE.1
  have hl : lv_has ls 1 [(0, .int z0)] := hl
  have hX : CallFix p m c cX6_isSampled 1 s ([.int z0] : List Value).toArray AL RX6 := X
  have X := hX
  unfold FX6_isSampled at hF
  obtain ⟨H, hH⟩ : ∃ H, H = s.heap := ⟨_, rfl⟩
  obtain ⟨locs, hlo⟩ : ∃ locs : List Loc, locs = [] := ⟨_, rfl⟩
  have hS : va_S A s.heap H locs := by rw [hH, hlo]; exact hS
  rw [← hH] at hP
  have goal : W p l e rmX6_isSampled s m ([.int z0] : List Value).toArray below meth c H locs 0 0 Q (F0 m 0 ls []) := by
    refine lv_iload_n hx hb dX6_isSampled_0 rfl (lv_at hl 0 rfl) ?_
    refine lv_if_lt (tgt := 15) hx hb dX6_isSampled_1 (by decide) (fun c_1 => ?_) (fun c_1 => ?_)
    · replace hF := ifT c_1 hF
      refine lv_iconst (v := 0) hx hb dX6_isSampled_15 (by decide) ?_
      exact hret ((0 : Int32), ()) H locs ls _ hF nz0 hP hD hS dX6_isSampled_16
    · replace hF := ifF c_1 hF
      refine lv_iload_n hx hb dX6_isSampled_4 rfl (lv_at hl 0 rfl) ?_
      refine lv_sipush (v := 1000) hx hb dX6_isSampled_5 (by decide) ?_
      refine lv_icmp_gt (tgt := 15) hx hb dX6_isSampled_8 (by decide) (fun c_2 => ?_) (fun c_2 => ?_)
      · replace hF := ifT c_2 hF
        refine lv_iconst (v := 0) hx hb dX6_isSampled_15 (by decide) ?_
        exact hret ((0 : Int32), ()) H locs ls _ hF nz0 hP hD hS dX6_isSampled_16
      · replace hF := ifF c_2 hF
        refine lv_iconst (v := 1) hx hb dX6_isSampled_11 (by decide) ?_
        refine lv_goto (tgt := 16) hx hb dX6_isSampled_12 (by decide) ?_
        exact hret ((1 : Int32), ()) H locs ls _ hF nz1 hP hD hS dX6_isSampled_16
  rw [hH, hlo] at goal
  exact goal
theorem dX6_lorry_0 : decode cX6_lorry 0 = .ok (.iload_n 1, 1) := by decide +kernel
theorem dX6_lorry_1 : decode cX6_lorry 1 = .ok (.invokestatic 189, 3) := by decide +kernel
theorem dX6_lorry_4 : decode cX6_lorry 4 = .ok (.ifCond .eq 15, 3) := by decide +kernel
theorem dX6_lorry_7 : decode cX6_lorry 7 = .ok (.iload_n 2, 1) := by decide +kernel
theorem dX6_lorry_8 : decode cX6_lorry 8 = .ok (.iconst 1, 1) := by decide +kernel
theorem dX6_lorry_9 : decode cX6_lorry 9 = .ok (.if_icmp .lt 10, 3) := by decide +kernel
theorem dX6_lorry_12 : decode cX6_lorry 12 = .ok (.iload_n 2, 1) := by decide +kernel
theorem dX6_lorry_13 : decode cX6_lorry 13 = .ok (.sipush 20000, 3) := by decide +kernel
theorem dX6_lorry_16 : decode cX6_lorry 16 = .ok (.if_icmp .le 5, 3) := by decide +kernel
theorem dX6_lorry_19 : decode cX6_lorry 19 = .ok (.iconst (-1), 1) := by decide +kernel
theorem dX6_lorry_20 : decode cX6_lorry 20 = .ok (.ireturn, 1) := by decide +kernel
theorem dX6_lorry_21 : decode cX6_lorry 21 = .ok (.iload_n 3, 1) := by decide +kernel
theorem dX6_lorry_22 : decode cX6_lorry 22 = .ok (.invokestatic 192, 3) := by decide +kernel
theorem dX6_lorry_25 : decode cX6_lorry 25 = .ok (.ifCond .eq 35, 3) := by decide +kernel
theorem dX6_lorry_28 : decode cX6_lorry 28 = .ok (.iload 4, 2) := by decide +kernel
theorem dX6_lorry_30 : decode cX6_lorry 30 = .ok (.invokestatic 192, 3) := by decide +kernel
theorem dX6_lorry_33 : decode cX6_lorry 33 = .ok (.ifCond .eq 27, 3) := by decide +kernel
theorem dX6_lorry_36 : decode cX6_lorry 36 = .ok (.iload 5, 2) := by decide +kernel
theorem dX6_lorry_38 : decode cX6_lorry 38 = .ok (.invokestatic 192, 3) := by decide +kernel
theorem dX6_lorry_41 : decode cX6_lorry 41 = .ok (.ifCond .eq 19, 3) := by decide +kernel
theorem dX6_lorry_44 : decode cX6_lorry 44 = .ok (.iload 6, 2) := by decide +kernel
theorem dX6_lorry_46 : decode cX6_lorry 46 = .ok (.invokestatic 192, 3) := by decide +kernel
theorem dX6_lorry_49 : decode cX6_lorry 49 = .ok (.ifCond .eq 11, 3) := by decide +kernel
theorem dX6_lorry_52 : decode cX6_lorry 52 = .ok (.iload 7, 2) := by decide +kernel
theorem dX6_lorry_54 : decode cX6_lorry 54 = .ok (.invokestatic 192, 3) := by decide +kernel
theorem dX6_lorry_57 : decode cX6_lorry 57 = .ok (.ifCond .ne 5, 3) := by decide +kernel
theorem dX6_lorry_60 : decode cX6_lorry 60 = .ok (.iconst (-1), 1) := by decide +kernel
theorem dX6_lorry_61 : decode cX6_lorry 61 = .ok (.ireturn, 1) := by decide +kernel
theorem dX6_lorry_62 : decode cX6_lorry 62 = .ok (.aload_n 0, 1) := by decide +kernel
theorem dX6_lorry_63 : decode cX6_lorry 63 = .ok (.getfield 57, 3) := by decide +kernel
theorem dX6_lorry_66 : decode cX6_lorry 66 = .ok (.getfield 195, 3) := by decide +kernel
theorem dX6_lorry_69 : decode cX6_lorry 69 = .ok (.astore 8, 2) := by decide +kernel
theorem dX6_lorry_71 : decode cX6_lorry 71 = .ok (.aload 8, 2) := by decide +kernel
theorem dX6_lorry_73 : decode cX6_lorry 73 = .ok (.iconst 0, 1) := by decide +kernel
theorem dX6_lorry_74 : decode cX6_lorry 74 = .ok (.iload_n 3, 1) := by decide +kernel
theorem dX6_lorry_75 : decode cX6_lorry 75 = .ok (.iastore, 1) := by decide +kernel
theorem dX6_lorry_76 : decode cX6_lorry 76 = .ok (.aload 8, 2) := by decide +kernel
theorem dX6_lorry_78 : decode cX6_lorry 78 = .ok (.iconst 1, 1) := by decide +kernel
theorem dX6_lorry_79 : decode cX6_lorry 79 = .ok (.iload 4, 2) := by decide +kernel
theorem dX6_lorry_81 : decode cX6_lorry 81 = .ok (.iastore, 1) := by decide +kernel
theorem dX6_lorry_82 : decode cX6_lorry 82 = .ok (.aload 8, 2) := by decide +kernel
theorem dX6_lorry_84 : decode cX6_lorry 84 = .ok (.iconst 2, 1) := by decide +kernel
theorem dX6_lorry_85 : decode cX6_lorry 85 = .ok (.iload 5, 2) := by decide +kernel
theorem dX6_lorry_87 : decode cX6_lorry 87 = .ok (.iastore, 1) := by decide +kernel
theorem dX6_lorry_88 : decode cX6_lorry 88 = .ok (.aload 8, 2) := by decide +kernel
theorem dX6_lorry_90 : decode cX6_lorry 90 = .ok (.iconst 3, 1) := by decide +kernel
theorem dX6_lorry_91 : decode cX6_lorry 91 = .ok (.iload 6, 2) := by decide +kernel
theorem dX6_lorry_93 : decode cX6_lorry 93 = .ok (.iastore, 1) := by decide +kernel
theorem dX6_lorry_94 : decode cX6_lorry 94 = .ok (.aload 8, 2) := by decide +kernel
theorem dX6_lorry_96 : decode cX6_lorry 96 = .ok (.iconst 4, 1) := by decide +kernel
theorem dX6_lorry_97 : decode cX6_lorry 97 = .ok (.iload 7, 2) := by decide +kernel
theorem dX6_lorry_99 : decode cX6_lorry 99 = .ok (.iastore, 1) := by decide +kernel
theorem dX6_lorry_100 : decode cX6_lorry 100 = .ok (.aload_n 0, 1) := by decide +kernel
theorem dX6_lorry_101 : decode cX6_lorry 101 = .ok (.getfield 57, 3) := by decide +kernel
theorem dX6_lorry_104 : decode cX6_lorry 104 = .ok (.iload_n 1, 1) := by decide +kernel
theorem dX6_lorry_105 : decode cX6_lorry 105 = .ok (.iload_n 2, 1) := by decide +kernel
theorem dX6_lorry_106 : decode cX6_lorry 106 = .ok (.invokevirtual 198, 3) := by decide +kernel
theorem dX6_lorry_109 : decode cX6_lorry 109 = .ok (.ireturn, 1) := by decide +kernel
abbrev rmX6_lorry : Room := { frames := 1, cells := 0, slots := 0, locals := 27 }
theorem cb_X6_lorry : CBn yX6_lorry 7 := ⟨by decide +kernel, by decide +kernel, by decide +kernel⟩
def FX6_lorry (n : Nat) (v_yard_count : Int32) (a_yard_sampled : Nat → Int32) (a_yard_loads : Nat → Int32) (a_yard_ofTowns : Nat → Int32) (a_yard_towns : Nat → Int32) (z1 : Int32) (z2 : Int32) (z3 : Int32) (z4 : Int32) (z5 : Int32) (z6 : Int32) (z7 : Int32) : Option (Int32 × Int32 × (Nat → Int32) × (Nat → Int32) × (Nat → Int32) × (Nat → Int32)) := bd (FX6_isTown n z1) (fun u_2 => if u_2.1 = 0 then (some ((-1 : Int32), v_yard_count, a_yard_sampled, a_yard_loads, a_yard_ofTowns, a_yard_towns)) else (if z2 < (1 : Int32) then (some ((-1 : Int32), v_yard_count, a_yard_sampled, a_yard_loads, a_yard_ofTowns, a_yard_towns)) else (if z2 ≤ (20000 : Int32) then (bd (FX6_isSampled n z3) (fun u_7 => if u_7.1 = 0 then (some ((-1 : Int32), v_yard_count, a_yard_sampled, a_yard_loads, a_yard_ofTowns, a_yard_towns)) else (bd (FX6_isSampled n z4) (fun u_10 => if u_10.1 = 0 then (some ((-1 : Int32), v_yard_count, a_yard_sampled, a_yard_loads, a_yard_ofTowns, a_yard_towns)) else (bd (FX6_isSampled n z5) (fun u_13 => if u_13.1 = 0 then (some ((-1 : Int32), v_yard_count, a_yard_sampled, a_yard_loads, a_yard_ofTowns, a_yard_towns)) else (bd (FX6_isSampled n z6) (fun u_16 => if u_16.1 = 0 then (some ((-1 : Int32), v_yard_count, a_yard_sampled, a_yard_loads, a_yard_ofTowns, a_yard_towns)) else (bd (FX6_isSampled n z7) (fun u_19 => if u_19.1 = 0 then (some ((-1 : Int32), v_yard_count, a_yard_sampled, a_yard_loads, a_yard_ofTowns, a_yard_towns)) else (if ¬ ((0 : Int32) < 0 ∨ 5 ≤ ((0 : Int32)).toNatClampNeg) then (lt1 (upd a_yard_sampled ((0 : Int32)).toNatClampNeg z3) (fun f_22 => if ¬ ((1 : Int32) < 0 ∨ 5 ≤ ((1 : Int32)).toNatClampNeg) then (lt1 (upd f_22 ((1 : Int32)).toNatClampNeg z4) (fun f_24 => if ¬ ((2 : Int32) < 0 ∨ 5 ≤ ((2 : Int32)).toNatClampNeg) then (lt1 (upd f_24 ((2 : Int32)).toNatClampNeg z5) (fun f_26 => if ¬ ((3 : Int32) < 0 ∨ 5 ≤ ((3 : Int32)).toNatClampNeg) then (lt1 (upd f_26 ((3 : Int32)).toNatClampNeg z6) (fun f_28 => if ¬ ((4 : Int32) < 0 ∨ 5 ≤ ((4 : Int32)).toNatClampNeg) then (lt1 (upd f_28 ((4 : Int32)).toNatClampNeg z7) (fun f_30 => bd (FX5_bring n v_yard_count f_30 a_yard_loads a_yard_ofTowns a_yard_towns z1 z2) (fun u_32 => some (u_32.1, u_32.2.1, f_30, u_32.2.2.1, u_32.2.2.2.1, u_32.2.2.2.2)))) else none)) else none)) else none)) else none)) else none))))))))))) else (some ((-1 : Int32), v_yard_count, a_yard_sampled, a_yard_loads, a_yard_ofTowns, a_yard_towns)))))
set_option maxHeartbeats 4000000 in
set_option maxRecDepth 100000 in
theorem kX6_lorry (l : Launch) (D : va_G) (cB cI cJ cZ : ClassId) (rz n sz : Nat) (h_t : Nat) (h_yard : Nat) (h_yard_sampled : Nat) (h_yard_loads : Nat) (h_yard_ofTowns : Nat) (h_yard_towns : Nat) (h_told : Nat) (h_reader : Nat) (h_chosen : Nat) (h_tried : Nat) (h_byHand : Nat) (h_coming : Nat) (h_ends : Nat) (h_heaps : Nat) (h_yard_struck : Nat) (v_faultNumber : Int32) (v_faultPlace : Int32) (v_costOfKilogram : Int32) (v_yard_count : Int32) (a_yard_sampled : Nat → Int32) (a_yard_loads : Nat → Int32) (a_yard_ofTowns : Nat → Int32) (a_yard_towns : Nat → Int32) (z1 : Int32) (z2 : Int32) (z3 : Int32) (z4 : Int32) (z5 : Int32) (z6 : Int32) (z7 : Int32) (hN : FX6_lorry n v_yard_count a_yard_sampled a_yard_loads a_yard_ofTowns a_yard_towns z1 z2 z3 z4 z5 z6 z7 ≠ none) : Met l yX6_lorry (Cond.code yX6_lorry cX6_lorry 9 (some .int) :: AL) rmX6_lorry (PW D cB cI cJ cZ rz [.ref h_t, .int z1, .int z2, .int z3, .int z4, .int z5, .int z6, .int z7] [(h_t, .inr (6, [.ref h_told, .ref h_reader, .int v_faultNumber, .int v_faultPlace, .ref h_chosen, .ref h_tried, .ref h_byHand, .ref h_coming, .ref h_ends, .ref h_heaps, .ref h_yard, .int v_costOfKilogram])), (h_yard, .inr (5, [.int v_yard_count, .ref h_yard_sampled, .ref h_yard_towns, .ref h_yard_loads, .ref h_yard_struck, .ref h_yard_ofTowns])), (h_yard_sampled, .inl (cI, 5, .inl a_yard_sampled)), (h_yard_loads, .inl (cI, 300, .inl a_yard_loads)), (h_yard_ofTowns, .inl (cI, 25, .inl a_yard_ofTowns)), (h_yard_towns, .inl (cI, 60, .inl a_yard_towns))] sz) (QI D (FX6_lorry n v_yard_count a_yard_sampled a_yard_loads a_yard_ofTowns a_yard_towns z1 z2 z3 z4 z5 z6 z7) (fun u => [(h_t, .inr (6, [.ref h_told, .ref h_reader, .int v_faultNumber, .int v_faultPlace, .ref h_chosen, .ref h_tried, .ref h_byHand, .ref h_coming, .ref h_ends, .ref h_heaps, .ref h_yard, .int v_costOfKilogram])), (h_yard, .inr (5, [.int u.2.1, .ref h_yard_sampled, .ref h_yard_towns, .ref h_yard_loads, .ref h_yard_struck, .ref h_yard_ofTowns])), (h_yard_sampled, .inl (cI, 5, .inl u.2.2.1)), (h_yard_loads, .inl (cI, 300, .inl u.2.2.2.1)), (h_yard_ofTowns, .inl (cI, 25, .inl u.2.2.2.2.1)), (h_yard_towns, .inl (cI, 60, .inl u.2.2.2.2.2))]) (va_A [(h_t, .inr (6, [.ref h_told, .ref h_reader, .int v_faultNumber, .int v_faultPlace, .ref h_chosen, .ref h_tried, .ref h_byHand, .ref h_coming, .ref h_ends, .ref h_heaps, .ref h_yard, .int v_costOfKilogram])), (h_yard, .inr (5, [.int v_yard_count, .ref h_yard_sampled, .ref h_yard_towns, .ref h_yard_loads, .ref h_yard_struck, .ref h_yard_ofTowns])), (h_yard_sampled, .inl (cI, 5, .inl a_yard_sampled)), (h_yard_loads, .inl (cI, 300, .inl a_yard_loads)), (h_yard_ofTowns, .inl (cI, 25, .inl a_yard_ofTowns)), (h_yard_towns, .inl (cI, 60, .inl a_yard_towns))] sz)) 0 0 (va_A [(h_t, .inr (6, [.ref h_told, .ref h_reader, .int v_faultNumber, .int v_faultPlace, .ref h_chosen, .ref h_tried, .ref h_byHand, .ref h_coming, .ref h_ends, .ref h_heaps, .ref h_yard, .int v_costOfKilogram])), (h_yard, .inr (5, [.int v_yard_count, .ref h_yard_sampled, .ref h_yard_towns, .ref h_yard_loads, .ref h_yard_struck, .ref h_yard_ofTowns])), (h_yard_sampled, .inl (cI, 5, .inl a_yard_sampled)), (h_yard_loads, .inl (cI, 300, .inl a_yard_loads)), (h_yard_ofTowns, .inl (cI, 25, .inl a_yard_ofTowns)), (h_yard_towns, .inl (cI, 60, .inl a_yard_towns))] sz) := by
  obtain ⟨O, hF⟩ : ∃ O, FX6_lorry n v_yard_count a_yard_sampled a_yard_loads a_yard_ofTowns a_yard_towns z1 z2 z3 z4 z5 z6 z7 = O := ⟨_, rfl⟩
  rw [hF] at hN ⊢
  refine enterI (cc := cX6_lorry) (nL := 9) (by decide) (Nat.le_of_ble_eq_true rfl) ?_
  intro p e s m below meth c A Q X hA hE hnm hsz hP hD hS hret ls hl
  obtain ⟨hx, hb, hml, hown0, ha⟩ := id X
  have hown : s.vm.findClass RX6 = some m.cls := hown0
  have hK := hE.1
  have hl : lv_has ls 9 [(0, .ref h_t), (1, .int z1), (2, .int z2), (3, .int z3), (4, .int z4), (5, .int z5), (6, .int z6), (7, .int z7)] := hl
  have hX : CallFix p m c cX6_lorry 9 s ([.ref h_t, .int z1, .int z2, .int z3, .int z4, .int z5, .int z6, .int z7] : List Value).toArray AL RX6 := X
  have X := hX
  unfold FX6_lorry at hF
  obtain ⟨H, hH⟩ : ∃ H, H = s.heap := ⟨_, rfl⟩
  obtain ⟨locs, hlo⟩ : ∃ locs : List Loc, locs = [] := ⟨_, rfl⟩
  have hS : va_S A s.heap H locs := by rw [hH, hlo]; exact hS
  rw [← hH] at hP
  have goal : W p l e rmX6_lorry s m ([.ref h_t, .int z1, .int z2, .int z3, .int z4, .int z5, .int z6, .int z7] : List Value).toArray below meth c H locs 0 0 Q (F0 m 0 ls []) := by
    refine lv_iload_n hx hb dX6_lorry_0 rfl (lv_at hl 1 rfl) ?_
    have hn_1 := bdN hN hF
    refine callSZ (As := [.int z1]) (rest := []) (wr := [(h_t, .inr (6, [.ref h_told, .ref h_reader, .int v_faultNumber, .int v_faultPlace, .ref h_chosen, .ref h_tried, .ref h_byHand, .ref h_coming, .ref h_ends, .ref h_heaps, .ref h_yard, .int v_costOfKilogram])), (h_yard, .inr (5, [.int v_yard_count, .ref h_yard_sampled, .ref h_yard_towns, .ref h_yard_loads, .ref h_yard_struck, .ref h_yard_ofTowns])), (h_yard_sampled, .inl (cI, 5, .inl a_yard_sampled)), (h_yard_loads, .inl (cI, 300, .inl a_yard_loads)), (h_yard_ofTowns, .inl (cI, 25, .inl a_yard_ofTowns)), (h_yard_towns, .inl (cI, 60, .inl a_yard_towns))]) (W2 := fun u_2 => [(h_t, .inr (6, [.ref h_told, .ref h_reader, .int v_faultNumber, .int v_faultPlace, .ref h_chosen, .ref h_tried, .ref h_byHand, .ref h_coming, .ref h_ends, .ref h_heaps, .ref h_yard, .int v_costOfKilogram])), (h_yard, .inr (5, [.int v_yard_count, .ref h_yard_sampled, .ref h_yard_towns, .ref h_yard_loads, .ref h_yard_struck, .ref h_yard_ofTowns])), (h_yard_sampled, .inl (cI, 5, .inl a_yard_sampled)), (h_yard_loads, .inl (cI, 300, .inl a_yard_loads)), (h_yard_ofTowns, .inl (cI, 25, .inl a_yard_ofTowns)), (h_yard_towns, .inl (cI, 60, .inl a_yard_towns))]) X hE hP hD hS hA (kX6_isTown l D cB cI cJ cZ rz n H.size z1 hn_1) w_3_94 w_3_95 w_1_1 w_3_96 cb_X6_isTown rfl rfl ⟨Nat.le_of_ble_eq_true rfl, Nat.le_of_ble_eq_true rfl⟩ rfl hl.1 rfl (Nat.le_of_ble_eq_true rfl) dX6_lorry_1 ⟨Nat.le_of_ble_eq_true rfl, Nat.le_of_ble_eq_true rfl⟩ (c2 := 0) (s2 := 0) rfl rfl [] [0, 1, 2, 3, 4, 5] [0, 1, 2, 3, 4, 5] rfl rfl (by decide) (by decide) (by decide) (by decide) (fun _ => rfl) (fun u_2 H locs hG hzu_2 hP hD hS => ?_)
    replace hF := bdQ hG hF
    refine lv_if_eq (tgt := 19) hx hb dX6_lorry_4 (by decide) (fun c_3 => ?_) (fun c_3 => ?_)
    · replace hF := ifT c_3 hF
      refine lv_iconst (v := -1) hx hb dX6_lorry_19 (by decide) ?_
      exact hret ((-1 : Int32), v_yard_count, a_yard_sampled, a_yard_loads, a_yard_ofTowns, a_yard_towns) H locs ls _ hF hP hD hS dX6_lorry_20
    · replace hF := ifF c_3 hF
      refine lv_iload_n hx hb dX6_lorry_7 rfl (lv_at hl 2 rfl) ?_
      refine lv_iconst (v := 1) hx hb dX6_lorry_8 (by decide) ?_
      refine lv_icmp_lt (tgt := 19) hx hb dX6_lorry_9 (by decide) (fun c_4 => ?_) (fun c_4 => ?_)
      · replace hF := ifT c_4 hF
        refine lv_iconst (v := -1) hx hb dX6_lorry_19 (by decide) ?_
        exact hret ((-1 : Int32), v_yard_count, a_yard_sampled, a_yard_loads, a_yard_ofTowns, a_yard_towns) H locs ls _ hF hP hD hS dX6_lorry_20
      · replace hF := ifF c_4 hF
        refine lv_iload_n hx hb dX6_lorry_12 rfl (lv_at hl 2 rfl) ?_
        refine lv_sipush (v := 20000) hx hb dX6_lorry_13 (by decide) ?_
        refine lv_icmp_le (tgt := 21) hx hb dX6_lorry_16 (by decide) (fun c_5 => ?_) (fun c_5 => ?_)
        · replace hF := ifT c_5 hF
          refine lv_iload_n hx hb dX6_lorry_21 rfl (lv_at hl 3 rfl) ?_
          have hn_6 := bdN hN hF
          refine callSZ (As := [.int z3]) (rest := []) (wr := [(h_t, .inr (6, [.ref h_told, .ref h_reader, .int v_faultNumber, .int v_faultPlace, .ref h_chosen, .ref h_tried, .ref h_byHand, .ref h_coming, .ref h_ends, .ref h_heaps, .ref h_yard, .int v_costOfKilogram])), (h_yard, .inr (5, [.int v_yard_count, .ref h_yard_sampled, .ref h_yard_towns, .ref h_yard_loads, .ref h_yard_struck, .ref h_yard_ofTowns])), (h_yard_sampled, .inl (cI, 5, .inl a_yard_sampled)), (h_yard_loads, .inl (cI, 300, .inl a_yard_loads)), (h_yard_ofTowns, .inl (cI, 25, .inl a_yard_ofTowns)), (h_yard_towns, .inl (cI, 60, .inl a_yard_towns))]) (W2 := fun u_7 => [(h_t, .inr (6, [.ref h_told, .ref h_reader, .int v_faultNumber, .int v_faultPlace, .ref h_chosen, .ref h_tried, .ref h_byHand, .ref h_coming, .ref h_ends, .ref h_heaps, .ref h_yard, .int v_costOfKilogram])), (h_yard, .inr (5, [.int v_yard_count, .ref h_yard_sampled, .ref h_yard_towns, .ref h_yard_loads, .ref h_yard_struck, .ref h_yard_ofTowns])), (h_yard_sampled, .inl (cI, 5, .inl a_yard_sampled)), (h_yard_loads, .inl (cI, 300, .inl a_yard_loads)), (h_yard_ofTowns, .inl (cI, 25, .inl a_yard_ofTowns)), (h_yard_towns, .inl (cI, 60, .inl a_yard_towns))]) X hE hP hD hS hA (kX6_isSampled l D cB cI cJ cZ rz n H.size z3 hn_6) w_3_97 w_3_98 w_1_1 w_3_99 cb_X6_isSampled rfl rfl ⟨Nat.le_of_ble_eq_true rfl, Nat.le_of_ble_eq_true rfl⟩ rfl hl.1 rfl (Nat.le_of_ble_eq_true rfl) dX6_lorry_22 ⟨Nat.le_of_ble_eq_true rfl, Nat.le_of_ble_eq_true rfl⟩ (c2 := 0) (s2 := 0) rfl rfl [] [0, 1, 2, 3, 4, 5] [0, 1, 2, 3, 4, 5] rfl rfl (by decide) (by decide) (by decide) (by decide) (fun _ => rfl) (fun u_7 H locs hG hzu_7 hP hD hS => ?_)
          replace hF := bdQ hG hF
          refine lv_if_eq (tgt := 60) hx hb dX6_lorry_25 (by decide) (fun c_8 => ?_) (fun c_8 => ?_)
          · replace hF := ifT c_8 hF
            refine lv_iconst (v := -1) hx hb dX6_lorry_60 (by decide) ?_
            exact hret ((-1 : Int32), v_yard_count, a_yard_sampled, a_yard_loads, a_yard_ofTowns, a_yard_towns) H locs ls _ hF hP hD hS dX6_lorry_61
          · replace hF := ifF c_8 hF
            refine lv_iload hx hb dX6_lorry_28 (lv_at hl 4 rfl) ?_
            have hn_9 := bdN hN hF
            refine callSZ (As := [.int z4]) (rest := []) (wr := [(h_t, .inr (6, [.ref h_told, .ref h_reader, .int v_faultNumber, .int v_faultPlace, .ref h_chosen, .ref h_tried, .ref h_byHand, .ref h_coming, .ref h_ends, .ref h_heaps, .ref h_yard, .int v_costOfKilogram])), (h_yard, .inr (5, [.int v_yard_count, .ref h_yard_sampled, .ref h_yard_towns, .ref h_yard_loads, .ref h_yard_struck, .ref h_yard_ofTowns])), (h_yard_sampled, .inl (cI, 5, .inl a_yard_sampled)), (h_yard_loads, .inl (cI, 300, .inl a_yard_loads)), (h_yard_ofTowns, .inl (cI, 25, .inl a_yard_ofTowns)), (h_yard_towns, .inl (cI, 60, .inl a_yard_towns))]) (W2 := fun u_10 => [(h_t, .inr (6, [.ref h_told, .ref h_reader, .int v_faultNumber, .int v_faultPlace, .ref h_chosen, .ref h_tried, .ref h_byHand, .ref h_coming, .ref h_ends, .ref h_heaps, .ref h_yard, .int v_costOfKilogram])), (h_yard, .inr (5, [.int v_yard_count, .ref h_yard_sampled, .ref h_yard_towns, .ref h_yard_loads, .ref h_yard_struck, .ref h_yard_ofTowns])), (h_yard_sampled, .inl (cI, 5, .inl a_yard_sampled)), (h_yard_loads, .inl (cI, 300, .inl a_yard_loads)), (h_yard_ofTowns, .inl (cI, 25, .inl a_yard_ofTowns)), (h_yard_towns, .inl (cI, 60, .inl a_yard_towns))]) X hE hP hD hS hA (kX6_isSampled l D cB cI cJ cZ rz n H.size z4 hn_9) w_3_97 w_3_98 w_1_1 w_3_99 cb_X6_isSampled rfl rfl ⟨Nat.le_of_ble_eq_true rfl, Nat.le_of_ble_eq_true rfl⟩ rfl hl.1 rfl (Nat.le_of_ble_eq_true rfl) dX6_lorry_30 ⟨Nat.le_of_ble_eq_true rfl, Nat.le_of_ble_eq_true rfl⟩ (c2 := 0) (s2 := 0) rfl rfl [] [0, 1, 2, 3, 4, 5] [0, 1, 2, 3, 4, 5] rfl rfl (by decide) (by decide) (by decide) (by decide) (fun _ => rfl) (fun u_10 H locs hG hzu_10 hP hD hS => ?_)
            replace hF := bdQ hG hF
            refine lv_if_eq (tgt := 60) hx hb dX6_lorry_33 (by decide) (fun c_11 => ?_) (fun c_11 => ?_)
            · replace hF := ifT c_11 hF
              refine lv_iconst (v := -1) hx hb dX6_lorry_60 (by decide) ?_
              exact hret ((-1 : Int32), v_yard_count, a_yard_sampled, a_yard_loads, a_yard_ofTowns, a_yard_towns) H locs ls _ hF hP hD hS dX6_lorry_61
            · replace hF := ifF c_11 hF
              refine lv_iload hx hb dX6_lorry_36 (lv_at hl 5 rfl) ?_
              have hn_12 := bdN hN hF
              refine callSZ (As := [.int z5]) (rest := []) (wr := [(h_t, .inr (6, [.ref h_told, .ref h_reader, .int v_faultNumber, .int v_faultPlace, .ref h_chosen, .ref h_tried, .ref h_byHand, .ref h_coming, .ref h_ends, .ref h_heaps, .ref h_yard, .int v_costOfKilogram])), (h_yard, .inr (5, [.int v_yard_count, .ref h_yard_sampled, .ref h_yard_towns, .ref h_yard_loads, .ref h_yard_struck, .ref h_yard_ofTowns])), (h_yard_sampled, .inl (cI, 5, .inl a_yard_sampled)), (h_yard_loads, .inl (cI, 300, .inl a_yard_loads)), (h_yard_ofTowns, .inl (cI, 25, .inl a_yard_ofTowns)), (h_yard_towns, .inl (cI, 60, .inl a_yard_towns))]) (W2 := fun u_13 => [(h_t, .inr (6, [.ref h_told, .ref h_reader, .int v_faultNumber, .int v_faultPlace, .ref h_chosen, .ref h_tried, .ref h_byHand, .ref h_coming, .ref h_ends, .ref h_heaps, .ref h_yard, .int v_costOfKilogram])), (h_yard, .inr (5, [.int v_yard_count, .ref h_yard_sampled, .ref h_yard_towns, .ref h_yard_loads, .ref h_yard_struck, .ref h_yard_ofTowns])), (h_yard_sampled, .inl (cI, 5, .inl a_yard_sampled)), (h_yard_loads, .inl (cI, 300, .inl a_yard_loads)), (h_yard_ofTowns, .inl (cI, 25, .inl a_yard_ofTowns)), (h_yard_towns, .inl (cI, 60, .inl a_yard_towns))]) X hE hP hD hS hA (kX6_isSampled l D cB cI cJ cZ rz n H.size z5 hn_12) w_3_97 w_3_98 w_1_1 w_3_99 cb_X6_isSampled rfl rfl ⟨Nat.le_of_ble_eq_true rfl, Nat.le_of_ble_eq_true rfl⟩ rfl hl.1 rfl (Nat.le_of_ble_eq_true rfl) dX6_lorry_38 ⟨Nat.le_of_ble_eq_true rfl, Nat.le_of_ble_eq_true rfl⟩ (c2 := 0) (s2 := 0) rfl rfl [] [0, 1, 2, 3, 4, 5] [0, 1, 2, 3, 4, 5] rfl rfl (by decide) (by decide) (by decide) (by decide) (fun _ => rfl) (fun u_13 H locs hG hzu_13 hP hD hS => ?_)
              replace hF := bdQ hG hF
              refine lv_if_eq (tgt := 60) hx hb dX6_lorry_41 (by decide) (fun c_14 => ?_) (fun c_14 => ?_)
              · replace hF := ifT c_14 hF
                refine lv_iconst (v := -1) hx hb dX6_lorry_60 (by decide) ?_
                exact hret ((-1 : Int32), v_yard_count, a_yard_sampled, a_yard_loads, a_yard_ofTowns, a_yard_towns) H locs ls _ hF hP hD hS dX6_lorry_61
              · replace hF := ifF c_14 hF
                refine lv_iload hx hb dX6_lorry_44 (lv_at hl 6 rfl) ?_
                have hn_15 := bdN hN hF
                refine callSZ (As := [.int z6]) (rest := []) (wr := [(h_t, .inr (6, [.ref h_told, .ref h_reader, .int v_faultNumber, .int v_faultPlace, .ref h_chosen, .ref h_tried, .ref h_byHand, .ref h_coming, .ref h_ends, .ref h_heaps, .ref h_yard, .int v_costOfKilogram])), (h_yard, .inr (5, [.int v_yard_count, .ref h_yard_sampled, .ref h_yard_towns, .ref h_yard_loads, .ref h_yard_struck, .ref h_yard_ofTowns])), (h_yard_sampled, .inl (cI, 5, .inl a_yard_sampled)), (h_yard_loads, .inl (cI, 300, .inl a_yard_loads)), (h_yard_ofTowns, .inl (cI, 25, .inl a_yard_ofTowns)), (h_yard_towns, .inl (cI, 60, .inl a_yard_towns))]) (W2 := fun u_16 => [(h_t, .inr (6, [.ref h_told, .ref h_reader, .int v_faultNumber, .int v_faultPlace, .ref h_chosen, .ref h_tried, .ref h_byHand, .ref h_coming, .ref h_ends, .ref h_heaps, .ref h_yard, .int v_costOfKilogram])), (h_yard, .inr (5, [.int v_yard_count, .ref h_yard_sampled, .ref h_yard_towns, .ref h_yard_loads, .ref h_yard_struck, .ref h_yard_ofTowns])), (h_yard_sampled, .inl (cI, 5, .inl a_yard_sampled)), (h_yard_loads, .inl (cI, 300, .inl a_yard_loads)), (h_yard_ofTowns, .inl (cI, 25, .inl a_yard_ofTowns)), (h_yard_towns, .inl (cI, 60, .inl a_yard_towns))]) X hE hP hD hS hA (kX6_isSampled l D cB cI cJ cZ rz n H.size z6 hn_15) w_3_97 w_3_98 w_1_1 w_3_99 cb_X6_isSampled rfl rfl ⟨Nat.le_of_ble_eq_true rfl, Nat.le_of_ble_eq_true rfl⟩ rfl hl.1 rfl (Nat.le_of_ble_eq_true rfl) dX6_lorry_46 ⟨Nat.le_of_ble_eq_true rfl, Nat.le_of_ble_eq_true rfl⟩ (c2 := 0) (s2 := 0) rfl rfl [] [0, 1, 2, 3, 4, 5] [0, 1, 2, 3, 4, 5] rfl rfl (by decide) (by decide) (by decide) (by decide) (fun _ => rfl) (fun u_16 H locs hG hzu_16 hP hD hS => ?_)
                replace hF := bdQ hG hF
                refine lv_if_eq (tgt := 60) hx hb dX6_lorry_49 (by decide) (fun c_17 => ?_) (fun c_17 => ?_)
                · replace hF := ifT c_17 hF
                  refine lv_iconst (v := -1) hx hb dX6_lorry_60 (by decide) ?_
                  exact hret ((-1 : Int32), v_yard_count, a_yard_sampled, a_yard_loads, a_yard_ofTowns, a_yard_towns) H locs ls _ hF hP hD hS dX6_lorry_61
                · replace hF := ifF c_17 hF
                  refine lv_iload hx hb dX6_lorry_52 (lv_at hl 7 rfl) ?_
                  have hn_18 := bdN hN hF
                  refine callSZ (As := [.int z7]) (rest := []) (wr := [(h_t, .inr (6, [.ref h_told, .ref h_reader, .int v_faultNumber, .int v_faultPlace, .ref h_chosen, .ref h_tried, .ref h_byHand, .ref h_coming, .ref h_ends, .ref h_heaps, .ref h_yard, .int v_costOfKilogram])), (h_yard, .inr (5, [.int v_yard_count, .ref h_yard_sampled, .ref h_yard_towns, .ref h_yard_loads, .ref h_yard_struck, .ref h_yard_ofTowns])), (h_yard_sampled, .inl (cI, 5, .inl a_yard_sampled)), (h_yard_loads, .inl (cI, 300, .inl a_yard_loads)), (h_yard_ofTowns, .inl (cI, 25, .inl a_yard_ofTowns)), (h_yard_towns, .inl (cI, 60, .inl a_yard_towns))]) (W2 := fun u_19 => [(h_t, .inr (6, [.ref h_told, .ref h_reader, .int v_faultNumber, .int v_faultPlace, .ref h_chosen, .ref h_tried, .ref h_byHand, .ref h_coming, .ref h_ends, .ref h_heaps, .ref h_yard, .int v_costOfKilogram])), (h_yard, .inr (5, [.int v_yard_count, .ref h_yard_sampled, .ref h_yard_towns, .ref h_yard_loads, .ref h_yard_struck, .ref h_yard_ofTowns])), (h_yard_sampled, .inl (cI, 5, .inl a_yard_sampled)), (h_yard_loads, .inl (cI, 300, .inl a_yard_loads)), (h_yard_ofTowns, .inl (cI, 25, .inl a_yard_ofTowns)), (h_yard_towns, .inl (cI, 60, .inl a_yard_towns))]) X hE hP hD hS hA (kX6_isSampled l D cB cI cJ cZ rz n H.size z7 hn_18) w_3_97 w_3_98 w_1_1 w_3_99 cb_X6_isSampled rfl rfl ⟨Nat.le_of_ble_eq_true rfl, Nat.le_of_ble_eq_true rfl⟩ rfl hl.1 rfl (Nat.le_of_ble_eq_true rfl) dX6_lorry_54 ⟨Nat.le_of_ble_eq_true rfl, Nat.le_of_ble_eq_true rfl⟩ (c2 := 0) (s2 := 0) rfl rfl [] [0, 1, 2, 3, 4, 5] [0, 1, 2, 3, 4, 5] rfl rfl (by decide) (by decide) (by decide) (by decide) (fun _ => rfl) (fun u_19 H locs hG hzu_19 hP hD hS => ?_)
                  replace hF := bdQ hG hF
                  refine lv_if_ne (tgt := 62) hx hb dX6_lorry_57 (by decide) (fun c_20 => ?_) (fun c_20 => ?_)
                  · replace hF := ifF c_20 hF
                    refine lv_aload_n hx hb dX6_lorry_62 rfl (lv_at hl 0 rfl) ?_
                    refine va_get (D := D) (ci := 6) (C := RX6) (T := TX6) (N := 12) hx hb ha inAX6 hown hK hP 0 rfl rfl 10 (by decide) (ha _ w_2_4) (fun _ h9 => h9) rfl dX6_lorry_63 ?_
                    refine va_getN (D := D) (ci := 5) (C := RX5) (T := TX5) (N := 6) hx hb ha inAX5 hown hK hP 1 rfl rfl 1 (by decide) (va_Nw.use rfl (hE.2.1 _ w_1_211)) (fun _ h9 => h9) rfl dX6_lorry_66 ?_
                    refine lv_astore (lv' := [(8, .ref h_yard_sampled), (0, .ref h_t), (1, .int z1), (2, .int z2), (3, .int z3), (4, .int z4), (5, .int z5), (6, .int z6), (7, .int z7)]) hx hb dX6_lorry_69 hl (by decide) rfl (fun ls hl => ?_)
                    refine lv_aload hx hb dX6_lorry_71 (lv_at hl 0 rfl) ?_
                    refine lv_iconst (v := 0) hx hb dX6_lorry_73 (by decide) ?_
                    refine lv_iload_n hx hb dX6_lorry_74 rfl (lv_at hl 4 rfl) ?_
                    replace hF := ckP hN hF
                    obtain ⟨c_21, hF⟩ := hF
                    obtain ⟨f_22, ef_22⟩ : ∃ g : Nat → Int32, g = upd a_yard_sampled ((0 : Int32)).toNatClampNeg z3 := ⟨_, rfl⟩
                    replace hF := ltP ef_22 hF
                    refine st_i (g := f_22) (W2 := [(h_t, .inr (6, [.ref h_told, .ref h_reader, .int v_faultNumber, .int v_faultPlace, .ref h_chosen, .ref h_tried, .ref h_byHand, .ref h_coming, .ref h_ends, .ref h_heaps, .ref h_yard, .int v_costOfKilogram])), (h_yard, .inr (5, [.int v_yard_count, .ref h_yard_sampled, .ref h_yard_towns, .ref h_yard_loads, .ref h_yard_struck, .ref h_yard_ofTowns])), (h_yard_sampled, .inl (cI, 5, .inl f_22)), (h_yard_loads, .inl (cI, 300, .inl a_yard_loads)), (h_yard_ofTowns, .inl (cI, 25, .inl a_yard_ofTowns)), (h_yard_towns, .inl (cI, 60, .inl a_yard_towns))]) hx hb hK hP hD hS 2 rfl c_21 ef_22 dX6_lorry_75 rfl (fun H locs hP hD hS => ?_)
                    refine lv_aload hx hb dX6_lorry_76 (lv_at hl 0 rfl) ?_
                    refine lv_iconst (v := 1) hx hb dX6_lorry_78 (by decide) ?_
                    refine lv_iload hx hb dX6_lorry_79 (lv_at hl 5 rfl) ?_
                    replace hF := ckP hN hF
                    obtain ⟨c_23, hF⟩ := hF
                    obtain ⟨f_24, ef_24⟩ : ∃ g : Nat → Int32, g = upd f_22 ((1 : Int32)).toNatClampNeg z4 := ⟨_, rfl⟩
                    replace hF := ltP ef_24 hF
                    refine st_i (g := f_24) (W2 := [(h_t, .inr (6, [.ref h_told, .ref h_reader, .int v_faultNumber, .int v_faultPlace, .ref h_chosen, .ref h_tried, .ref h_byHand, .ref h_coming, .ref h_ends, .ref h_heaps, .ref h_yard, .int v_costOfKilogram])), (h_yard, .inr (5, [.int v_yard_count, .ref h_yard_sampled, .ref h_yard_towns, .ref h_yard_loads, .ref h_yard_struck, .ref h_yard_ofTowns])), (h_yard_sampled, .inl (cI, 5, .inl f_24)), (h_yard_loads, .inl (cI, 300, .inl a_yard_loads)), (h_yard_ofTowns, .inl (cI, 25, .inl a_yard_ofTowns)), (h_yard_towns, .inl (cI, 60, .inl a_yard_towns))]) hx hb hK hP hD hS 2 rfl c_23 ef_24 dX6_lorry_81 rfl (fun H locs hP hD hS => ?_)
                    refine lv_aload hx hb dX6_lorry_82 (lv_at hl 0 rfl) ?_
                    refine lv_iconst (v := 2) hx hb dX6_lorry_84 (by decide) ?_
                    refine lv_iload hx hb dX6_lorry_85 (lv_at hl 6 rfl) ?_
                    replace hF := ckP hN hF
                    obtain ⟨c_25, hF⟩ := hF
                    obtain ⟨f_26, ef_26⟩ : ∃ g : Nat → Int32, g = upd f_24 ((2 : Int32)).toNatClampNeg z5 := ⟨_, rfl⟩
                    replace hF := ltP ef_26 hF
                    refine st_i (g := f_26) (W2 := [(h_t, .inr (6, [.ref h_told, .ref h_reader, .int v_faultNumber, .int v_faultPlace, .ref h_chosen, .ref h_tried, .ref h_byHand, .ref h_coming, .ref h_ends, .ref h_heaps, .ref h_yard, .int v_costOfKilogram])), (h_yard, .inr (5, [.int v_yard_count, .ref h_yard_sampled, .ref h_yard_towns, .ref h_yard_loads, .ref h_yard_struck, .ref h_yard_ofTowns])), (h_yard_sampled, .inl (cI, 5, .inl f_26)), (h_yard_loads, .inl (cI, 300, .inl a_yard_loads)), (h_yard_ofTowns, .inl (cI, 25, .inl a_yard_ofTowns)), (h_yard_towns, .inl (cI, 60, .inl a_yard_towns))]) hx hb hK hP hD hS 2 rfl c_25 ef_26 dX6_lorry_87 rfl (fun H locs hP hD hS => ?_)
                    refine lv_aload hx hb dX6_lorry_88 (lv_at hl 0 rfl) ?_
                    refine lv_iconst (v := 3) hx hb dX6_lorry_90 (by decide) ?_
                    refine lv_iload hx hb dX6_lorry_91 (lv_at hl 7 rfl) ?_
                    replace hF := ckP hN hF
                    obtain ⟨c_27, hF⟩ := hF
                    obtain ⟨f_28, ef_28⟩ : ∃ g : Nat → Int32, g = upd f_26 ((3 : Int32)).toNatClampNeg z6 := ⟨_, rfl⟩
                    replace hF := ltP ef_28 hF
                    refine st_i (g := f_28) (W2 := [(h_t, .inr (6, [.ref h_told, .ref h_reader, .int v_faultNumber, .int v_faultPlace, .ref h_chosen, .ref h_tried, .ref h_byHand, .ref h_coming, .ref h_ends, .ref h_heaps, .ref h_yard, .int v_costOfKilogram])), (h_yard, .inr (5, [.int v_yard_count, .ref h_yard_sampled, .ref h_yard_towns, .ref h_yard_loads, .ref h_yard_struck, .ref h_yard_ofTowns])), (h_yard_sampled, .inl (cI, 5, .inl f_28)), (h_yard_loads, .inl (cI, 300, .inl a_yard_loads)), (h_yard_ofTowns, .inl (cI, 25, .inl a_yard_ofTowns)), (h_yard_towns, .inl (cI, 60, .inl a_yard_towns))]) hx hb hK hP hD hS 2 rfl c_27 ef_28 dX6_lorry_93 rfl (fun H locs hP hD hS => ?_)
                    refine lv_aload hx hb dX6_lorry_94 (lv_at hl 0 rfl) ?_
                    refine lv_iconst (v := 4) hx hb dX6_lorry_96 (by decide) ?_
                    refine lv_iload hx hb dX6_lorry_97 (lv_at hl 8 rfl) ?_
                    replace hF := ckP hN hF
                    obtain ⟨c_29, hF⟩ := hF
                    obtain ⟨f_30, ef_30⟩ : ∃ g : Nat → Int32, g = upd f_28 ((4 : Int32)).toNatClampNeg z7 := ⟨_, rfl⟩
                    replace hF := ltP ef_30 hF
                    refine st_i (g := f_30) (W2 := [(h_t, .inr (6, [.ref h_told, .ref h_reader, .int v_faultNumber, .int v_faultPlace, .ref h_chosen, .ref h_tried, .ref h_byHand, .ref h_coming, .ref h_ends, .ref h_heaps, .ref h_yard, .int v_costOfKilogram])), (h_yard, .inr (5, [.int v_yard_count, .ref h_yard_sampled, .ref h_yard_towns, .ref h_yard_loads, .ref h_yard_struck, .ref h_yard_ofTowns])), (h_yard_sampled, .inl (cI, 5, .inl f_30)), (h_yard_loads, .inl (cI, 300, .inl a_yard_loads)), (h_yard_ofTowns, .inl (cI, 25, .inl a_yard_ofTowns)), (h_yard_towns, .inl (cI, 60, .inl a_yard_towns))]) hx hb hK hP hD hS 2 rfl c_29 ef_30 dX6_lorry_99 rfl (fun H locs hP hD hS => ?_)
                    refine lv_aload_n hx hb dX6_lorry_100 rfl (lv_at hl 1 rfl) ?_
                    refine va_get (D := D) (ci := 6) (C := RX6) (T := TX6) (N := 12) hx hb ha inAX6 hown hK hP 0 rfl rfl 10 (by decide) (ha _ w_2_4) (fun _ h9 => h9) rfl dX6_lorry_101 ?_
                    refine lv_iload_n hx hb dX6_lorry_104 rfl (lv_at hl 2 rfl) ?_
                    refine lv_iload_n hx hb dX6_lorry_105 rfl (lv_at hl 3 rfl) ?_
                    have hn_31 := bdN hN hF
                    refine callVNI (As := [.int z1, .int z2]) (rest := []) (wr := [(h_t, .inr (6, [.ref h_told, .ref h_reader, .int v_faultNumber, .int v_faultPlace, .ref h_chosen, .ref h_tried, .ref h_byHand, .ref h_coming, .ref h_ends, .ref h_heaps, .ref h_yard, .int v_costOfKilogram]))]) (W2 := fun u_32 => [(h_t, .inr (6, [.ref h_told, .ref h_reader, .int v_faultNumber, .int v_faultPlace, .ref h_chosen, .ref h_tried, .ref h_byHand, .ref h_coming, .ref h_ends, .ref h_heaps, .ref h_yard, .int v_costOfKilogram])), (h_yard, .inr (5, [.int u_32.2.1, .ref h_yard_sampled, .ref h_yard_towns, .ref h_yard_loads, .ref h_yard_struck, .ref h_yard_ofTowns])), (h_yard_sampled, .inl (cI, 5, .inl f_30)), (h_yard_loads, .inl (cI, 300, .inl u_32.2.2.1)), (h_yard_ofTowns, .inl (cI, 25, .inl u_32.2.2.2.1)), (h_yard_towns, .inl (cI, 60, .inl u_32.2.2.2.2))]) X hE hP hD hS hA (kX5_bring l D cB cI cJ cZ rz n H.size h_yard h_yard_sampled h_yard_loads h_yard_ofTowns h_yard_towns h_yard_struck v_yard_count f_30 a_yard_loads a_yard_ofTowns a_yard_towns z1 z2 hn_31) w_3_100 w_3_102 ws_43 w_1_7 w_3_103 cb_X5_bring rfl rfl ⟨Nat.le_of_ble_eq_true rfl, Nat.le_of_ble_eq_true rfl⟩ rfl hl.1 rfl (Nat.le_of_ble_eq_true rfl) dX6_lorry_106 ⟨Nat.le_of_ble_eq_true rfl, Nat.le_of_ble_eq_true rfl⟩ (c2 := 0) (s2 := 0) rfl rfl (k0 := 1) rfl rfl [1, 2, 3, 4, 5] [0] [0, 1, 2, 3, 4, 5] rfl rfl (by decide) (by decide) (by decide) (by decide) (fun _ => rfl) (fun u_32 H locs hG hP hD hS => ?_)
                    replace hF := bdQ hG hF
                    exact hret (u_32.1, u_32.2.1, f_30, u_32.2.2.1, u_32.2.2.2.1, u_32.2.2.2.2) H locs ls _ hF hP hD hS dX6_lorry_109
                  · replace hF := ifT c_20 hF
                    refine lv_iconst (v := -1) hx hb dX6_lorry_60 (by decide) ?_
                    exact hret ((-1 : Int32), v_yard_count, a_yard_sampled, a_yard_loads, a_yard_ofTowns, a_yard_towns) H locs ls _ hF hP hD hS dX6_lorry_61
        · replace hF := ifF c_5 hF
          refine lv_iconst (v := -1) hx hb dX6_lorry_19 (by decide) ?_
          exact hret ((-1 : Int32), v_yard_count, a_yard_sampled, a_yard_loads, a_yard_ofTowns, a_yard_towns) H locs ls _ hF hP hD hS dX6_lorry_20
  rw [hH, hlo] at goal
  exact goal
theorem dX6_strike_0 : decode cX6_strike 0 = .ok (.aload_n 0, 1) := by decide +kernel
theorem dX6_strike_1 : decode cX6_strike 1 = .ok (.getfield 57, 3) := by decide +kernel
theorem dX6_strike_4 : decode cX6_strike 4 = .ok (.iload_n 1, 1) := by decide +kernel
theorem dX6_strike_5 : decode cX6_strike 5 = .ok (.invokevirtual 202, 3) := by decide +kernel
theorem dX6_strike_8 : decode cX6_strike 8 = .ok (.ireturn, 1) := by decide +kernel
abbrev rmX6_strike : Room := { frames := 1, cells := 0, slots := 0, locals := 22 }
theorem cb_X6_strike : CBn yX6_strike 1 := ⟨by decide +kernel, by decide +kernel, by decide +kernel⟩
def FX6_strike (n : Nat) (v_yard_count : Int32) (a_yard_struck : Nat → Int32) (a_yard_ofTowns : Nat → Int32) (a_yard_towns : Nat → Int32) (a_yard_loads : Nat → Int32) (z1 : Int32) : Option (Int32 × (Nat → Int32) × (Nat → Int32)) := bd (FX5_strikeOff n v_yard_count a_yard_struck a_yard_ofTowns a_yard_towns a_yard_loads z1) (fun u_2 => some (u_2.1, u_2.2.1, u_2.2.2))
set_option maxHeartbeats 4000000 in
set_option maxRecDepth 100000 in
theorem kX6_strike (l : Launch) (D : va_G) (cB cI cJ cZ : ClassId) (rz n sz : Nat) (h_t : Nat) (h_yard : Nat) (h_yard_struck : Nat) (h_yard_ofTowns : Nat) (h_yard_towns : Nat) (h_yard_loads : Nat) (h_told : Nat) (h_reader : Nat) (h_chosen : Nat) (h_tried : Nat) (h_byHand : Nat) (h_coming : Nat) (h_ends : Nat) (h_heaps : Nat) (h_yard_sampled : Nat) (v_faultNumber : Int32) (v_faultPlace : Int32) (v_costOfKilogram : Int32) (v_yard_count : Int32) (a_yard_struck : Nat → Int32) (a_yard_ofTowns : Nat → Int32) (a_yard_towns : Nat → Int32) (a_yard_loads : Nat → Int32) (z1 : Int32) (hN : FX6_strike n v_yard_count a_yard_struck a_yard_ofTowns a_yard_towns a_yard_loads z1 ≠ none) : Met l yX6_strike (Cond.code yX6_strike cX6_strike 2 (some .boolean) :: AL) rmX6_strike (PW D cB cI cJ cZ rz [.ref h_t, .int z1] [(h_t, .inr (6, [.ref h_told, .ref h_reader, .int v_faultNumber, .int v_faultPlace, .ref h_chosen, .ref h_tried, .ref h_byHand, .ref h_coming, .ref h_ends, .ref h_heaps, .ref h_yard, .int v_costOfKilogram])), (h_yard, .inr (5, [.int v_yard_count, .ref h_yard_sampled, .ref h_yard_towns, .ref h_yard_loads, .ref h_yard_struck, .ref h_yard_ofTowns])), (h_yard_struck, .inl (cZ, 60, .inl a_yard_struck)), (h_yard_ofTowns, .inl (cI, 25, .inl a_yard_ofTowns)), (h_yard_towns, .inl (cI, 60, .inl a_yard_towns)), (h_yard_loads, .inl (cI, 300, .inl a_yard_loads))] sz) (QZ D (FX6_strike n v_yard_count a_yard_struck a_yard_ofTowns a_yard_towns a_yard_loads z1) (fun u => [(h_t, .inr (6, [.ref h_told, .ref h_reader, .int v_faultNumber, .int v_faultPlace, .ref h_chosen, .ref h_tried, .ref h_byHand, .ref h_coming, .ref h_ends, .ref h_heaps, .ref h_yard, .int v_costOfKilogram])), (h_yard, .inr (5, [.int v_yard_count, .ref h_yard_sampled, .ref h_yard_towns, .ref h_yard_loads, .ref h_yard_struck, .ref h_yard_ofTowns])), (h_yard_struck, .inl (cZ, 60, .inl u.2.1)), (h_yard_ofTowns, .inl (cI, 25, .inl u.2.2)), (h_yard_towns, .inl (cI, 60, .inl a_yard_towns)), (h_yard_loads, .inl (cI, 300, .inl a_yard_loads))]) (va_A [(h_t, .inr (6, [.ref h_told, .ref h_reader, .int v_faultNumber, .int v_faultPlace, .ref h_chosen, .ref h_tried, .ref h_byHand, .ref h_coming, .ref h_ends, .ref h_heaps, .ref h_yard, .int v_costOfKilogram])), (h_yard, .inr (5, [.int v_yard_count, .ref h_yard_sampled, .ref h_yard_towns, .ref h_yard_loads, .ref h_yard_struck, .ref h_yard_ofTowns])), (h_yard_struck, .inl (cZ, 60, .inl a_yard_struck)), (h_yard_ofTowns, .inl (cI, 25, .inl a_yard_ofTowns)), (h_yard_towns, .inl (cI, 60, .inl a_yard_towns)), (h_yard_loads, .inl (cI, 300, .inl a_yard_loads))] sz)) 0 0 (va_A [(h_t, .inr (6, [.ref h_told, .ref h_reader, .int v_faultNumber, .int v_faultPlace, .ref h_chosen, .ref h_tried, .ref h_byHand, .ref h_coming, .ref h_ends, .ref h_heaps, .ref h_yard, .int v_costOfKilogram])), (h_yard, .inr (5, [.int v_yard_count, .ref h_yard_sampled, .ref h_yard_towns, .ref h_yard_loads, .ref h_yard_struck, .ref h_yard_ofTowns])), (h_yard_struck, .inl (cZ, 60, .inl a_yard_struck)), (h_yard_ofTowns, .inl (cI, 25, .inl a_yard_ofTowns)), (h_yard_towns, .inl (cI, 60, .inl a_yard_towns)), (h_yard_loads, .inl (cI, 300, .inl a_yard_loads))] sz) := by
  obtain ⟨O, hF⟩ : ∃ O, FX6_strike n v_yard_count a_yard_struck a_yard_ofTowns a_yard_towns a_yard_loads z1 = O := ⟨_, rfl⟩
  rw [hF] at hN ⊢
  refine enterZ (cc := cX6_strike) (nL := 2) (by decide) (Nat.le_of_ble_eq_true rfl) ?_
  intro p e s m below meth c A Q X hA hE hnm hsz hP hD hS hret ls hl
  obtain ⟨hx, hb, hml, hown0, ha⟩ := id X
  have hown : s.vm.findClass RX6 = some m.cls := hown0
  have hK := hE.1
  have hl : lv_has ls 2 [(0, .ref h_t), (1, .int z1)] := hl
  have hX : CallFix p m c cX6_strike 2 s ([.ref h_t, .int z1] : List Value).toArray AL RX6 := X
  have X := hX
  unfold FX6_strike at hF
  obtain ⟨H, hH⟩ : ∃ H, H = s.heap := ⟨_, rfl⟩
  obtain ⟨locs, hlo⟩ : ∃ locs : List Loc, locs = [] := ⟨_, rfl⟩
  have hS : va_S A s.heap H locs := by rw [hH, hlo]; exact hS
  rw [← hH] at hP
  have goal : W p l e rmX6_strike s m ([.ref h_t, .int z1] : List Value).toArray below meth c H locs 0 0 Q (F0 m 0 ls []) := by
    refine lv_aload_n hx hb dX6_strike_0 rfl (lv_at hl 0 rfl) ?_
    refine va_get (D := D) (ci := 6) (C := RX6) (T := TX6) (N := 12) hx hb ha inAX6 hown hK hP 0 rfl rfl 10 (by decide) (ha _ w_2_4) (fun _ h9 => h9) rfl dX6_strike_1 ?_
    refine lv_iload_n hx hb dX6_strike_4 rfl (lv_at hl 1 rfl) ?_
    have hn_1 := bdN hN hF
    refine callVNZ (As := [.int z1]) (rest := []) (wr := [(h_t, .inr (6, [.ref h_told, .ref h_reader, .int v_faultNumber, .int v_faultPlace, .ref h_chosen, .ref h_tried, .ref h_byHand, .ref h_coming, .ref h_ends, .ref h_heaps, .ref h_yard, .int v_costOfKilogram]))]) (W2 := fun u_2 => [(h_t, .inr (6, [.ref h_told, .ref h_reader, .int v_faultNumber, .int v_faultPlace, .ref h_chosen, .ref h_tried, .ref h_byHand, .ref h_coming, .ref h_ends, .ref h_heaps, .ref h_yard, .int v_costOfKilogram])), (h_yard, .inr (5, [.int v_yard_count, .ref h_yard_sampled, .ref h_yard_towns, .ref h_yard_loads, .ref h_yard_struck, .ref h_yard_ofTowns])), (h_yard_struck, .inl (cZ, 60, .inl u_2.2.1)), (h_yard_ofTowns, .inl (cI, 25, .inl u_2.2.2)), (h_yard_towns, .inl (cI, 60, .inl a_yard_towns)), (h_yard_loads, .inl (cI, 300, .inl a_yard_loads))]) X hE hP hD hS hA (kX5_strikeOff l D cB cI cJ cZ rz n H.size h_yard h_yard_struck h_yard_ofTowns h_yard_towns h_yard_loads h_yard_sampled v_yard_count a_yard_struck a_yard_ofTowns a_yard_towns a_yard_loads z1 hn_1) w_3_109 w_3_111 ws_44 w_1_7 w_3_112 cb_X5_strikeOff rfl rfl ⟨Nat.le_of_ble_eq_true rfl, Nat.le_of_ble_eq_true rfl⟩ rfl hl.1 rfl (Nat.le_of_ble_eq_true rfl) dX6_strike_5 ⟨Nat.le_of_ble_eq_true rfl, Nat.le_of_ble_eq_true rfl⟩ (c2 := 0) (s2 := 0) rfl rfl (k0 := 1) rfl rfl [1, 2, 3, 4, 5] [0] [0, 1, 2, 3, 4, 5] rfl rfl (by decide) (by decide) (by decide) (by decide) (fun _ => rfl) (fun u_2 H locs hG hzu_2 hP hD hS => ?_)
    replace hF := bdQ hG hF
    exact hret (u_2.1, u_2.2.1, u_2.2.2) H locs ls _ hF hzu_2 hP hD hS dX6_strike_8
  rw [hH, hlo] at goal
  exact goal
theorem dX6_brought_0 : decode cX6_brought 0 = .ok (.iload_n 1, 1) := by decide +kernel
theorem dX6_brought_1 : decode cX6_brought 1 = .ok (.invokestatic 189, 3) := by decide +kernel
theorem dX6_brought_4 : decode cX6_brought 4 = .ok (.ifCond .eq 10, 3) := by decide +kernel
theorem dX6_brought_7 : decode cX6_brought 7 = .ok (.iload_n 2, 1) := by decide +kernel
theorem dX6_brought_8 : decode cX6_brought 8 = .ok (.invokestatic 116, 3) := by decide +kernel
theorem dX6_brought_11 : decode cX6_brought 11 = .ok (.ifCond .ne 5, 3) := by decide +kernel
theorem dX6_brought_14 : decode cX6_brought 14 = .ok (.iconst (-1), 1) := by decide +kernel
theorem dX6_brought_15 : decode cX6_brought 15 = .ok (.ireturn, 1) := by decide +kernel
theorem dX6_brought_16 : decode cX6_brought 16 = .ok (.aload_n 0, 1) := by decide +kernel
theorem dX6_brought_17 : decode cX6_brought 17 = .ok (.getfield 57, 3) := by decide +kernel
theorem dX6_brought_20 : decode cX6_brought 20 = .ok (.getfield 205, 3) := by decide +kernel
theorem dX6_brought_23 : decode cX6_brought 23 = .ok (.iload_n 1, 1) := by decide +kernel
theorem dX6_brought_24 : decode cX6_brought 24 = .ok (.iconst 5, 1) := by decide +kernel
theorem dX6_brought_25 : decode cX6_brought 25 = .ok (.imul, 1) := by decide +kernel
theorem dX6_brought_26 : decode cX6_brought 26 = .ok (.iload_n 2, 1) := by decide +kernel
theorem dX6_brought_27 : decode cX6_brought 27 = .ok (.iadd, 1) := by decide +kernel
theorem dX6_brought_28 : decode cX6_brought 28 = .ok (.iaload, 1) := by decide +kernel
theorem dX6_brought_29 : decode cX6_brought 29 = .ok (.ireturn, 1) := by decide +kernel
abbrev rmX6_brought : Room := { frames := 1, cells := 0, slots := 0, locals := 20 }
theorem cb_X6_brought : CBn yX6_brought 2 := ⟨by decide +kernel, by decide +kernel, by decide +kernel⟩
def FX6_brought (n : Nat) (a_yard_ofTowns : Nat → Int32) (z1 : Int32) (z2 : Int32) : Option (Int32 × Unit) := bd (FX6_isTown n z1) (fun u_2 => if u_2.1 = 0 then (some ((-1 : Int32), ())) else (bd (FX6_isKind n z2) (fun u_5 => if u_5.1 = 0 then (some ((-1 : Int32), ())) else (if ¬ (((z1 * (5 : Int32)) + z2) < 0 ∨ 25 ≤ (((z1 * (5 : Int32)) + z2)).toNatClampNeg) then (some ((a_yard_ofTowns (((z1 * (5 : Int32)) + z2)).toNatClampNeg), ())) else none))))
set_option maxHeartbeats 4000000 in
set_option maxRecDepth 100000 in
theorem kX6_brought (l : Launch) (D : va_G) (cB cI cJ cZ : ClassId) (rz n sz : Nat) (h_t : Nat) (h_yard : Nat) (h_yard_ofTowns : Nat) (h_told : Nat) (h_reader : Nat) (h_chosen : Nat) (h_tried : Nat) (h_byHand : Nat) (h_coming : Nat) (h_ends : Nat) (h_heaps : Nat) (h_yard_sampled : Nat) (h_yard_towns : Nat) (h_yard_loads : Nat) (h_yard_struck : Nat) (v_faultNumber : Int32) (v_faultPlace : Int32) (v_costOfKilogram : Int32) (v_yard_count : Int32) (a_yard_ofTowns : Nat → Int32) (z1 : Int32) (z2 : Int32) (hN : FX6_brought n a_yard_ofTowns z1 z2 ≠ none) : Met l yX6_brought (Cond.code yX6_brought cX6_brought 3 (some .int) :: AL) rmX6_brought (PW D cB cI cJ cZ rz [.ref h_t, .int z1, .int z2] [(h_t, .inr (6, [.ref h_told, .ref h_reader, .int v_faultNumber, .int v_faultPlace, .ref h_chosen, .ref h_tried, .ref h_byHand, .ref h_coming, .ref h_ends, .ref h_heaps, .ref h_yard, .int v_costOfKilogram])), (h_yard, .inr (5, [.int v_yard_count, .ref h_yard_sampled, .ref h_yard_towns, .ref h_yard_loads, .ref h_yard_struck, .ref h_yard_ofTowns])), (h_yard_ofTowns, .inl (cI, 25, .inl a_yard_ofTowns))] sz) (QI D (FX6_brought n a_yard_ofTowns z1 z2) (fun u => [(h_t, .inr (6, [.ref h_told, .ref h_reader, .int v_faultNumber, .int v_faultPlace, .ref h_chosen, .ref h_tried, .ref h_byHand, .ref h_coming, .ref h_ends, .ref h_heaps, .ref h_yard, .int v_costOfKilogram])), (h_yard, .inr (5, [.int v_yard_count, .ref h_yard_sampled, .ref h_yard_towns, .ref h_yard_loads, .ref h_yard_struck, .ref h_yard_ofTowns])), (h_yard_ofTowns, .inl (cI, 25, .inl a_yard_ofTowns))]) (va_A [(h_t, .inr (6, [.ref h_told, .ref h_reader, .int v_faultNumber, .int v_faultPlace, .ref h_chosen, .ref h_tried, .ref h_byHand, .ref h_coming, .ref h_ends, .ref h_heaps, .ref h_yard, .int v_costOfKilogram])), (h_yard, .inr (5, [.int v_yard_count, .ref h_yard_sampled, .ref h_yard_towns, .ref h_yard_loads, .ref h_yard_struck, .ref h_yard_ofTowns])), (h_yard_ofTowns, .inl (cI, 25, .inl a_yard_ofTowns))] sz)) 0 0 (va_A [(h_t, .inr (6, [.ref h_told, .ref h_reader, .int v_faultNumber, .int v_faultPlace, .ref h_chosen, .ref h_tried, .ref h_byHand, .ref h_coming, .ref h_ends, .ref h_heaps, .ref h_yard, .int v_costOfKilogram])), (h_yard, .inr (5, [.int v_yard_count, .ref h_yard_sampled, .ref h_yard_towns, .ref h_yard_loads, .ref h_yard_struck, .ref h_yard_ofTowns])), (h_yard_ofTowns, .inl (cI, 25, .inl a_yard_ofTowns))] sz) := by
  obtain ⟨O, hF⟩ : ∃ O, FX6_brought n a_yard_ofTowns z1 z2 = O := ⟨_, rfl⟩
  rw [hF] at hN ⊢
  refine enterI (cc := cX6_brought) (nL := 3) (by decide) (Nat.le_of_ble_eq_true rfl) ?_
  intro p e s m below meth c A Q X hA hE hnm hsz hP hD hS hret ls hl
  obtain ⟨hx, hb, hml, hown0, ha⟩ := id X
  have hown : s.vm.findClass RX6 = some m.cls := hown0
  have hK := hE.1
  have hl : lv_has ls 3 [(0, .ref h_t), (1, .int z1), (2, .int z2)] := hl
  have hX : CallFix p m c cX6_brought 3 s ([.ref h_t, .int z1, .int z2] : List Value).toArray AL RX6 := X
  have X := hX
  unfold FX6_brought at hF
  obtain ⟨H, hH⟩ : ∃ H, H = s.heap := ⟨_, rfl⟩
  obtain ⟨locs, hlo⟩ : ∃ locs : List Loc, locs = [] := ⟨_, rfl⟩
  have hS : va_S A s.heap H locs := by rw [hH, hlo]; exact hS
  rw [← hH] at hP
  have goal : W p l e rmX6_brought s m ([.ref h_t, .int z1, .int z2] : List Value).toArray below meth c H locs 0 0 Q (F0 m 0 ls []) := by
    refine lv_iload_n hx hb dX6_brought_0 rfl (lv_at hl 1 rfl) ?_
    have hn_1 := bdN hN hF
    refine callSZ (As := [.int z1]) (rest := []) (wr := [(h_t, .inr (6, [.ref h_told, .ref h_reader, .int v_faultNumber, .int v_faultPlace, .ref h_chosen, .ref h_tried, .ref h_byHand, .ref h_coming, .ref h_ends, .ref h_heaps, .ref h_yard, .int v_costOfKilogram])), (h_yard, .inr (5, [.int v_yard_count, .ref h_yard_sampled, .ref h_yard_towns, .ref h_yard_loads, .ref h_yard_struck, .ref h_yard_ofTowns])), (h_yard_ofTowns, .inl (cI, 25, .inl a_yard_ofTowns))]) (W2 := fun u_2 => [(h_t, .inr (6, [.ref h_told, .ref h_reader, .int v_faultNumber, .int v_faultPlace, .ref h_chosen, .ref h_tried, .ref h_byHand, .ref h_coming, .ref h_ends, .ref h_heaps, .ref h_yard, .int v_costOfKilogram])), (h_yard, .inr (5, [.int v_yard_count, .ref h_yard_sampled, .ref h_yard_towns, .ref h_yard_loads, .ref h_yard_struck, .ref h_yard_ofTowns])), (h_yard_ofTowns, .inl (cI, 25, .inl a_yard_ofTowns))]) X hE hP hD hS hA (kX6_isTown l D cB cI cJ cZ rz n H.size z1 hn_1) w_3_94 w_3_95 w_1_1 w_3_96 cb_X6_isTown rfl rfl ⟨Nat.le_of_ble_eq_true rfl, Nat.le_of_ble_eq_true rfl⟩ rfl hl.1 rfl (Nat.le_of_ble_eq_true rfl) dX6_brought_1 ⟨Nat.le_of_ble_eq_true rfl, Nat.le_of_ble_eq_true rfl⟩ (c2 := 0) (s2 := 0) rfl rfl [] [0, 1, 2] [0, 1, 2] rfl rfl (by decide) (by decide) (by decide) (by decide) (fun _ => rfl) (fun u_2 H locs hG hzu_2 hP hD hS => ?_)
    replace hF := bdQ hG hF
    refine lv_if_eq (tgt := 14) hx hb dX6_brought_4 (by decide) (fun c_3 => ?_) (fun c_3 => ?_)
    · replace hF := ifT c_3 hF
      refine lv_iconst (v := -1) hx hb dX6_brought_14 (by decide) ?_
      exact hret ((-1 : Int32), ()) H locs ls _ hF hP hD hS dX6_brought_15
    · replace hF := ifF c_3 hF
      refine lv_iload_n hx hb dX6_brought_7 rfl (lv_at hl 2 rfl) ?_
      have hn_4 := bdN hN hF
      refine callSZ (As := [.int z2]) (rest := []) (wr := [(h_t, .inr (6, [.ref h_told, .ref h_reader, .int v_faultNumber, .int v_faultPlace, .ref h_chosen, .ref h_tried, .ref h_byHand, .ref h_coming, .ref h_ends, .ref h_heaps, .ref h_yard, .int v_costOfKilogram])), (h_yard, .inr (5, [.int v_yard_count, .ref h_yard_sampled, .ref h_yard_towns, .ref h_yard_loads, .ref h_yard_struck, .ref h_yard_ofTowns])), (h_yard_ofTowns, .inl (cI, 25, .inl a_yard_ofTowns))]) (W2 := fun u_5 => [(h_t, .inr (6, [.ref h_told, .ref h_reader, .int v_faultNumber, .int v_faultPlace, .ref h_chosen, .ref h_tried, .ref h_byHand, .ref h_coming, .ref h_ends, .ref h_heaps, .ref h_yard, .int v_costOfKilogram])), (h_yard, .inr (5, [.int v_yard_count, .ref h_yard_sampled, .ref h_yard_towns, .ref h_yard_loads, .ref h_yard_struck, .ref h_yard_ofTowns])), (h_yard_ofTowns, .inl (cI, 25, .inl a_yard_ofTowns))]) X hE hP hD hS hA (kX6_isKind l D cB cI cJ cZ rz n H.size z2 hn_4) w_2_171 w_2_172 w_1_1 w_2_173 cb_X6_isKind rfl rfl ⟨Nat.le_of_ble_eq_true rfl, Nat.le_of_ble_eq_true rfl⟩ rfl hl.1 rfl (Nat.le_of_ble_eq_true rfl) dX6_brought_8 ⟨Nat.le_of_ble_eq_true rfl, Nat.le_of_ble_eq_true rfl⟩ (c2 := 0) (s2 := 0) rfl rfl [] [0, 1, 2] [0, 1, 2] rfl rfl (by decide) (by decide) (by decide) (by decide) (fun _ => rfl) (fun u_5 H locs hG hzu_5 hP hD hS => ?_)
      replace hF := bdQ hG hF
      refine lv_if_ne (tgt := 16) hx hb dX6_brought_11 (by decide) (fun c_6 => ?_) (fun c_6 => ?_)
      · replace hF := ifF c_6 hF
        refine lv_aload_n hx hb dX6_brought_16 rfl (lv_at hl 0 rfl) ?_
        refine va_get (D := D) (ci := 6) (C := RX6) (T := TX6) (N := 12) hx hb ha inAX6 hown hK hP 0 rfl rfl 10 (by decide) (ha _ w_2_4) (fun _ h9 => h9) rfl dX6_brought_17 ?_
        refine va_getN (D := D) (ci := 5) (C := RX5) (T := TX5) (N := 6) hx hb ha inAX5 hown hK hP 1 rfl rfl 5 (by decide) (va_Nw.use rfl (hE.2.1 _ w_1_216)) (fun _ h9 => h9) rfl dX6_brought_20 ?_
        refine lv_iload_n hx hb dX6_brought_23 rfl (lv_at hl 1 rfl) ?_
        refine lv_iconst (v := 5) hx hb dX6_brought_24 (by decide) ?_
        refine lv_imul hx hb dX6_brought_25 ?_
        refine lv_iload_n hx hb dX6_brought_26 rfl (lv_at hl 2 rfl) ?_
        refine lv_iadd hx hb dX6_brought_27 ?_
        replace hF := ckP hN hF
        obtain ⟨c_7, hF⟩ := hF
        refine ld_i hx hb hK hP 2 rfl c_7 dX6_brought_28 ?_
        exact hret ((a_yard_ofTowns (((z1 * (5 : Int32)) + z2)).toNatClampNeg), ()) H locs ls _ hF hP hD hS dX6_brought_29
      · replace hF := ifT c_6 hF
        refine lv_iconst (v := -1) hx hb dX6_brought_14 (by decide) ?_
        exact hret ((-1 : Int32), ()) H locs ls _ hF hP hD hS dX6_brought_15
  rw [hH, hlo] at goal
  exact goal
theorem dX6_share_0 : decode cX6_share 0 = .ok (.iload_n 1, 1) := by decide +kernel
theorem dX6_share_1 : decode cX6_share 1 = .ok (.invokestatic 189, 3) := by decide +kernel
theorem dX6_share_4 : decode cX6_share 4 = .ok (.ifCond .eq 20, 3) := by decide +kernel
theorem dX6_share_7 : decode cX6_share 7 = .ok (.iload_n 2, 1) := by decide +kernel
theorem dX6_share_8 : decode cX6_share 8 = .ok (.invokestatic 116, 3) := by decide +kernel
theorem dX6_share_11 : decode cX6_share 11 = .ok (.ifCond .eq 13, 3) := by decide +kernel
theorem dX6_share_14 : decode cX6_share 14 = .ok (.iload_n 3, 1) := by decide +kernel
theorem dX6_share_15 : decode cX6_share 15 = .ok (.ifCond .lt 9, 3) := by decide +kernel
theorem dX6_share_18 : decode cX6_share 18 = .ok (.iload_n 3, 1) := by decide +kernel
theorem dX6_share_19 : decode cX6_share 19 = .ok (.ldc 208, 2) := by decide +kernel
theorem dX6_share_21 : decode cX6_share 21 = .ok (.if_icmp .le 5, 3) := by decide +kernel
theorem dX6_share_24 : decode cX6_share 24 = .ok (.iconst (-1), 1) := by decide +kernel
theorem dX6_share_25 : decode cX6_share 25 = .ok (.ireturn, 1) := by decide +kernel
theorem dX6_share_26 : decode cX6_share 26 = .ok (.aload_n 0, 1) := by decide +kernel
theorem dX6_share_27 : decode cX6_share 27 = .ok (.getfield 57, 3) := by decide +kernel
theorem dX6_share_30 : decode cX6_share 30 = .ok (.iload_n 1, 1) := by decide +kernel
theorem dX6_share_31 : decode cX6_share 31 = .ok (.iload_n 2, 1) := by decide +kernel
theorem dX6_share_32 : decode cX6_share 32 = .ok (.iload_n 3, 1) := by decide +kernel
theorem dX6_share_33 : decode cX6_share 33 = .ok (.invokevirtual 209, 3) := by decide +kernel
theorem dX6_share_36 : decode cX6_share 36 = .ok (.ireturn, 1) := by decide +kernel
abbrev rmX6_share : Room := { frames := 2, cells := 0, slots := 0, locals := 57 }
theorem cb_X6_share : CBn yX6_share 3 := ⟨by decide +kernel, by decide +kernel, by decide +kernel⟩
def FX6_share (n : Nat) (a_yard_ofTowns : Nat → Int32) (z1 : Int32) (z2 : Int32) (z3 : Int32) : Option (Int32 × Unit) := bd (FX6_isTown n z1) (fun u_2 => if u_2.1 = 0 then (some ((-1 : Int32), ())) else (bd (FX6_isKind n z2) (fun u_5 => if u_5.1 = 0 then (some ((-1 : Int32), ())) else (if z3 < 0 then (some ((-1 : Int32), ())) else (if z3 ≤ (10000000 : Int32) then (bd (FX5_shareOf n a_yard_ofTowns z1 z2 z3) (fun u_10 => some (u_10.1, ()))) else (some ((-1 : Int32), ())))))))
set_option maxHeartbeats 4000000 in
set_option maxRecDepth 100000 in
theorem kX6_share (l : Launch) (D : va_G) (cB cI cJ cZ : ClassId) (rz n sz : Nat) (h_t : Nat) (h_yard : Nat) (h_yard_ofTowns : Nat) (h_told : Nat) (h_reader : Nat) (h_chosen : Nat) (h_tried : Nat) (h_byHand : Nat) (h_coming : Nat) (h_ends : Nat) (h_heaps : Nat) (h_yard_sampled : Nat) (h_yard_towns : Nat) (h_yard_loads : Nat) (h_yard_struck : Nat) (v_faultNumber : Int32) (v_faultPlace : Int32) (v_costOfKilogram : Int32) (v_yard_count : Int32) (a_yard_ofTowns : Nat → Int32) (z1 : Int32) (z2 : Int32) (z3 : Int32) (hN : FX6_share n a_yard_ofTowns z1 z2 z3 ≠ none) : Met l yX6_share (Cond.code yX6_share cX6_share 4 (some .int) :: AL) rmX6_share (PW D cB cI cJ cZ rz [.ref h_t, .int z1, .int z2, .int z3] [(h_t, .inr (6, [.ref h_told, .ref h_reader, .int v_faultNumber, .int v_faultPlace, .ref h_chosen, .ref h_tried, .ref h_byHand, .ref h_coming, .ref h_ends, .ref h_heaps, .ref h_yard, .int v_costOfKilogram])), (h_yard, .inr (5, [.int v_yard_count, .ref h_yard_sampled, .ref h_yard_towns, .ref h_yard_loads, .ref h_yard_struck, .ref h_yard_ofTowns])), (h_yard_ofTowns, .inl (cI, 25, .inl a_yard_ofTowns))] sz) (QI D (FX6_share n a_yard_ofTowns z1 z2 z3) (fun u => [(h_t, .inr (6, [.ref h_told, .ref h_reader, .int v_faultNumber, .int v_faultPlace, .ref h_chosen, .ref h_tried, .ref h_byHand, .ref h_coming, .ref h_ends, .ref h_heaps, .ref h_yard, .int v_costOfKilogram])), (h_yard, .inr (5, [.int v_yard_count, .ref h_yard_sampled, .ref h_yard_towns, .ref h_yard_loads, .ref h_yard_struck, .ref h_yard_ofTowns])), (h_yard_ofTowns, .inl (cI, 25, .inl a_yard_ofTowns))]) (va_A [(h_t, .inr (6, [.ref h_told, .ref h_reader, .int v_faultNumber, .int v_faultPlace, .ref h_chosen, .ref h_tried, .ref h_byHand, .ref h_coming, .ref h_ends, .ref h_heaps, .ref h_yard, .int v_costOfKilogram])), (h_yard, .inr (5, [.int v_yard_count, .ref h_yard_sampled, .ref h_yard_towns, .ref h_yard_loads, .ref h_yard_struck, .ref h_yard_ofTowns])), (h_yard_ofTowns, .inl (cI, 25, .inl a_yard_ofTowns))] sz)) 0 0 (va_A [(h_t, .inr (6, [.ref h_told, .ref h_reader, .int v_faultNumber, .int v_faultPlace, .ref h_chosen, .ref h_tried, .ref h_byHand, .ref h_coming, .ref h_ends, .ref h_heaps, .ref h_yard, .int v_costOfKilogram])), (h_yard, .inr (5, [.int v_yard_count, .ref h_yard_sampled, .ref h_yard_towns, .ref h_yard_loads, .ref h_yard_struck, .ref h_yard_ofTowns])), (h_yard_ofTowns, .inl (cI, 25, .inl a_yard_ofTowns))] sz) := by
  obtain ⟨O, hF⟩ : ∃ O, FX6_share n a_yard_ofTowns z1 z2 z3 = O := ⟨_, rfl⟩
  rw [hF] at hN ⊢
  refine enterI (cc := cX6_share) (nL := 4) (by decide) (Nat.le_of_ble_eq_true rfl) ?_
  intro p e s m below meth c A Q X hA hE hnm hsz hP hD hS hret ls hl
  obtain ⟨hx, hb, hml, hown0, ha⟩ := id X
  have hown : s.vm.findClass RX6 = some m.cls := hown0
  have hK := hE.1
  have hl : lv_has ls 4 [(0, .ref h_t), (1, .int z1), (2, .int z2), (3, .int z3)] := hl
  have hX : CallFix p m c cX6_share 4 s ([.ref h_t, .int z1, .int z2, .int z3] : List Value).toArray AL RX6 := X
  have X := hX
  unfold FX6_share at hF
  obtain ⟨H, hH⟩ : ∃ H, H = s.heap := ⟨_, rfl⟩
  obtain ⟨locs, hlo⟩ : ∃ locs : List Loc, locs = [] := ⟨_, rfl⟩
  have hS : va_S A s.heap H locs := by rw [hH, hlo]; exact hS
  rw [← hH] at hP
  have goal : W p l e rmX6_share s m ([.ref h_t, .int z1, .int z2, .int z3] : List Value).toArray below meth c H locs 0 0 Q (F0 m 0 ls []) := by
    refine lv_iload_n hx hb dX6_share_0 rfl (lv_at hl 1 rfl) ?_
    have hn_1 := bdN hN hF
    refine callSZ (As := [.int z1]) (rest := []) (wr := [(h_t, .inr (6, [.ref h_told, .ref h_reader, .int v_faultNumber, .int v_faultPlace, .ref h_chosen, .ref h_tried, .ref h_byHand, .ref h_coming, .ref h_ends, .ref h_heaps, .ref h_yard, .int v_costOfKilogram])), (h_yard, .inr (5, [.int v_yard_count, .ref h_yard_sampled, .ref h_yard_towns, .ref h_yard_loads, .ref h_yard_struck, .ref h_yard_ofTowns])), (h_yard_ofTowns, .inl (cI, 25, .inl a_yard_ofTowns))]) (W2 := fun u_2 => [(h_t, .inr (6, [.ref h_told, .ref h_reader, .int v_faultNumber, .int v_faultPlace, .ref h_chosen, .ref h_tried, .ref h_byHand, .ref h_coming, .ref h_ends, .ref h_heaps, .ref h_yard, .int v_costOfKilogram])), (h_yard, .inr (5, [.int v_yard_count, .ref h_yard_sampled, .ref h_yard_towns, .ref h_yard_loads, .ref h_yard_struck, .ref h_yard_ofTowns])), (h_yard_ofTowns, .inl (cI, 25, .inl a_yard_ofTowns))]) X hE hP hD hS hA (kX6_isTown l D cB cI cJ cZ rz n H.size z1 hn_1) w_3_94 w_3_95 w_1_1 w_3_96 cb_X6_isTown rfl rfl ⟨Nat.le_of_ble_eq_true rfl, Nat.le_of_ble_eq_true rfl⟩ rfl hl.1 rfl (Nat.le_of_ble_eq_true rfl) dX6_share_1 ⟨Nat.le_of_ble_eq_true rfl, Nat.le_of_ble_eq_true rfl⟩ (c2 := 0) (s2 := 0) rfl rfl [] [0, 1, 2] [0, 1, 2] rfl rfl (by decide) (by decide) (by decide) (by decide) (fun _ => rfl) (fun u_2 H locs hG hzu_2 hP hD hS => ?_)
    replace hF := bdQ hG hF
    refine lv_if_eq (tgt := 24) hx hb dX6_share_4 (by decide) (fun c_3 => ?_) (fun c_3 => ?_)
    · replace hF := ifT c_3 hF
      refine lv_iconst (v := -1) hx hb dX6_share_24 (by decide) ?_
      exact hret ((-1 : Int32), ()) H locs ls _ hF hP hD hS dX6_share_25
    · replace hF := ifF c_3 hF
      refine lv_iload_n hx hb dX6_share_7 rfl (lv_at hl 2 rfl) ?_
      have hn_4 := bdN hN hF
      refine callSZ (As := [.int z2]) (rest := []) (wr := [(h_t, .inr (6, [.ref h_told, .ref h_reader, .int v_faultNumber, .int v_faultPlace, .ref h_chosen, .ref h_tried, .ref h_byHand, .ref h_coming, .ref h_ends, .ref h_heaps, .ref h_yard, .int v_costOfKilogram])), (h_yard, .inr (5, [.int v_yard_count, .ref h_yard_sampled, .ref h_yard_towns, .ref h_yard_loads, .ref h_yard_struck, .ref h_yard_ofTowns])), (h_yard_ofTowns, .inl (cI, 25, .inl a_yard_ofTowns))]) (W2 := fun u_5 => [(h_t, .inr (6, [.ref h_told, .ref h_reader, .int v_faultNumber, .int v_faultPlace, .ref h_chosen, .ref h_tried, .ref h_byHand, .ref h_coming, .ref h_ends, .ref h_heaps, .ref h_yard, .int v_costOfKilogram])), (h_yard, .inr (5, [.int v_yard_count, .ref h_yard_sampled, .ref h_yard_towns, .ref h_yard_loads, .ref h_yard_struck, .ref h_yard_ofTowns])), (h_yard_ofTowns, .inl (cI, 25, .inl a_yard_ofTowns))]) X hE hP hD hS hA (kX6_isKind l D cB cI cJ cZ rz n H.size z2 hn_4) w_2_171 w_2_172 w_1_1 w_2_173 cb_X6_isKind rfl rfl ⟨Nat.le_of_ble_eq_true rfl, Nat.le_of_ble_eq_true rfl⟩ rfl hl.1 rfl (Nat.le_of_ble_eq_true rfl) dX6_share_8 ⟨Nat.le_of_ble_eq_true rfl, Nat.le_of_ble_eq_true rfl⟩ (c2 := 0) (s2 := 0) rfl rfl [] [0, 1, 2] [0, 1, 2] rfl rfl (by decide) (by decide) (by decide) (by decide) (fun _ => rfl) (fun u_5 H locs hG hzu_5 hP hD hS => ?_)
      replace hF := bdQ hG hF
      refine lv_if_eq (tgt := 24) hx hb dX6_share_11 (by decide) (fun c_6 => ?_) (fun c_6 => ?_)
      · replace hF := ifT c_6 hF
        refine lv_iconst (v := -1) hx hb dX6_share_24 (by decide) ?_
        exact hret ((-1 : Int32), ()) H locs ls _ hF hP hD hS dX6_share_25
      · replace hF := ifF c_6 hF
        refine lv_iload_n hx hb dX6_share_14 rfl (lv_at hl 3 rfl) ?_
        refine lv_if_lt (tgt := 24) hx hb dX6_share_15 (by decide) (fun c_7 => ?_) (fun c_7 => ?_)
        · replace hF := ifT c_7 hF
          refine lv_iconst (v := -1) hx hb dX6_share_24 (by decide) ?_
          exact hret ((-1 : Int32), ()) H locs ls _ hF hP hD hS dX6_share_25
        · replace hF := ifF c_7 hF
          refine lv_iload_n hx hb dX6_share_18 rfl (lv_at hl 3 rfl) ?_
          refine lv_ldc hx hb hown (ha _ w_3_121) dX6_share_19 ?_
          refine lv_icmp_le (tgt := 26) hx hb dX6_share_21 (by decide) (fun c_8 => ?_) (fun c_8 => ?_)
          · replace hF := ifT c_8 hF
            refine lv_aload_n hx hb dX6_share_26 rfl (lv_at hl 0 rfl) ?_
            refine va_get (D := D) (ci := 6) (C := RX6) (T := TX6) (N := 12) hx hb ha inAX6 hown hK hP 0 rfl rfl 10 (by decide) (ha _ w_2_4) (fun _ h9 => h9) rfl dX6_share_27 ?_
            refine lv_iload_n hx hb dX6_share_30 rfl (lv_at hl 1 rfl) ?_
            refine lv_iload_n hx hb dX6_share_31 rfl (lv_at hl 2 rfl) ?_
            refine lv_iload_n hx hb dX6_share_32 rfl (lv_at hl 3 rfl) ?_
            have hn_9 := bdN hN hF
            refine callVNI (As := [.int z1, .int z2, .int z3]) (rest := []) (wr := [(h_t, .inr (6, [.ref h_told, .ref h_reader, .int v_faultNumber, .int v_faultPlace, .ref h_chosen, .ref h_tried, .ref h_byHand, .ref h_coming, .ref h_ends, .ref h_heaps, .ref h_yard, .int v_costOfKilogram]))]) (W2 := fun u_10 => [(h_t, .inr (6, [.ref h_told, .ref h_reader, .int v_faultNumber, .int v_faultPlace, .ref h_chosen, .ref h_tried, .ref h_byHand, .ref h_coming, .ref h_ends, .ref h_heaps, .ref h_yard, .int v_costOfKilogram])), (h_yard, .inr (5, [.int v_yard_count, .ref h_yard_sampled, .ref h_yard_towns, .ref h_yard_loads, .ref h_yard_struck, .ref h_yard_ofTowns])), (h_yard_ofTowns, .inl (cI, 25, .inl a_yard_ofTowns))]) X hE hP hD hS hA (kX5_shareOf l D cB cI cJ cZ rz n H.size h_yard h_yard_ofTowns h_yard_sampled h_yard_towns h_yard_loads h_yard_struck v_yard_count a_yard_ofTowns z1 z2 z3 hn_9) w_3_122 w_3_124 ws_45 w_1_7 w_3_125 cb_X5_shareOf rfl rfl ⟨Nat.le_of_ble_eq_true rfl, Nat.le_of_ble_eq_true rfl⟩ rfl hl.1 rfl (Nat.le_of_ble_eq_true rfl) dX6_share_33 ⟨Nat.le_of_ble_eq_true rfl, Nat.le_of_ble_eq_true rfl⟩ (c2 := 0) (s2 := 0) rfl rfl (k0 := 1) rfl rfl [1, 2] [0] [0, 1, 2] rfl rfl (by decide) (by decide) (by decide) (by decide) (fun _ => rfl) (fun u_10 H locs hG hP hD hS => ?_)
            replace hF := bdQ hG hF
            exact hret (u_10.1, ()) H locs ls _ hF hP hD hS dX6_share_36
          · replace hF := ifF c_8 hF
            refine lv_iconst (v := -1) hx hb dX6_share_24 (by decide) ?_
            exact hret ((-1 : Int32), ()) H locs ls _ hF hP hD hS dX6_share_25
  rw [hH, hlo] at goal
  exact goal
