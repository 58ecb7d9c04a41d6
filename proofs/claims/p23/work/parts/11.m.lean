theorem dX0_minorOf_0 : decode cX0_minorOf 0 = .ok (.lconst 0, 1) := by decide +kernel
theorem dX0_minorOf_1 : decode cX0_minorOf 1 = .ok (.lstore 4, 2) := by decide +kernel
theorem dX0_minorOf_3 : decode cX0_minorOf 3 = .ok (.lconst 1, 1) := by decide +kernel
theorem dX0_minorOf_4 : decode cX0_minorOf 4 = .ok (.lstore 6, 2) := by decide +kernel
theorem dX0_minorOf_6 : decode cX0_minorOf 6 = .ok (.iload_n 3, 1) := by decide +kernel
theorem dX0_minorOf_7 : decode cX0_minorOf 7 = .ok (.iconst 1, 1) := by decide +kernel
theorem dX0_minorOf_8 : decode cX0_minorOf 8 = .ok (.isub, 1) := by decide +kernel
theorem dX0_minorOf_9 : decode cX0_minorOf 9 = .ok (.istore 8, 2) := by decide +kernel
theorem dX0_minorOf_11 : decode cX0_minorOf 11 = .ok (.iload 8, 2) := by decide +kernel
theorem dX0_minorOf_13 : decode cX0_minorOf 13 = .ok (.ifCond .lt 57, 3) := by decide +kernel
theorem dX0_minorOf_16 : decode cX0_minorOf 16 = .ok (.iconst 1, 1) := by decide +kernel
theorem dX0_minorOf_17 : decode cX0_minorOf 17 = .ok (.iload 8, 2) := by decide +kernel
theorem dX0_minorOf_19 : decode cX0_minorOf 19 = .ok (.ishl, 1) := by decide +kernel
theorem dX0_minorOf_20 : decode cX0_minorOf 20 = .ok (.istore 9, 2) := by decide +kernel
theorem dX0_minorOf_22 : decode cX0_minorOf 22 = .ok (.iload_n 1, 1) := by decide +kernel
theorem dX0_minorOf_23 : decode cX0_minorOf 23 = .ok (.iload 9, 2) := by decide +kernel
theorem dX0_minorOf_25 : decode cX0_minorOf 25 = .ok (.iand, 1) := by decide +kernel
theorem dX0_minorOf_26 : decode cX0_minorOf 26 = .ok (.ifCond .eq 38, 3) := by decide +kernel
theorem dX0_minorOf_29 : decode cX0_minorOf 29 = .ok (.lload 4, 2) := by decide +kernel
theorem dX0_minorOf_31 : decode cX0_minorOf 31 = .ok (.lload 6, 2) := by decide +kernel
theorem dX0_minorOf_33 : decode cX0_minorOf 33 = .ok (.aload_n 0, 1) := by decide +kernel
theorem dX0_minorOf_34 : decode cX0_minorOf 34 = .ok (.getfield 15, 3) := by decide +kernel
theorem dX0_minorOf_37 : decode cX0_minorOf 37 = .ok (.iload 8, 2) := by decide +kernel
theorem dX0_minorOf_39 : decode cX0_minorOf 39 = .ok (.iconst 5, 1) := by decide +kernel
theorem dX0_minorOf_40 : decode cX0_minorOf 40 = .ok (.imul, 1) := by decide +kernel
theorem dX0_minorOf_41 : decode cX0_minorOf 41 = .ok (.iload_n 2, 1) := by decide +kernel
theorem dX0_minorOf_42 : decode cX0_minorOf 42 = .ok (.iadd, 1) := by decide +kernel
theorem dX0_minorOf_43 : decode cX0_minorOf 43 = .ok (.iaload, 1) := by decide +kernel
theorem dX0_minorOf_44 : decode cX0_minorOf 44 = .ok (.i2l, 1) := by decide +kernel
theorem dX0_minorOf_45 : decode cX0_minorOf 45 = .ok (.lmul, 1) := by decide +kernel
theorem dX0_minorOf_46 : decode cX0_minorOf 46 = .ok (.aload_n 0, 1) := by decide +kernel
theorem dX0_minorOf_47 : decode cX0_minorOf 47 = .ok (.getfield 22, 3) := by decide +kernel
theorem dX0_minorOf_50 : decode cX0_minorOf 50 = .ok (.iload_n 1, 1) := by decide +kernel
theorem dX0_minorOf_51 : decode cX0_minorOf 51 = .ok (.iload 9, 2) := by decide +kernel
theorem dX0_minorOf_53 : decode cX0_minorOf 53 = .ok (.isub, 1) := by decide +kernel
theorem dX0_minorOf_54 : decode cX0_minorOf 54 = .ok (.laload, 1) := by decide +kernel
theorem dX0_minorOf_55 : decode cX0_minorOf 55 = .ok (.lmul, 1) := by decide +kernel
theorem dX0_minorOf_56 : decode cX0_minorOf 56 = .ok (.ladd, 1) := by decide +kernel
theorem dX0_minorOf_57 : decode cX0_minorOf 57 = .ok (.lstore 4, 2) := by decide +kernel
theorem dX0_minorOf_59 : decode cX0_minorOf 59 = .ok (.lload 6, 2) := by decide +kernel
theorem dX0_minorOf_61 : decode cX0_minorOf 61 = .ok (.lneg, 1) := by decide +kernel
theorem dX0_minorOf_62 : decode cX0_minorOf 62 = .ok (.lstore 6, 2) := by decide +kernel
theorem dX0_minorOf_64 : decode cX0_minorOf 64 = .ok (.iinc 8 (-1), 3) := by decide +kernel
theorem dX0_minorOf_67 : decode cX0_minorOf 67 = .ok (.goto (-56), 3) := by decide +kernel
theorem dX0_minorOf_70 : decode cX0_minorOf 70 = .ok (.lload 4, 2) := by decide +kernel
theorem dX0_minorOf_72 : decode cX0_minorOf 72 = .ok (.lreturn, 1) := by decide +kernel
abbrev rmX0_minorOf : Room := { frames := 0, cells := 0, slots := 0, locals := 0 }
theorem cb_X0_minorOf : CBn yX0_minorOf 3 := ⟨by decide +kernel, by decide +kernel, by decide +kernel⟩
def FX0_minorOf_64 (n : Nat) (a_rows : Nat → Int32) (a_minors : Nat → Int64) (z1 : Int32) (z2 : Int32) (z3 : Int32) (k11 : Int32 → Int32 → Int64 → Int64 → Int32 → Option (Int64 × Unit)) (x1 : Int32) (x2 : Int32) (x4 : Int64) (x6 : Int64) (x8 : Int32) : Option (Int64 × Unit) := lt1 (x8 + (-1 : Int32)) (fun x_9 => k11 x1 x2 x4 x6 x_9)
def FX0_minorOf_11 (n : Nat) (a_rows : Nat → Int32) (a_minors : Nat → Int64) (z1 : Int32) (z2 : Int32) (z3 : Int32) (k11 : Int32 → Int32 → Int64 → Int64 → Int32 → Option (Int64 × Unit)) (x1 : Int32) (x2 : Int32) (x4 : Int64) (x6 : Int64) (x8 : Int32) : Option (Int64 × Unit) := if x8 < 0 then (some (x4, ())) else (lt1 ((1 : Int32) <<< (x8 &&& 31)) (fun x_3 => if (x1 &&& x_3) = 0 then (FX0_minorOf_64 n a_rows a_minors z1 z2 z3 k11 x1 x2 x4 x6 x8) else (if ¬ (((x8 * (5 : Int32)) + x2) < 0 ∨ 25 ≤ (((x8 * (5 : Int32)) + x2)).toNatClampNeg) then (if ¬ ((x1 - x_3) < 0 ∨ 32 ≤ ((x1 - x_3)).toNatClampNeg) then (lt1 (x4 + ((x6 * ((a_rows (((x8 * (5 : Int32)) + x2)).toNatClampNeg)).toInt64) * (a_minors ((x1 - x_3)).toNatClampNeg))) (fun x_7 => lt1 (-x6) (fun x_8 => FX0_minorOf_64 n a_rows a_minors z1 z2 z3 k11 x1 x2 x_7 x_8 x8))) else none) else none)))
def FX0_minorOf_11L (n : Nat) (a_rows : Nat → Int32) (a_minors : Nat → Int64) (z1 : Int32) (z2 : Int32) (z3 : Int32) (j : Nat) : Int32 → Int32 → Int64 → Int64 → Int32 → Option (Int64 × Unit) := lpR (FX0_minorOf_11 n a_rows a_minors z1 z2 z3) (fun _ _ _ _ _ => none) j
def FX0_minorOf (n : Nat) (a_rows : Nat → Int32) (a_minors : Nat → Int64) (z1 : Int32) (z2 : Int32) (z3 : Int32) : Option (Int64 × Unit) := lt1 (z3 - (1 : Int32)) (fun x_1 => FX0_minorOf_11L n a_rows a_minors z1 z2 z3 n z1 z2 (0 : Int64) (1 : Int64) x_1)
set_option maxHeartbeats 4000000 in
set_option maxRecDepth 100000 in
theorem kX0_minorOf (l : Launch) (D : va_G) (cB cI cJ cZ : ClassId) (rz n sz : Nat) (h_t : Nat) (h_rows : Nat) (h_minors : Nat) (h_parts : Nat) (h_outs : Nat) (v_wholeOfAll : Int64) (a_rows : Nat → Int32) (a_minors : Nat → Int64) (z1 : Int32) (z2 : Int32) (z3 : Int32) (hN : FX0_minorOf n a_rows a_minors z1 z2 z3 ≠ none) : Met l yX0_minorOf (Cond.code yX0_minorOf cX0_minorOf 10 (some .long) :: AL) rmX0_minorOf (PW D cB cI cJ cZ rz [.ref h_t, .int z1, .int z2, .int z3] [(h_t, .inr (0, [.long v_wholeOfAll, .ref h_parts, .ref h_rows, .ref h_outs, .ref h_minors])), (h_rows, .inl (cI, 25, .inl a_rows)), (h_minors, .inl (cJ, 32, .inr (.inl a_minors)))] sz) (QJ D (FX0_minorOf n a_rows a_minors z1 z2 z3) (fun u => [(h_t, .inr (0, [.long v_wholeOfAll, .ref h_parts, .ref h_rows, .ref h_outs, .ref h_minors])), (h_rows, .inl (cI, 25, .inl a_rows)), (h_minors, .inl (cJ, 32, .inr (.inl a_minors)))]) (va_A [(h_t, .inr (0, [.long v_wholeOfAll, .ref h_parts, .ref h_rows, .ref h_outs, .ref h_minors])), (h_rows, .inl (cI, 25, .inl a_rows)), (h_minors, .inl (cJ, 32, .inr (.inl a_minors)))] sz)) 0 0 (va_A [(h_t, .inr (0, [.long v_wholeOfAll, .ref h_parts, .ref h_rows, .ref h_outs, .ref h_minors])), (h_rows, .inl (cI, 25, .inl a_rows)), (h_minors, .inl (cJ, 32, .inr (.inl a_minors)))] sz) := by
  obtain ⟨O, hF⟩ : ∃ O, FX0_minorOf n a_rows a_minors z1 z2 z3 = O := ⟨_, rfl⟩
  rw [hF] at hN ⊢
  refine enterJ (cc := cX0_minorOf) (nL := 10) (by decide) (Nat.le_of_ble_eq_true rfl) ?_
  intro p e s m below meth c A Q X hA hE hnm hsz hP hD hS hret ls hl
  obtain ⟨hx, hb, hml, hown0, ha⟩ := id X
  have hown : s.vm.findClass RX0 = some m.cls := hown0
  have hK := hE.1
  have hl : lv_has ls 10 [(0, .ref h_t), (1, .int z1), (2, .int z2), (3, .int z3)] := hl
  have hX : CallFix p m c cX0_minorOf 10 s ([.ref h_t, .int z1, .int z2, .int z3] : List Value).toArray AL RX0 := X
  have X := hX
  have L64 : ∀ (k11 : Int32 → Int32 → Int64 → Int64 → Int32 → Option (Int64 × Unit)) (ih11 : ∀ (x1 : Int32) (x2 : Int32) (x4 : Int64) (x6 : Int64) (x8 : Int32) (H : Heap) (locs : List Loc) (ls : Array Slot), k11 x1 x2 x4 x6 x8 = O → va_P D classes [(h_t, .inr (0, [.long v_wholeOfAll, .ref h_parts, .ref h_rows, .ref h_outs, .ref h_minors])), (h_rows, .inl (cI, 25, .inl a_rows)), (h_minors, .inl (cJ, 32, .inr (.inl a_minors)))] H → va_D A [(h_t, .inr (0, [.long v_wholeOfAll, .ref h_parts, .ref h_rows, .ref h_outs, .ref h_minors])), (h_rows, .inl (cI, 25, .inl a_rows)), (h_minors, .inl (cJ, 32, .inr (.inl a_minors)))] → va_S A s.heap H locs → lv_has ls 10 [(0, .ref h_t), (1, .int x1), (2, .int x2), (4, .long x4), (6, .long x6), (8, .int x8)] → W p l e rmX0_minorOf s m ([.ref h_t, .int z1, .int z2, .int z3] : List Value).toArray below meth c H locs 0 0 Q (F0 m 11 ls [])), ∀ (x1 : Int32) (x2 : Int32) (x4 : Int64) (x6 : Int64) (x8 : Int32) (H : Heap) (locs : List Loc) (ls : Array Slot), FX0_minorOf_64 n a_rows a_minors z1 z2 z3 k11 x1 x2 x4 x6 x8 = O → va_P D classes [(h_t, .inr (0, [.long v_wholeOfAll, .ref h_parts, .ref h_rows, .ref h_outs, .ref h_minors])), (h_rows, .inl (cI, 25, .inl a_rows)), (h_minors, .inl (cJ, 32, .inr (.inl a_minors)))] H → va_D A [(h_t, .inr (0, [.long v_wholeOfAll, .ref h_parts, .ref h_rows, .ref h_outs, .ref h_minors])), (h_rows, .inl (cI, 25, .inl a_rows)), (h_minors, .inl (cJ, 32, .inr (.inl a_minors)))] → va_S A s.heap H locs → lv_has ls 10 [(0, .ref h_t), (1, .int x1), (2, .int x2), (4, .long x4), (6, .long x6), (8, .int x8)] → W p l e rmX0_minorOf s m ([.ref h_t, .int z1, .int z2, .int z3] : List Value).toArray below meth c H locs 0 0 Q (F0 m 64 ls []) := by
    intro k11 ih11 x1 x2 x4 x6 x8 H locs ls hF hP hD hS hl
    unfold FX0_minorOf_64 at hF
    obtain ⟨x_9, ex_9⟩ : ∃ y : Int32, y = x8 + (-1 : Int32) := ⟨_, rfl⟩
    replace hF := ltP ex_9 hF
    refine lv_iinc (v := x_9) (lv' := [(8, .int x_9), (0, .ref h_t), (1, .int x1), (2, .int x2), (4, .long x4), (6, .long x6)]) hx hb dX0_minorOf_64 hl (k := 5) rfl (by rw [ex_9]; rfl) (by decide) rfl (fun ls hl => ?_)
    refine lv_goto (tgt := 11) hx hb dX0_minorOf_67 (by decide) ?_
    exact ih11 x1 x2 x4 x6 x_9 H locs ls hF hP hD hS (lv_sub hl [1, 2, 3, 4, 5, 0] rfl)
  have L11 : ∀ (k11 : Int32 → Int32 → Int64 → Int64 → Int32 → Option (Int64 × Unit)) (ih11 : ∀ (x1 : Int32) (x2 : Int32) (x4 : Int64) (x6 : Int64) (x8 : Int32) (H : Heap) (locs : List Loc) (ls : Array Slot), k11 x1 x2 x4 x6 x8 = O → va_P D classes [(h_t, .inr (0, [.long v_wholeOfAll, .ref h_parts, .ref h_rows, .ref h_outs, .ref h_minors])), (h_rows, .inl (cI, 25, .inl a_rows)), (h_minors, .inl (cJ, 32, .inr (.inl a_minors)))] H → va_D A [(h_t, .inr (0, [.long v_wholeOfAll, .ref h_parts, .ref h_rows, .ref h_outs, .ref h_minors])), (h_rows, .inl (cI, 25, .inl a_rows)), (h_minors, .inl (cJ, 32, .inr (.inl a_minors)))] → va_S A s.heap H locs → lv_has ls 10 [(0, .ref h_t), (1, .int x1), (2, .int x2), (4, .long x4), (6, .long x6), (8, .int x8)] → W p l e rmX0_minorOf s m ([.ref h_t, .int z1, .int z2, .int z3] : List Value).toArray below meth c H locs 0 0 Q (F0 m 11 ls [])), ∀ (x1 : Int32) (x2 : Int32) (x4 : Int64) (x6 : Int64) (x8 : Int32) (H : Heap) (locs : List Loc) (ls : Array Slot), FX0_minorOf_11 n a_rows a_minors z1 z2 z3 k11 x1 x2 x4 x6 x8 = O → va_P D classes [(h_t, .inr (0, [.long v_wholeOfAll, .ref h_parts, .ref h_rows, .ref h_outs, .ref h_minors])), (h_rows, .inl (cI, 25, .inl a_rows)), (h_minors, .inl (cJ, 32, .inr (.inl a_minors)))] H → va_D A [(h_t, .inr (0, [.long v_wholeOfAll, .ref h_parts, .ref h_rows, .ref h_outs, .ref h_minors])), (h_rows, .inl (cI, 25, .inl a_rows)), (h_minors, .inl (cJ, 32, .inr (.inl a_minors)))] → va_S A s.heap H locs → lv_has ls 10 [(0, .ref h_t), (1, .int x1), (2, .int x2), (4, .long x4), (6, .long x6), (8, .int x8)] → W p l e rmX0_minorOf s m ([.ref h_t, .int z1, .int z2, .int z3] : List Value).toArray below meth c H locs 0 0 Q (F0 m 11 ls []) := by
    intro k11 ih11 x1 x2 x4 x6 x8 H locs ls hF hP hD hS hl
    unfold FX0_minorOf_11 at hF
    refine lv_iload hx hb dX0_minorOf_11 (lv_at hl 5 rfl) ?_
    refine lv_if_lt (tgt := 70) hx hb dX0_minorOf_13 (by decide) (fun c_2 => ?_) (fun c_2 => ?_)
    · replace hF := ifT c_2 hF
      refine lv_lload hx hb dX0_minorOf_70 (lv_at hl 3 rfl) ?_
      exact hret (x4, ()) H locs ls _ hF hP hD hS dX0_minorOf_72
    · replace hF := ifF c_2 hF
      refine lv_iconst (v := 1) hx hb dX0_minorOf_16 (by decide) ?_
      refine lv_iload hx hb dX0_minorOf_17 (lv_at hl 5 rfl) ?_
      refine lv_ishl hx hb dX0_minorOf_19 ?_
      refine lv_topi (fun x_3 ex_3 => ?_)
      replace hF := ltP ex_3 hF
      refine lv_istore (lv' := [(9, .int x_3), (0, .ref h_t), (1, .int x1), (2, .int x2), (4, .long x4), (6, .long x6), (8, .int x8)]) hx hb dX0_minorOf_20 hl (by decide) rfl (fun ls hl => ?_)
      refine lv_iload_n hx hb dX0_minorOf_22 rfl (lv_at hl 2 rfl) ?_
      refine lv_iload hx hb dX0_minorOf_23 (lv_at hl 0 rfl) ?_
      refine lv_iand hx hb dX0_minorOf_25 ?_
      refine lv_if_eq (tgt := 64) hx hb dX0_minorOf_26 (by decide) (fun c_4 => ?_) (fun c_4 => ?_)
      · replace hF := ifT c_4 hF
        exact L64 k11 ih11 x1 x2 x4 x6 x8 H locs ls hF hP hD hS (lv_sub hl [1, 2, 3, 4, 5, 6] rfl)
      · replace hF := ifF c_4 hF
        refine lv_lload hx hb dX0_minorOf_29 (lv_at hl 4 rfl) ?_
        refine lv_lload hx hb dX0_minorOf_31 (lv_at hl 5 rfl) ?_
        refine lv_aload_n hx hb dX0_minorOf_33 rfl (lv_at hl 1 rfl) ?_
        refine va_get (D := D) (ci := 0) (C := RX0) (T := TX0) (N := 5) hx hb ha inAX0 hown hK hP 0 rfl rfl 2 (by decide) (ha _ w_1_174) (fun _ h9 => h9) rfl dX0_minorOf_34 ?_
        refine lv_iload hx hb dX0_minorOf_37 (lv_at hl 6 rfl) ?_
        refine lv_iconst (v := 5) hx hb dX0_minorOf_39 (by decide) ?_
        refine lv_imul hx hb dX0_minorOf_40 ?_
        refine lv_iload_n hx hb dX0_minorOf_41 rfl (lv_at hl 3 rfl) ?_
        refine lv_iadd hx hb dX0_minorOf_42 ?_
        replace hF := ckP hN hF
        obtain ⟨c_5, hF⟩ := hF
        refine ld_i hx hb hK hP 1 rfl c_5 dX0_minorOf_43 ?_
        refine lv_i2l hx hb dX0_minorOf_44 rfl ?_
        refine lv_lmul hx hb dX0_minorOf_45 ?_
        refine lv_aload_n hx hb dX0_minorOf_46 rfl (lv_at hl 1 rfl) ?_
        refine va_get (D := D) (ci := 0) (C := RX0) (T := TX0) (N := 5) hx hb ha inAX0 hown hK hP 0 rfl rfl 4 (by decide) (ha _ w_1_176) (fun _ h9 => h9) rfl dX0_minorOf_47 ?_
        refine lv_iload_n hx hb dX0_minorOf_50 rfl (lv_at hl 2 rfl) ?_
        refine lv_iload hx hb dX0_minorOf_51 (lv_at hl 0 rfl) ?_
        refine lv_isub hx hb dX0_minorOf_53 ?_
        replace hF := ckP hN hF
        obtain ⟨c_6, hF⟩ := hF
        refine ld_l hx hb hK hP 2 rfl c_6 dX0_minorOf_54 ?_
        refine lv_lmul hx hb dX0_minorOf_55 ?_
        refine lv_ladd hx hb dX0_minorOf_56 ?_
        refine lv_topl (fun x_7 ex_7 => ?_)
        replace hF := ltP ex_7 hF
        refine lv_lstore (lv' := [(4, .long x_7), (9, .int x_3), (0, .ref h_t), (1, .int x1), (2, .int x2), (6, .long x6), (8, .int x8)]) hx hb dX0_minorOf_57 hl (by decide) rfl (fun ls hl => ?_)
        refine lv_lload hx hb dX0_minorOf_59 (lv_at hl 5 rfl) ?_
        refine lv_lneg hx hb dX0_minorOf_61 ?_
        refine lv_topl (fun x_8 ex_8 => ?_)
        replace hF := ltP ex_8 hF
        refine lv_lstore (lv' := [(6, .long x_8), (4, .long x_7), (9, .int x_3), (0, .ref h_t), (1, .int x1), (2, .int x2), (8, .int x8)]) hx hb dX0_minorOf_62 hl (by decide) rfl (fun ls hl => ?_)
        exact L64 k11 ih11 x1 x2 x_7 x_8 x8 H locs ls hF hP hD hS (lv_sub hl [3, 4, 5, 1, 0, 6] rfl)
  have Lc11 : ∀ (j : Nat), ∀ (x1 : Int32) (x2 : Int32) (x4 : Int64) (x6 : Int64) (x8 : Int32) (H : Heap) (locs : List Loc) (ls : Array Slot), FX0_minorOf_11L n a_rows a_minors z1 z2 z3 j x1 x2 x4 x6 x8 = O → va_P D classes [(h_t, .inr (0, [.long v_wholeOfAll, .ref h_parts, .ref h_rows, .ref h_outs, .ref h_minors])), (h_rows, .inl (cI, 25, .inl a_rows)), (h_minors, .inl (cJ, 32, .inr (.inl a_minors)))] H → va_D A [(h_t, .inr (0, [.long v_wholeOfAll, .ref h_parts, .ref h_rows, .ref h_outs, .ref h_minors])), (h_rows, .inl (cI, 25, .inl a_rows)), (h_minors, .inl (cJ, 32, .inr (.inl a_minors)))] → va_S A s.heap H locs → lv_has ls 10 [(0, .ref h_t), (1, .int x1), (2, .int x2), (4, .long x4), (6, .long x6), (8, .int x8)] → W p l e rmX0_minorOf s m ([.ref h_t, .int z1, .int z2, .int z3] : List Value).toArray below meth c H locs 0 0 Q (F0 m 11 ls []) := by
    intro j
    induction j with
    | zero => intro _ _ _ _ _ H locs ls hF; exact absurd hF.symm hN
    | succ j ih => exact L11 (FX0_minorOf_11L n a_rows a_minors z1 z2 z3 j) ih
  unfold FX0_minorOf at hF
  obtain ⟨H, hH⟩ : ∃ H, H = s.heap := ⟨_, rfl⟩
  obtain ⟨locs, hlo⟩ : ∃ locs : List Loc, locs = [] := ⟨_, rfl⟩
  have hS : va_S A s.heap H locs := by rw [hH, hlo]; exact hS
  rw [← hH] at hP
  have goal : W p l e rmX0_minorOf s m ([.ref h_t, .int z1, .int z2, .int z3] : List Value).toArray below meth c H locs 0 0 Q (F0 m 0 ls []) := by
    refine lv_lconst (v := 0) hx hb dX0_minorOf_0 (by decide) ?_
    refine lv_lstore (lv' := [(4, .long (0 : Int64)), (0, .ref h_t), (1, .int z1), (2, .int z2), (3, .int z3)]) hx hb dX0_minorOf_1 hl (by decide) rfl (fun ls hl => ?_)
    refine lv_lconst (v := 1) hx hb dX0_minorOf_3 (by decide) ?_
    refine lv_lstore (lv' := [(6, .long (1 : Int64)), (4, .long (0 : Int64)), (0, .ref h_t), (1, .int z1), (2, .int z2), (3, .int z3)]) hx hb dX0_minorOf_4 hl (by decide) rfl (fun ls hl => ?_)
    refine lv_iload_n hx hb dX0_minorOf_6 rfl (lv_at hl 5 rfl) ?_
    refine lv_iconst (v := 1) hx hb dX0_minorOf_7 (by decide) ?_
    refine lv_isub hx hb dX0_minorOf_8 ?_
    refine lv_topi (fun x_1 ex_1 => ?_)
    replace hF := ltP ex_1 hF
    refine lv_istore (lv' := [(8, .int x_1), (6, .long (1 : Int64)), (4, .long (0 : Int64)), (0, .ref h_t), (1, .int z1), (2, .int z2), (3, .int z3)]) hx hb dX0_minorOf_9 hl (by decide) rfl (fun ls hl => ?_)
    exact Lc11 n z1 z2 (0 : Int64) (1 : Int64) x_1 H locs ls hF hP hD hS (lv_sub hl [3, 4, 5, 2, 1, 0] rfl)
  rw [hH, hlo] at goal
  exact goal
theorem dX0_findMinors_0 : decode cX0_findMinors 0 = .ok (.iconst 1, 1) := by decide +kernel
theorem dX0_findMinors_1 : decode cX0_findMinors 1 = .ok (.iload_n 1, 1) := by decide +kernel
theorem dX0_findMinors_2 : decode cX0_findMinors 2 = .ok (.ishl, 1) := by decide +kernel
theorem dX0_findMinors_3 : decode cX0_findMinors 3 = .ok (.iconst 1, 1) := by decide +kernel
theorem dX0_findMinors_4 : decode cX0_findMinors 4 = .ok (.isub, 1) := by decide +kernel
theorem dX0_findMinors_5 : decode cX0_findMinors 5 = .ok (.istore_n 2, 1) := by decide +kernel
theorem dX0_findMinors_6 : decode cX0_findMinors 6 = .ok (.aload_n 0, 1) := by decide +kernel
theorem dX0_findMinors_7 : decode cX0_findMinors 7 = .ok (.getfield 22, 3) := by decide +kernel
theorem dX0_findMinors_10 : decode cX0_findMinors 10 = .ok (.iconst 0, 1) := by decide +kernel
theorem dX0_findMinors_11 : decode cX0_findMinors 11 = .ok (.lconst 1, 1) := by decide +kernel
theorem dX0_findMinors_12 : decode cX0_findMinors 12 = .ok (.lastore, 1) := by decide +kernel
theorem dX0_findMinors_13 : decode cX0_findMinors 13 = .ok (.iconst 1, 1) := by decide +kernel
theorem dX0_findMinors_14 : decode cX0_findMinors 14 = .ok (.istore_n 3, 1) := by decide +kernel
theorem dX0_findMinors_15 : decode cX0_findMinors 15 = .ok (.iload_n 3, 1) := by decide +kernel
theorem dX0_findMinors_16 : decode cX0_findMinors 16 = .ok (.iload_n 2, 1) := by decide +kernel
theorem dX0_findMinors_17 : decode cX0_findMinors 17 = .ok (.if_icmp .ge 25, 3) := by decide +kernel
theorem dX0_findMinors_20 : decode cX0_findMinors 20 = .ok (.aload_n 0, 1) := by decide +kernel
theorem dX0_findMinors_21 : decode cX0_findMinors 21 = .ok (.getfield 22, 3) := by decide +kernel
theorem dX0_findMinors_24 : decode cX0_findMinors 24 = .ok (.iload_n 3, 1) := by decide +kernel
theorem dX0_findMinors_25 : decode cX0_findMinors 25 = .ok (.aload_n 0, 1) := by decide +kernel
theorem dX0_findMinors_26 : decode cX0_findMinors 26 = .ok (.iload_n 3, 1) := by decide +kernel
theorem dX0_findMinors_27 : decode cX0_findMinors 27 = .ok (.iload_n 3, 1) := by decide +kernel
theorem dX0_findMinors_28 : decode cX0_findMinors 28 = .ok (.invokestatic 70, 3) := by decide +kernel
theorem dX0_findMinors_31 : decode cX0_findMinors 31 = .ok (.iload_n 1, 1) := by decide +kernel
theorem dX0_findMinors_32 : decode cX0_findMinors 32 = .ok (.invokevirtual 76, 3) := by decide +kernel
theorem dX0_findMinors_35 : decode cX0_findMinors 35 = .ok (.lastore, 1) := by decide +kernel
theorem dX0_findMinors_36 : decode cX0_findMinors 36 = .ok (.iinc 3 1, 3) := by decide +kernel
theorem dX0_findMinors_39 : decode cX0_findMinors 39 = .ok (.goto (-24), 3) := by decide +kernel
theorem dX0_findMinors_42 : decode cX0_findMinors 42 = .ok (.return_, 1) := by decide +kernel
abbrev rmX0_findMinors : Room := { frames := 1, cells := 0, slots := 0, locals := 29 }
theorem cb_X0_findMinors : CBn yX0_findMinors 1 := ⟨by decide +kernel, by decide +kernel, by decide +kernel⟩
def FX0_findMinors_15 (n : Nat) (a_rows : Nat → Int32) (z1 : Int32) (k15 : (Nat → Int64) → Int32 → Int32 → Int32 → Option (Unit × (Nat → Int64))) (a_minors : Nat → Int64) (x1 : Int32) (x2 : Int32) (x3 : Int32) : Option (Unit × (Nat → Int64)) := if x2 ≤ x3 then (some ((), a_minors)) else (bd (FJ6_bitCount_0f7a4 n x3) (fun u_6 => bd (FX0_minorOf n a_rows a_minors x3 u_6.1 x1) (fun u_8 => if ¬ (x3 < 0 ∨ 32 ≤ (x3).toNatClampNeg) then (lt1 (vp_updL a_minors (x3).toNatClampNeg u_8.1) (fun f_10 => lt1 (x3 + (1 : Int32)) (fun x_11 => k15 f_10 x1 x2 x_11))) else none)))
def FX0_findMinors_15L (n : Nat) (a_rows : Nat → Int32) (z1 : Int32) (j : Nat) : (Nat → Int64) → Int32 → Int32 → Int32 → Option (Unit × (Nat → Int64)) := lpR (FX0_findMinors_15 n a_rows z1) (fun _ _ _ _ => none) j
def FX0_findMinors (n : Nat) (a_minors : Nat → Int64) (a_rows : Nat → Int32) (z1 : Int32) : Option (Unit × (Nat → Int64)) := lt1 (((1 : Int32) <<< (z1 &&& 31)) - (1 : Int32)) (fun x_1 => if ¬ ((0 : Int32) < 0 ∨ 32 ≤ ((0 : Int32)).toNatClampNeg) then (lt1 (vp_updL a_minors ((0 : Int32)).toNatClampNeg (1 : Int64)) (fun f_3 => FX0_findMinors_15L n a_rows z1 n f_3 z1 x_1 (1 : Int32))) else none)
set_option maxHeartbeats 4000000 in
set_option maxRecDepth 100000 in
theorem kX0_findMinors (l : Launch) (D : va_G) (cB cI cJ cZ : ClassId) (rz n sz : Nat) (h_t : Nat) (h_minors : Nat) (h_rows : Nat) (h_parts : Nat) (h_outs : Nat) (v_wholeOfAll : Int64) (a_minors : Nat → Int64) (a_rows : Nat → Int32) (z1 : Int32) (hN : FX0_findMinors n a_minors a_rows z1 ≠ none) : Met l yX0_findMinors (Cond.code yX0_findMinors cX0_findMinors 4 none :: AL) rmX0_findMinors (PW D cB cI cJ cZ rz [.ref h_t, .int z1] [(h_t, .inr (0, [.long v_wholeOfAll, .ref h_parts, .ref h_rows, .ref h_outs, .ref h_minors])), (h_minors, .inl (cJ, 32, .inr (.inl a_minors))), (h_rows, .inl (cI, 25, .inl a_rows))] sz) (QV D (FX0_findMinors n a_minors a_rows z1) (fun u => [(h_t, .inr (0, [.long v_wholeOfAll, .ref h_parts, .ref h_rows, .ref h_outs, .ref h_minors])), (h_minors, .inl (cJ, 32, .inr (.inl u.2))), (h_rows, .inl (cI, 25, .inl a_rows))]) (va_A [(h_t, .inr (0, [.long v_wholeOfAll, .ref h_parts, .ref h_rows, .ref h_outs, .ref h_minors])), (h_minors, .inl (cJ, 32, .inr (.inl a_minors))), (h_rows, .inl (cI, 25, .inl a_rows))] sz)) 0 0 (va_A [(h_t, .inr (0, [.long v_wholeOfAll, .ref h_parts, .ref h_rows, .ref h_outs, .ref h_minors])), (h_minors, .inl (cJ, 32, .inr (.inl a_minors))), (h_rows, .inl (cI, 25, .inl a_rows))] sz) := by
  obtain ⟨O, hF⟩ : ∃ O, FX0_findMinors n a_minors a_rows z1 = O := ⟨_, rfl⟩
  rw [hF] at hN ⊢
  refine enterV (cc := cX0_findMinors) (nL := 4) (by decide) (Nat.le_of_ble_eq_true rfl) ?_
  intro p e s m below meth c A Q X hA hE hnm hsz hP hD hS hret ls hl
  obtain ⟨hx, hb, hml, hown0, ha⟩ := id X
  have hown : s.vm.findClass RX0 = some m.cls := hown0
  have hK := hE.1
  have hl : lv_has ls 4 [(0, .ref h_t), (1, .int z1)] := hl
  have hX : CallFix p m c cX0_findMinors 4 s ([.ref h_t, .int z1] : List Value).toArray AL RX0 := X
  have X := hX
  have L15 : ∀ (k15 : (Nat → Int64) → Int32 → Int32 → Int32 → Option (Unit × (Nat → Int64))) (ih15 : ∀ (a_minors : Nat → Int64) (x1 : Int32) (x2 : Int32) (x3 : Int32) (H : Heap) (locs : List Loc) (ls : Array Slot), k15 a_minors x1 x2 x3 = O → va_P D classes [(h_t, .inr (0, [.long v_wholeOfAll, .ref h_parts, .ref h_rows, .ref h_outs, .ref h_minors])), (h_minors, .inl (cJ, 32, .inr (.inl a_minors))), (h_rows, .inl (cI, 25, .inl a_rows))] H → va_D A [(h_t, .inr (0, [.long v_wholeOfAll, .ref h_parts, .ref h_rows, .ref h_outs, .ref h_minors])), (h_minors, .inl (cJ, 32, .inr (.inl a_minors))), (h_rows, .inl (cI, 25, .inl a_rows))] → va_S A s.heap H locs → lv_has ls 4 [(0, .ref h_t), (1, .int x1), (2, .int x2), (3, .int x3)] → W p l e rmX0_findMinors s m ([.ref h_t, .int z1] : List Value).toArray below meth c H locs 0 0 Q (F0 m 15 ls [])), ∀ (a_minors : Nat → Int64) (x1 : Int32) (x2 : Int32) (x3 : Int32) (H : Heap) (locs : List Loc) (ls : Array Slot), FX0_findMinors_15 n a_rows z1 k15 a_minors x1 x2 x3 = O → va_P D classes [(h_t, .inr (0, [.long v_wholeOfAll, .ref h_parts, .ref h_rows, .ref h_outs, .ref h_minors])), (h_minors, .inl (cJ, 32, .inr (.inl a_minors))), (h_rows, .inl (cI, 25, .inl a_rows))] H → va_D A [(h_t, .inr (0, [.long v_wholeOfAll, .ref h_parts, .ref h_rows, .ref h_outs, .ref h_minors])), (h_minors, .inl (cJ, 32, .inr (.inl a_minors))), (h_rows, .inl (cI, 25, .inl a_rows))] → va_S A s.heap H locs → lv_has ls 4 [(0, .ref h_t), (1, .int x1), (2, .int x2), (3, .int x3)] → W p l e rmX0_findMinors s m ([.ref h_t, .int z1] : List Value).toArray below meth c H locs 0 0 Q (F0 m 15 ls []) := by
    intro k15 ih15 a_minors x1 x2 x3 H locs ls hF hP hD hS hl
    unfold FX0_findMinors_15 at hF
    refine lv_iload_n hx hb dX0_findMinors_15 rfl (lv_at hl 3 rfl) ?_
    refine lv_iload_n hx hb dX0_findMinors_16 rfl (lv_at hl 2 rfl) ?_
    refine lv_icmp_ge (tgt := 42) hx hb dX0_findMinors_17 (by decide) (fun c_4 => ?_) (fun c_4 => ?_)
    · replace hF := ifT c_4 hF
      exact hret ((), a_minors) H locs ls _ hF hP hD hS dX0_findMinors_42
    · replace hF := ifF c_4 hF
      refine lv_aload_n hx hb dX0_findMinors_20 rfl (lv_at hl 0 rfl) ?_
      refine va_get (D := D) (ci := 0) (C := RX0) (T := TX0) (N := 5) hx hb ha inAX0 hown hK hP 0 rfl rfl 4 (by decide) (ha _ w_1_176) (fun _ h9 => h9) rfl dX0_findMinors_21 ?_
      refine lv_iload_n hx hb dX0_findMinors_24 rfl (lv_at hl 3 rfl) ?_
      refine lv_aload_n hx hb dX0_findMinors_25 rfl (lv_at hl 0 rfl) ?_
      refine lv_iload_n hx hb dX0_findMinors_26 rfl (lv_at hl 3 rfl) ?_
      refine lv_iload_n hx hb dX0_findMinors_27 rfl (lv_at hl 3 rfl) ?_
      have hn_5 := bdN hN hF
      refine callSI (As := [.int x3]) (rest := [.int x3, .ref h_t, .int x3, .ref h_minors]) (wr := [(h_t, .inr (0, [.long v_wholeOfAll, .ref h_parts, .ref h_rows, .ref h_outs, .ref h_minors])), (h_minors, .inl (cJ, 32, .inr (.inl a_minors))), (h_rows, .inl (cI, 25, .inl a_rows))]) (W2 := fun u_6 => [(h_t, .inr (0, [.long v_wholeOfAll, .ref h_parts, .ref h_rows, .ref h_outs, .ref h_minors])), (h_minors, .inl (cJ, 32, .inr (.inl a_minors))), (h_rows, .inl (cI, 25, .inl a_rows))]) X hE hP hD hS hA (kJ6_bitCount_0f7a4 l D cB cI cJ cZ rz n H.size x3 hn_5) w_2_208 w_2_209 w_1_12 w_2_210 cb_J6_bitCount_0f7a4 rfl rfl ⟨Nat.le_of_ble_eq_true rfl, Nat.le_of_ble_eq_true rfl⟩ rfl hl.1 rfl (Nat.le_of_ble_eq_true rfl) dX0_findMinors_28 ⟨Nat.le_of_ble_eq_true rfl, Nat.le_of_ble_eq_true rfl⟩ (c2 := 0) (s2 := 0) rfl rfl [] [0, 1, 2] [0, 1, 2] rfl rfl (by decide) (by decide) (by decide) (by decide) (fun _ => rfl) (fun u_6 H locs hG hP hD hS => ?_)
      replace hF := bdQ hG hF
      refine lv_iload_n hx hb dX0_findMinors_31 rfl (lv_at hl 1 rfl) ?_
      have hn_7 := bdN hN hF
      refine callVJ (As := [.int x3, .int u_6.1, .int x1]) (rest := [.int x3, .ref h_minors]) (wr := []) (W2 := fun u_8 => [(h_t, .inr (0, [.long v_wholeOfAll, .ref h_parts, .ref h_rows, .ref h_outs, .ref h_minors])), (h_minors, .inl (cJ, 32, .inr (.inl a_minors))), (h_rows, .inl (cI, 25, .inl a_rows))]) X hE hP hD hS hA (kX0_minorOf l D cB cI cJ cZ rz n H.size h_t h_rows h_minors h_parts h_outs v_wholeOfAll a_rows a_minors x3 u_6.1 x1 hn_7) w_2_214 w_2_216 ws_30 w_1_5 w_2_217 cb_X0_minorOf rfl rfl ⟨Nat.le_of_ble_eq_true rfl, Nat.le_of_ble_eq_true rfl⟩ rfl hl.1 rfl (Nat.le_of_ble_eq_true rfl) dX0_findMinors_32 ⟨Nat.le_of_ble_eq_true rfl, Nat.le_of_ble_eq_true rfl⟩ (c2 := 0) (s2 := 0) rfl rfl (k0 := 0) rfl rfl [0, 2, 1] [] [0, 2, 1] rfl rfl (by decide) (by decide) (by decide) (by decide) (fun _ => rfl) (fun u_8 H locs hG hP hD hS => ?_)
      replace hF := bdQ hG hF
      replace hF := ckP hN hF
      obtain ⟨c_9, hF⟩ := hF
      obtain ⟨f_10, ef_10⟩ : ∃ g : Nat → Int64, g = vp_updL a_minors (x3).toNatClampNeg u_8.1 := ⟨_, rfl⟩
      replace hF := ltP ef_10 hF
      refine st_l (g := f_10) (W2 := [(h_t, .inr (0, [.long v_wholeOfAll, .ref h_parts, .ref h_rows, .ref h_outs, .ref h_minors])), (h_minors, .inl (cJ, 32, .inr (.inl f_10))), (h_rows, .inl (cI, 25, .inl a_rows))]) hx hb hK hP hD hS 1 rfl c_9 ef_10 dX0_findMinors_35 rfl (fun H locs hP hD hS => ?_)
      obtain ⟨x_11, ex_11⟩ : ∃ y : Int32, y = x3 + (1 : Int32) := ⟨_, rfl⟩
      replace hF := ltP ex_11 hF
      refine lv_iinc (v := x_11) (lv' := [(3, .int x_11), (0, .ref h_t), (1, .int x1), (2, .int x2)]) hx hb dX0_findMinors_36 hl (k := 3) rfl (by rw [ex_11]; rfl) (by decide) rfl (fun ls hl => ?_)
      refine lv_goto (tgt := 15) hx hb dX0_findMinors_39 (by decide) ?_
      exact ih15 f_10 x1 x2 x_11 H locs ls hF hP hD hS (lv_sub hl [1, 2, 3, 0] rfl)
  have Lc15 : ∀ (j : Nat), ∀ (a_minors : Nat → Int64) (x1 : Int32) (x2 : Int32) (x3 : Int32) (H : Heap) (locs : List Loc) (ls : Array Slot), FX0_findMinors_15L n a_rows z1 j a_minors x1 x2 x3 = O → va_P D classes [(h_t, .inr (0, [.long v_wholeOfAll, .ref h_parts, .ref h_rows, .ref h_outs, .ref h_minors])), (h_minors, .inl (cJ, 32, .inr (.inl a_minors))), (h_rows, .inl (cI, 25, .inl a_rows))] H → va_D A [(h_t, .inr (0, [.long v_wholeOfAll, .ref h_parts, .ref h_rows, .ref h_outs, .ref h_minors])), (h_minors, .inl (cJ, 32, .inr (.inl a_minors))), (h_rows, .inl (cI, 25, .inl a_rows))] → va_S A s.heap H locs → lv_has ls 4 [(0, .ref h_t), (1, .int x1), (2, .int x2), (3, .int x3)] → W p l e rmX0_findMinors s m ([.ref h_t, .int z1] : List Value).toArray below meth c H locs 0 0 Q (F0 m 15 ls []) := by
    intro j
    induction j with
    | zero => intro _ _ _ _ H locs ls hF; exact absurd hF.symm hN
    | succ j ih => exact L15 (FX0_findMinors_15L n a_rows z1 j) ih
  unfold FX0_findMinors at hF
  obtain ⟨H, hH⟩ : ∃ H, H = s.heap := ⟨_, rfl⟩
  obtain ⟨locs, hlo⟩ : ∃ locs : List Loc, locs = [] := ⟨_, rfl⟩
  have hS : va_S A s.heap H locs := by rw [hH, hlo]; exact hS
  rw [← hH] at hP
  have goal : W p l e rmX0_findMinors s m ([.ref h_t, .int z1] : List Value).toArray below meth c H locs 0 0 Q (F0 m 0 ls []) := by
    refine lv_iconst (v := 1) hx hb dX0_findMinors_0 (by decide) ?_
    refine lv_iload_n hx hb dX0_findMinors_1 rfl (lv_at hl 1 rfl) ?_
    refine lv_ishl hx hb dX0_findMinors_2 ?_
    refine lv_iconst (v := 1) hx hb dX0_findMinors_3 (by decide) ?_
    refine lv_isub hx hb dX0_findMinors_4 ?_
    refine lv_topi (fun x_1 ex_1 => ?_)
    replace hF := ltP ex_1 hF
    refine lv_istore_n (lv' := [(2, .int x_1), (0, .ref h_t), (1, .int z1)]) hx hb dX0_findMinors_5 rfl hl (by decide) rfl (fun ls hl => ?_)
    refine lv_aload_n hx hb dX0_findMinors_6 rfl (lv_at hl 1 rfl) ?_
    refine va_get (D := D) (ci := 0) (C := RX0) (T := TX0) (N := 5) hx hb ha inAX0 hown hK hP 0 rfl rfl 4 (by decide) (ha _ w_1_176) (fun _ h9 => h9) rfl dX0_findMinors_7 ?_
    refine lv_iconst (v := 0) hx hb dX0_findMinors_10 (by decide) ?_
    refine lv_lconst (v := 1) hx hb dX0_findMinors_11 (by decide) ?_
    replace hF := ckP hN hF
    obtain ⟨c_2, hF⟩ := hF
    obtain ⟨f_3, ef_3⟩ : ∃ g : Nat → Int64, g = vp_updL a_minors ((0 : Int32)).toNatClampNeg (1 : Int64) := ⟨_, rfl⟩
    replace hF := ltP ef_3 hF
    refine st_l (g := f_3) (W2 := [(h_t, .inr (0, [.long v_wholeOfAll, .ref h_parts, .ref h_rows, .ref h_outs, .ref h_minors])), (h_minors, .inl (cJ, 32, .inr (.inl f_3))), (h_rows, .inl (cI, 25, .inl a_rows))]) hx hb hK hP hD hS 1 rfl c_2 ef_3 dX0_findMinors_12 rfl (fun H locs hP hD hS => ?_)
    refine lv_iconst (v := 1) hx hb dX0_findMinors_13 (by decide) ?_
    refine lv_istore_n (lv' := [(3, .int (1 : Int32)), (2, .int x_1), (0, .ref h_t), (1, .int z1)]) hx hb dX0_findMinors_14 rfl hl (by decide) rfl (fun ls hl => ?_)
    exact Lc15 n f_3 z1 x_1 (1 : Int32) H locs ls hF hP hD hS (lv_sub hl [2, 3, 1, 0] rfl)
  rw [hH, hlo] at goal
  exact goal
theorem dX0_cofactor_0 : decode cX0_cofactor 0 = .ok (.aload_n 0, 1) := by decide +kernel
theorem dX0_cofactor_1 : decode cX0_cofactor 1 = .ok (.getfield 22, 3) := by decide +kernel
theorem dX0_cofactor_4 : decode cX0_cofactor 4 = .ok (.iconst 1, 1) := by decide +kernel
theorem dX0_cofactor_5 : decode cX0_cofactor 5 = .ok (.iload_n 2, 1) := by decide +kernel
theorem dX0_cofactor_6 : decode cX0_cofactor 6 = .ok (.ishl, 1) := by decide +kernel
theorem dX0_cofactor_7 : decode cX0_cofactor 7 = .ok (.iconst 1, 1) := by decide +kernel
theorem dX0_cofactor_8 : decode cX0_cofactor 8 = .ok (.isub, 1) := by decide +kernel
theorem dX0_cofactor_9 : decode cX0_cofactor 9 = .ok (.iconst 1, 1) := by decide +kernel
theorem dX0_cofactor_10 : decode cX0_cofactor 10 = .ok (.iload_n 1, 1) := by decide +kernel
theorem dX0_cofactor_11 : decode cX0_cofactor 11 = .ok (.ishl, 1) := by decide +kernel
theorem dX0_cofactor_12 : decode cX0_cofactor 12 = .ok (.isub, 1) := by decide +kernel
theorem dX0_cofactor_13 : decode cX0_cofactor 13 = .ok (.laload, 1) := by decide +kernel
theorem dX0_cofactor_14 : decode cX0_cofactor 14 = .ok (.lstore_n 3, 1) := by decide +kernel
theorem dX0_cofactor_15 : decode cX0_cofactor 15 = .ok (.iload_n 1, 1) := by decide +kernel
theorem dX0_cofactor_16 : decode cX0_cofactor 16 = .ok (.iconst 2, 1) := by decide +kernel
theorem dX0_cofactor_17 : decode cX0_cofactor 17 = .ok (.irem, 1) := by decide +kernel
theorem dX0_cofactor_18 : decode cX0_cofactor 18 = .ok (.ifCond .ne 7, 3) := by decide +kernel
theorem dX0_cofactor_21 : decode cX0_cofactor 21 = .ok (.lload_n 3, 1) := by decide +kernel
theorem dX0_cofactor_22 : decode cX0_cofactor 22 = .ok (.goto 5, 3) := by decide +kernel
theorem dX0_cofactor_25 : decode cX0_cofactor 25 = .ok (.lload_n 3, 1) := by decide +kernel
theorem dX0_cofactor_26 : decode cX0_cofactor 26 = .ok (.lneg, 1) := by decide +kernel
theorem dX0_cofactor_27 : decode cX0_cofactor 27 = .ok (.lreturn, 1) := by decide +kernel
abbrev rmX0_cofactor : Room := { frames := 0, cells := 0, slots := 0, locals := 0 }
theorem cb_X0_cofactor : CBn yX0_cofactor 2 := ⟨by decide +kernel, by decide +kernel, by decide +kernel⟩
def FX0_cofactor (n : Nat) (a_minors : Nat → Int64) (z1 : Int32) (z2 : Int32) : Option (Int64 × Unit) := if ¬ (((((1 : Int32) <<< (z2 &&& 31)) - (1 : Int32)) - ((1 : Int32) <<< (z1 &&& 31))) < 0 ∨ 32 ≤ (((((1 : Int32) <<< (z2 &&& 31)) - (1 : Int32)) - ((1 : Int32) <<< (z1 &&& 31)))).toNatClampNeg) then (lt1 (a_minors (((((1 : Int32) <<< (z2 &&& 31)) - (1 : Int32)) - ((1 : Int32) <<< (z1 &&& 31)))).toNatClampNeg) (fun x_2 => if ¬ (2 : Int32) = 0 then (if (z1 - z1 / (2 : Int32) * (2 : Int32)) = 0 then (some (x_2, ())) else (some ((-x_2), ()))) else none)) else none
set_option maxHeartbeats 4000000 in
set_option maxRecDepth 100000 in
theorem kX0_cofactor (l : Launch) (D : va_G) (cB cI cJ cZ : ClassId) (rz n sz : Nat) (h_t : Nat) (h_minors : Nat) (h_parts : Nat) (h_rows : Nat) (h_outs : Nat) (v_wholeOfAll : Int64) (a_minors : Nat → Int64) (z1 : Int32) (z2 : Int32) (hN : FX0_cofactor n a_minors z1 z2 ≠ none) : Met l yX0_cofactor (Cond.code yX0_cofactor cX0_cofactor 5 (some .long) :: AL) rmX0_cofactor (PW D cB cI cJ cZ rz [.ref h_t, .int z1, .int z2] [(h_t, .inr (0, [.long v_wholeOfAll, .ref h_parts, .ref h_rows, .ref h_outs, .ref h_minors])), (h_minors, .inl (cJ, 32, .inr (.inl a_minors)))] sz) (QJ D (FX0_cofactor n a_minors z1 z2) (fun u => [(h_t, .inr (0, [.long v_wholeOfAll, .ref h_parts, .ref h_rows, .ref h_outs, .ref h_minors])), (h_minors, .inl (cJ, 32, .inr (.inl a_minors)))]) (va_A [(h_t, .inr (0, [.long v_wholeOfAll, .ref h_parts, .ref h_rows, .ref h_outs, .ref h_minors])), (h_minors, .inl (cJ, 32, .inr (.inl a_minors)))] sz)) 0 0 (va_A [(h_t, .inr (0, [.long v_wholeOfAll, .ref h_parts, .ref h_rows, .ref h_outs, .ref h_minors])), (h_minors, .inl (cJ, 32, .inr (.inl a_minors)))] sz) := by
  obtain ⟨O, hF⟩ : ∃ O, FX0_cofactor n a_minors z1 z2 = O := ⟨_, rfl⟩
  rw [hF] at hN ⊢
  refine enterJ (cc := cX0_cofactor) (nL := 5) (by decide) (Nat.le_of_ble_eq_true rfl) ?_
  intro p e s m below meth c A Q X hA hE hnm hsz hP hD hS hret ls hl
  obtain ⟨hx, hb, hml, hown0, ha⟩ := id X
  have hown : s.vm.findClass RX0 = some m.cls := hown0
  have hK := hE.1
  have hl : lv_has ls 5 [(0, .ref h_t), (1, .int z1), (2, .int z2)] := hl
  have hX : CallFix p m c cX0_cofactor 5 s ([.ref h_t, .int z1, .int z2] : List Value).toArray AL RX0 := X
  have X := hX
  unfold FX0_cofactor at hF
  obtain ⟨H, hH⟩ : ∃ H, H = s.heap := ⟨_, rfl⟩
  obtain ⟨locs, hlo⟩ : ∃ locs : List Loc, locs = [] := ⟨_, rfl⟩
  have hS : va_S A s.heap H locs := by rw [hH, hlo]; exact hS
  rw [← hH] at hP
  have goal : W p l e rmX0_cofactor s m ([.ref h_t, .int z1, .int z2] : List Value).toArray below meth c H locs 0 0 Q (F0 m 0 ls []) := by
    refine lv_aload_n hx hb dX0_cofactor_0 rfl (lv_at hl 0 rfl) ?_
    refine va_get (D := D) (ci := 0) (C := RX0) (T := TX0) (N := 5) hx hb ha inAX0 hown hK hP 0 rfl rfl 4 (by decide) (ha _ w_1_176) (fun _ h9 => h9) rfl dX0_cofactor_1 ?_
    refine lv_iconst (v := 1) hx hb dX0_cofactor_4 (by decide) ?_
    refine lv_iload_n hx hb dX0_cofactor_5 rfl (lv_at hl 2 rfl) ?_
    refine lv_ishl hx hb dX0_cofactor_6 ?_
    refine lv_iconst (v := 1) hx hb dX0_cofactor_7 (by decide) ?_
    refine lv_isub hx hb dX0_cofactor_8 ?_
    refine lv_iconst (v := 1) hx hb dX0_cofactor_9 (by decide) ?_
    refine lv_iload_n hx hb dX0_cofactor_10 rfl (lv_at hl 1 rfl) ?_
    refine lv_ishl hx hb dX0_cofactor_11 ?_
    refine lv_isub hx hb dX0_cofactor_12 ?_
    replace hF := ckP hN hF
    obtain ⟨c_1, hF⟩ := hF
    refine ld_l hx hb hK hP 1 rfl c_1 dX0_cofactor_13 ?_
    refine lv_topl (fun x_2 ex_2 => ?_)
    replace hF := ltP ex_2 hF
    refine lv_lstore_n (lv' := [(3, .long x_2), (0, .ref h_t), (1, .int z1), (2, .int z2)]) hx hb dX0_cofactor_14 rfl hl (by decide) rfl (fun ls hl => ?_)
    refine lv_iload_n hx hb dX0_cofactor_15 rfl (lv_at hl 2 rfl) ?_
    refine lv_iconst (v := 2) hx hb dX0_cofactor_16 (by decide) ?_
    replace hF := ckP hN hF
    obtain ⟨c_3, hF⟩ := hF
    refine lv_irem hx hb dX0_cofactor_17 c_3 ?_
    refine lv_if_ne (tgt := 25) hx hb dX0_cofactor_18 (by decide) (fun c_4 => ?_) (fun c_4 => ?_)
    · replace hF := ifF c_4 hF
      refine lv_lload_n hx hb dX0_cofactor_25 rfl (lv_at hl 0 rfl) ?_
      refine lv_lneg hx hb dX0_cofactor_26 ?_
      exact hret ((-x_2), ()) H locs ls _ hF hP hD hS dX0_cofactor_27
    · replace hF := ifT c_4 hF
      refine lv_lload_n hx hb dX0_cofactor_21 rfl (lv_at hl 0 rfl) ?_
      refine lv_goto (tgt := 27) hx hb dX0_cofactor_22 (by decide) ?_
      exact hret (x_2, ()) H locs ls _ hF hP hD hS dX0_cofactor_27
  rw [hH, hlo] at goal
  exact goal
theorem dX0_solve_0 : decode cX0_solve 0 = .ok (.aload_n 0, 1) := by decide +kernel
theorem dX0_solve_1 : decode cX0_solve 1 = .ok (.getfield 9, 3) := by decide +kernel
theorem dX0_solve_4 : decode cX0_solve 4 = .ok (.lconst 0, 1) := by decide +kernel
theorem dX0_solve_5 : decode cX0_solve 5 = .ok (.invokestatic 25, 3) := by decide +kernel
theorem dX0_solve_8 : decode cX0_solve 8 = .ok (.aload_n 1, 1) := by decide +kernel
theorem dX0_solve_9 : decode cX0_solve 9 = .ok (.getfield 31, 3) := by decide +kernel
theorem dX0_solve_12 : decode cX0_solve 12 = .ok (.iconst 1, 1) := by decide +kernel
theorem dX0_solve_13 : decode cX0_solve 13 = .ok (.if_icmp .ge 16, 3) := by decide +kernel
theorem dX0_solve_16 : decode cX0_solve 16 = .ok (.aload_n 0, 1) := by decide +kernel
theorem dX0_solve_17 : decode cX0_solve 17 = .ok (.lconst 1, 1) := by decide +kernel
theorem dX0_solve_18 : decode cX0_solve 18 = .ok (.putfield 37, 3) := by decide +kernel
theorem dX0_solve_21 : decode cX0_solve 21 = .ok (.aload_n 0, 1) := by decide +kernel
theorem dX0_solve_22 : decode cX0_solve 22 = .ok (.getfield 9, 3) := by decide +kernel
theorem dX0_solve_25 : decode cX0_solve 25 = .ok (.iconst 4, 1) := by decide +kernel
theorem dX0_solve_26 : decode cX0_solve 26 = .ok (.lconst 1, 1) := by decide +kernel
theorem dX0_solve_27 : decode cX0_solve 27 = .ok (.lastore, 1) := by decide +kernel
theorem dX0_solve_28 : decode cX0_solve 28 = .ok (.return_, 1) := by decide +kernel
theorem dX0_solve_29 : decode cX0_solve 29 = .ok (.aload_n 0, 1) := by decide +kernel
theorem dX0_solve_30 : decode cX0_solve 30 = .ok (.aload_n 1, 1) := by decide +kernel
theorem dX0_solve_31 : decode cX0_solve 31 = .ok (.aload_n 2, 1) := by decide +kernel
theorem dX0_solve_32 : decode cX0_solve 32 = .ok (.iload_n 3, 1) := by decide +kernel
theorem dX0_solve_33 : decode cX0_solve 33 = .ok (.invokevirtual 41, 3) := by decide +kernel
theorem dX0_solve_36 : decode cX0_solve 36 = .ok (.aload_n 0, 1) := by decide +kernel
theorem dX0_solve_37 : decode cX0_solve 37 = .ok (.aload_n 1, 1) := by decide +kernel
theorem dX0_solve_38 : decode cX0_solve 38 = .ok (.getfield 31, 3) := by decide +kernel
theorem dX0_solve_41 : decode cX0_solve 41 = .ok (.invokevirtual 45, 3) := by decide +kernel
theorem dX0_solve_44 : decode cX0_solve 44 = .ok (.aload_n 0, 1) := by decide +kernel
theorem dX0_solve_45 : decode cX0_solve 45 = .ok (.lconst 0, 1) := by decide +kernel
theorem dX0_solve_46 : decode cX0_solve 46 = .ok (.putfield 37, 3) := by decide +kernel
theorem dX0_solve_49 : decode cX0_solve 49 = .ok (.iconst 0, 1) := by decide +kernel
theorem dX0_solve_50 : decode cX0_solve 50 = .ok (.istore 4, 2) := by decide +kernel
theorem dX0_solve_52 : decode cX0_solve 52 = .ok (.iload 4, 2) := by decide +kernel
theorem dX0_solve_54 : decode cX0_solve 54 = .ok (.aload_n 1, 1) := by decide +kernel
theorem dX0_solve_55 : decode cX0_solve 55 = .ok (.getfield 31, 3) := by decide +kernel
theorem dX0_solve_58 : decode cX0_solve 58 = .ok (.if_icmp .ge 39, 3) := by decide +kernel
theorem dX0_solve_61 : decode cX0_solve 61 = .ok (.aload_n 0, 1) := by decide +kernel
theorem dX0_solve_62 : decode cX0_solve 62 = .ok (.dup, 1) := by decide +kernel
theorem dX0_solve_63 : decode cX0_solve 63 = .ok (.getfield 37, 3) := by decide +kernel
theorem dX0_solve_66 : decode cX0_solve 66 = .ok (.aload_n 0, 1) := by decide +kernel
theorem dX0_solve_67 : decode cX0_solve 67 = .ok (.getfield 15, 3) := by decide +kernel
theorem dX0_solve_70 : decode cX0_solve 70 = .ok (.iload 4, 2) := by decide +kernel
theorem dX0_solve_72 : decode cX0_solve 72 = .ok (.iconst 5, 1) := by decide +kernel
theorem dX0_solve_73 : decode cX0_solve 73 = .ok (.imul, 1) := by decide +kernel
theorem dX0_solve_74 : decode cX0_solve 74 = .ok (.iaload, 1) := by decide +kernel
theorem dX0_solve_75 : decode cX0_solve 75 = .ok (.i2l, 1) := by decide +kernel
theorem dX0_solve_76 : decode cX0_solve 76 = .ok (.aload_n 0, 1) := by decide +kernel
theorem dX0_solve_77 : decode cX0_solve 77 = .ok (.iload 4, 2) := by decide +kernel
theorem dX0_solve_79 : decode cX0_solve 79 = .ok (.aload_n 1, 1) := by decide +kernel
theorem dX0_solve_80 : decode cX0_solve 80 = .ok (.getfield 31, 3) := by decide +kernel
theorem dX0_solve_83 : decode cX0_solve 83 = .ok (.invokevirtual 49, 3) := by decide +kernel
theorem dX0_solve_86 : decode cX0_solve 86 = .ok (.lmul, 1) := by decide +kernel
theorem dX0_solve_87 : decode cX0_solve 87 = .ok (.ladd, 1) := by decide +kernel
theorem dX0_solve_88 : decode cX0_solve 88 = .ok (.putfield 37, 3) := by decide +kernel
theorem dX0_solve_91 : decode cX0_solve 91 = .ok (.iinc 4 1, 3) := by decide +kernel
theorem dX0_solve_94 : decode cX0_solve 94 = .ok (.goto (-42), 3) := by decide +kernel
theorem dX0_solve_97 : decode cX0_solve 97 = .ok (.aload_n 0, 1) := by decide +kernel
theorem dX0_solve_98 : decode cX0_solve 98 = .ok (.getfield 37, 3) := by decide +kernel
theorem dX0_solve_101 : decode cX0_solve 101 = .ok (.lconst 0, 1) := by decide +kernel
theorem dX0_solve_102 : decode cX0_solve 102 = .ok (.lcmp, 1) := by decide +kernel
theorem dX0_solve_103 : decode cX0_solve 103 = .ok (.ifCond .ne 4, 3) := by decide +kernel
theorem dX0_solve_106 : decode cX0_solve 106 = .ok (.return_, 1) := by decide +kernel
theorem dX0_solve_107 : decode cX0_solve 107 = .ok (.iconst 0, 1) := by decide +kernel
theorem dX0_solve_108 : decode cX0_solve 108 = .ok (.istore 4, 2) := by decide +kernel
theorem dX0_solve_110 : decode cX0_solve 110 = .ok (.iload 4, 2) := by decide +kernel
theorem dX0_solve_112 : decode cX0_solve 112 = .ok (.aload_n 1, 1) := by decide +kernel
theorem dX0_solve_113 : decode cX0_solve 113 = .ok (.getfield 31, 3) := by decide +kernel
theorem dX0_solve_116 : decode cX0_solve 116 = .ok (.if_icmp .ge 62, 3) := by decide +kernel
theorem dX0_solve_119 : decode cX0_solve 119 = .ok (.aload_n 0, 1) := by decide +kernel
theorem dX0_solve_120 : decode cX0_solve 120 = .ok (.iload 4, 2) := by decide +kernel
theorem dX0_solve_122 : decode cX0_solve 122 = .ok (.aload_n 1, 1) := by decide +kernel
theorem dX0_solve_123 : decode cX0_solve 123 = .ok (.getfield 31, 3) := by decide +kernel
theorem dX0_solve_126 : decode cX0_solve 126 = .ok (.invokevirtual 49, 3) := by decide +kernel
theorem dX0_solve_129 : decode cX0_solve 129 = .ok (.lstore 5, 2) := by decide +kernel
theorem dX0_solve_131 : decode cX0_solve 131 = .ok (.iconst 0, 1) := by decide +kernel
theorem dX0_solve_132 : decode cX0_solve 132 = .ok (.istore 7, 2) := by decide +kernel
theorem dX0_solve_134 : decode cX0_solve 134 = .ok (.iload 7, 2) := by decide +kernel
theorem dX0_solve_136 : decode cX0_solve 136 = .ok (.iconst 5, 1) := by decide +kernel
theorem dX0_solve_137 : decode cX0_solve 137 = .ok (.if_icmp .ge 35, 3) := by decide +kernel
theorem dX0_solve_140 : decode cX0_solve 140 = .ok (.aload_n 0, 1) := by decide +kernel
theorem dX0_solve_141 : decode cX0_solve 141 = .ok (.getfield 9, 3) := by decide +kernel
theorem dX0_solve_144 : decode cX0_solve 144 = .ok (.iload 7, 2) := by decide +kernel
theorem dX0_solve_146 : decode cX0_solve 146 = .ok (.dup2, 1) := by decide +kernel
theorem dX0_solve_147 : decode cX0_solve 147 = .ok (.laload, 1) := by decide +kernel
theorem dX0_solve_148 : decode cX0_solve 148 = .ok (.aload_n 0, 1) := by decide +kernel
theorem dX0_solve_149 : decode cX0_solve 149 = .ok (.getfield 19, 3) := by decide +kernel
theorem dX0_solve_152 : decode cX0_solve 152 = .ok (.iload 4, 2) := by decide +kernel
theorem dX0_solve_154 : decode cX0_solve 154 = .ok (.iconst 5, 1) := by decide +kernel
theorem dX0_solve_155 : decode cX0_solve 155 = .ok (.imul, 1) := by decide +kernel
theorem dX0_solve_156 : decode cX0_solve 156 = .ok (.iload 7, 2) := by decide +kernel
theorem dX0_solve_158 : decode cX0_solve 158 = .ok (.iadd, 1) := by decide +kernel
theorem dX0_solve_159 : decode cX0_solve 159 = .ok (.iaload, 1) := by decide +kernel
theorem dX0_solve_160 : decode cX0_solve 160 = .ok (.i2l, 1) := by decide +kernel
theorem dX0_solve_161 : decode cX0_solve 161 = .ok (.lload 5, 2) := by decide +kernel
theorem dX0_solve_163 : decode cX0_solve 163 = .ok (.lmul, 1) := by decide +kernel
theorem dX0_solve_164 : decode cX0_solve 164 = .ok (.ladd, 1) := by decide +kernel
theorem dX0_solve_165 : decode cX0_solve 165 = .ok (.lastore, 1) := by decide +kernel
theorem dX0_solve_166 : decode cX0_solve 166 = .ok (.iinc 7 1, 3) := by decide +kernel
theorem dX0_solve_169 : decode cX0_solve 169 = .ok (.goto (-35), 3) := by decide +kernel
theorem dX0_solve_172 : decode cX0_solve 172 = .ok (.iinc 4 1, 3) := by decide +kernel
theorem dX0_solve_175 : decode cX0_solve 175 = .ok (.goto (-65), 3) := by decide +kernel
theorem dX0_solve_178 : decode cX0_solve 178 = .ok (.return_, 1) := by decide +kernel
abbrev rmX0_solve : Room := { frames := 2, cells := 0, slots := 0, locals := 52 }
theorem cb_X0_solve : CBn yX0_solve 3 := ⟨by decide +kernel, by decide +kernel, by decide +kernel⟩
def FX0_solve_134 (n : Nat) (v_p0_units : Int32) (a_p1 : Nat → Int32) (a_p0_percents : Nat → Int32) (a_p0_yesLeads : Nat → Int32) (a_p0_noLeads : Nat → Int32) (z3 : Int32) (k110 : Int64 → (Nat → Int64) → (Nat → Int32) → (Nat → Int32) → (Nat → Int64) → Int32 → Option (Unit × Int64 × (Nat → Int64) × (Nat → Int32) × (Nat → Int32) × (Nat → Int64))) (k134 : Int64 → (Nat → Int64) → (Nat → Int32) → (Nat → Int32) → (Nat → Int64) → Int32 → Int64 → Int32 → Option (Unit × Int64 × (Nat → Int64) × (Nat → Int32) × (Nat → Int32) × (Nat → Int64))) (v_wholeOfAll : Int64) (a_parts : Nat → Int64) (a_rows : Nat → Int32) (a_outs : Nat → Int32) (a_minors : Nat → Int64) (x4 : Int32) (x5 : Int64) (x7 : Int32) : Option (Unit × Int64 × (Nat → Int64) × (Nat → Int32) × (Nat → Int32) × (Nat → Int64)) := if (5 : Int32) ≤ x7 then (lt1 (x4 + (1 : Int32)) (fun x_21 => k110 v_wholeOfAll a_parts a_rows a_outs a_minors x_21)) else (if ¬ (x7 < 0 ∨ 5 ≤ (x7).toNatClampNeg) then (if ¬ (((x4 * (5 : Int32)) + x7) < 0 ∨ 25 ≤ (((x4 * (5 : Int32)) + x7)).toNatClampNeg) then (lt1 ((a_parts (x7).toNatClampNeg) + (((a_outs (((x4 * (5 : Int32)) + x7)).toNatClampNeg)).toInt64 * x5)) (fun x_24 => if ¬ (x7 < 0 ∨ 5 ≤ (x7).toNatClampNeg) then (lt1 (vp_updL a_parts (x7).toNatClampNeg x_24) (fun f_26 => lt1 (x7 + (1 : Int32)) (fun x_27 => k134 v_wholeOfAll f_26 a_rows a_outs a_minors x4 x5 x_27))) else none)) else none) else none)
def FX0_solve_134L (n : Nat) (v_p0_units : Int32) (a_p1 : Nat → Int32) (a_p0_percents : Nat → Int32) (a_p0_yesLeads : Nat → Int32) (a_p0_noLeads : Nat → Int32) (z3 : Int32) (k110 : Int64 → (Nat → Int64) → (Nat → Int32) → (Nat → Int32) → (Nat → Int64) → Int32 → Option (Unit × Int64 × (Nat → Int64) × (Nat → Int32) × (Nat → Int32) × (Nat → Int64))) (j : Nat) : Int64 → (Nat → Int64) → (Nat → Int32) → (Nat → Int32) → (Nat → Int64) → Int32 → Int64 → Int32 → Option (Unit × Int64 × (Nat → Int64) × (Nat → Int32) × (Nat → Int32) × (Nat → Int64)) := lpR (FX0_solve_134 n v_p0_units a_p1 a_p0_percents a_p0_yesLeads a_p0_noLeads z3 k110) (fun _ _ _ _ _ _ _ _ => none) j
def FX0_solve_110 (n : Nat) (v_p0_units : Int32) (a_p1 : Nat → Int32) (a_p0_percents : Nat → Int32) (a_p0_yesLeads : Nat → Int32) (a_p0_noLeads : Nat → Int32) (z3 : Int32) (k110 : Int64 → (Nat → Int64) → (Nat → Int32) → (Nat → Int32) → (Nat → Int64) → Int32 → Option (Unit × Int64 × (Nat → Int64) × (Nat → Int32) × (Nat → Int32) × (Nat → Int64))) (v_wholeOfAll : Int64) (a_parts : Nat → Int64) (a_rows : Nat → Int32) (a_outs : Nat → Int32) (a_minors : Nat → Int64) (x4 : Int32) : Option (Unit × Int64 × (Nat → Int64) × (Nat → Int32) × (Nat → Int32) × (Nat → Int64)) := if v_p0_units ≤ x4 then (some ((), v_wholeOfAll, a_parts, a_rows, a_outs, a_minors)) else (bd (FX0_cofactor n a_minors x4 v_p0_units) (fun u_19 => FX0_solve_134L n v_p0_units a_p1 a_p0_percents a_p0_yesLeads a_p0_noLeads z3 k110 n v_wholeOfAll a_parts a_rows a_outs a_minors x4 u_19.1 (0 : Int32)))
def FX0_solve_110L (n : Nat) (v_p0_units : Int32) (a_p1 : Nat → Int32) (a_p0_percents : Nat → Int32) (a_p0_yesLeads : Nat → Int32) (a_p0_noLeads : Nat → Int32) (z3 : Int32) (j : Nat) : Int64 → (Nat → Int64) → (Nat → Int32) → (Nat → Int32) → (Nat → Int64) → Int32 → Option (Unit × Int64 × (Nat → Int64) × (Nat → Int32) × (Nat → Int32) × (Nat → Int64)) := lpR (FX0_solve_110 n v_p0_units a_p1 a_p0_percents a_p0_yesLeads a_p0_noLeads z3) (fun _ _ _ _ _ _ => none) j
def FX0_solve_52 (n : Nat) (v_p0_units : Int32) (a_p1 : Nat → Int32) (a_p0_percents : Nat → Int32) (a_p0_yesLeads : Nat → Int32) (a_p0_noLeads : Nat → Int32) (z3 : Int32) (k52 : Int64 → (Nat → Int64) → (Nat → Int32) → (Nat → Int32) → (Nat → Int64) → Int32 → Option (Unit × Int64 × (Nat → Int64) × (Nat → Int32) × (Nat → Int32) × (Nat → Int64))) (v_wholeOfAll : Int64) (a_parts : Nat → Int64) (a_rows : Nat → Int32) (a_outs : Nat → Int32) (a_minors : Nat → Int64) (x4 : Int32) : Option (Unit × Int64 × (Nat → Int64) × (Nat → Int32) × (Nat → Int32) × (Nat → Int64)) := if v_p0_units ≤ x4 then (if (lg_cmp v_wholeOfAll (0 : Int64)) = 0 then (some ((), v_wholeOfAll, a_parts, a_rows, a_outs, a_minors)) else (FX0_solve_110L n v_p0_units a_p1 a_p0_percents a_p0_yesLeads a_p0_noLeads z3 n v_wholeOfAll a_parts a_rows a_outs a_minors (0 : Int32))) else (if ¬ ((x4 * (5 : Int32)) < 0 ∨ 25 ≤ ((x4 * (5 : Int32))).toNatClampNeg) then (bd (FX0_cofactor n a_minors x4 v_p0_units) (fun u_14 => lt1 (v_wholeOfAll + (((a_rows ((x4 * (5 : Int32))).toNatClampNeg)).toInt64 * u_14.1)) (fun x_15 => lt1 (x4 + (1 : Int32)) (fun x_16 => k52 x_15 a_parts a_rows a_outs a_minors x_16)))) else none)
def FX0_solve_52L (n : Nat) (v_p0_units : Int32) (a_p1 : Nat → Int32) (a_p0_percents : Nat → Int32) (a_p0_yesLeads : Nat → Int32) (a_p0_noLeads : Nat → Int32) (z3 : Int32) (j : Nat) : Int64 → (Nat → Int64) → (Nat → Int32) → (Nat → Int32) → (Nat → Int64) → Int32 → Option (Unit × Int64 × (Nat → Int64) × (Nat → Int32) × (Nat → Int32) × (Nat → Int64)) := lpR (FX0_solve_52 n v_p0_units a_p1 a_p0_percents a_p0_yesLeads a_p0_noLeads z3) (fun _ _ _ _ _ _ => none) j
def FX0_solve (n : Nat) (v_wholeOfAll : Int64) (v_p0_units : Int32) (a_p1 : Nat → Int32) (a_parts : Nat → Int64) (a_rows : Nat → Int32) (a_outs : Nat → Int32) (a_p0_percents : Nat → Int32) (a_p0_yesLeads : Nat → Int32) (a_p0_noLeads : Nat → Int32) (a_minors : Nat → Int64) (z3 : Int32) : Option (Unit × Int64 × (Nat → Int64) × (Nat → Int32) × (Nat → Int32) × (Nat → Int64)) := bd (FJ7_fill_d0a16 n 5 a_parts (0 : Int64)) (fun u_2 => if (1 : Int32) ≤ v_p0_units then (bd (FX0_layRows n v_p0_units a_p1 a_rows a_outs a_p0_percents a_p0_yesLeads a_p0_noLeads z3) (fun u_5 => bd (FX0_findMinors n a_minors u_5.2.1 v_p0_units) (fun u_7 => FX0_solve_52L n v_p0_units a_p1 a_p0_percents a_p0_yesLeads a_p0_noLeads z3 n (0 : Int64) u_2.2 u_5.2.1 u_5.2.2 u_7.2 (0 : Int32)))) else (if ¬ ((4 : Int32) < 0 ∨ 5 ≤ ((4 : Int32)).toNatClampNeg) then (lt1 (vp_updL u_2.2 ((4 : Int32)).toNatClampNeg (1 : Int64)) (fun f_9 => some ((), (1 : Int64), f_9, a_rows, a_outs, a_minors))) else none))
set_option maxHeartbeats 4000000 in
set_option maxRecDepth 100000 in
theorem kX0_solve (l : Launch) (D : va_G) (cB cI cJ cZ : ClassId) (rz n sz : Nat) (h_t : Nat) (h_p0 : Nat) (h_p1 : Nat) (h_parts : Nat) (h_rows : Nat) (h_outs : Nat) (h_p0_percents : Nat) (h_p0_yesLeads : Nat) (h_p0_noLeads : Nat) (h_minors : Nat) (h_p0_settings : Nat) (h_p0_grades : Nat) (h_p0_gradeKinds : Nat) (h_p0_gradePurities : Nat) (h_p0_gradePrices : Nat) (v_wholeOfAll : Int64) (v_p0_units : Int32) (a_p1 : Nat → Int32) (a_parts : Nat → Int64) (a_rows : Nat → Int32) (a_outs : Nat → Int32) (a_p0_percents : Nat → Int32) (a_p0_yesLeads : Nat → Int32) (a_p0_noLeads : Nat → Int32) (a_minors : Nat → Int64) (z3 : Int32) (hN : FX0_solve n v_wholeOfAll v_p0_units a_p1 a_parts a_rows a_outs a_p0_percents a_p0_yesLeads a_p0_noLeads a_minors z3 ≠ none) : Met l yX0_solve (Cond.code yX0_solve cX0_solve 8 none :: AL) rmX0_solve (PW D cB cI cJ cZ rz [.ref h_t, .ref h_p0, .ref h_p1, .int z3] [(h_t, .inr (0, [.long v_wholeOfAll, .ref h_parts, .ref h_rows, .ref h_outs, .ref h_minors])), (h_p0, .inr (2, [.int v_p0_units, .ref h_p0_settings, .ref h_p0_yesLeads, .ref h_p0_noLeads, .ref h_p0_percents, .ref h_p0_grades, .ref h_p0_gradeKinds, .ref h_p0_gradePurities, .ref h_p0_gradePrices])), (h_p1, .inl (cI, 5, .inl a_p1)), (h_parts, .inl (cJ, 5, .inr (.inl a_parts))), (h_rows, .inl (cI, 25, .inl a_rows)), (h_outs, .inl (cI, 25, .inl a_outs)), (h_p0_percents, .inl (cI, 75, .inl a_p0_percents)), (h_p0_yesLeads, .inl (cI, 5, .inl a_p0_yesLeads)), (h_p0_noLeads, .inl (cI, 5, .inl a_p0_noLeads)), (h_minors, .inl (cJ, 32, .inr (.inl a_minors)))] sz) (QV D (FX0_solve n v_wholeOfAll v_p0_units a_p1 a_parts a_rows a_outs a_p0_percents a_p0_yesLeads a_p0_noLeads a_minors z3) (fun u => [(h_t, .inr (0, [.long u.2.1, .ref h_parts, .ref h_rows, .ref h_outs, .ref h_minors])), (h_p0, .inr (2, [.int v_p0_units, .ref h_p0_settings, .ref h_p0_yesLeads, .ref h_p0_noLeads, .ref h_p0_percents, .ref h_p0_grades, .ref h_p0_gradeKinds, .ref h_p0_gradePurities, .ref h_p0_gradePrices])), (h_p1, .inl (cI, 5, .inl a_p1)), (h_parts, .inl (cJ, 5, .inr (.inl u.2.2.1))), (h_rows, .inl (cI, 25, .inl u.2.2.2.1)), (h_outs, .inl (cI, 25, .inl u.2.2.2.2.1)), (h_p0_percents, .inl (cI, 75, .inl a_p0_percents)), (h_p0_yesLeads, .inl (cI, 5, .inl a_p0_yesLeads)), (h_p0_noLeads, .inl (cI, 5, .inl a_p0_noLeads)), (h_minors, .inl (cJ, 32, .inr (.inl u.2.2.2.2.2)))]) (va_A [(h_t, .inr (0, [.long v_wholeOfAll, .ref h_parts, .ref h_rows, .ref h_outs, .ref h_minors])), (h_p0, .inr (2, [.int v_p0_units, .ref h_p0_settings, .ref h_p0_yesLeads, .ref h_p0_noLeads, .ref h_p0_percents, .ref h_p0_grades, .ref h_p0_gradeKinds, .ref h_p0_gradePurities, .ref h_p0_gradePrices])), (h_p1, .inl (cI, 5, .inl a_p1)), (h_parts, .inl (cJ, 5, .inr (.inl a_parts))), (h_rows, .inl (cI, 25, .inl a_rows)), (h_outs, .inl (cI, 25, .inl a_outs)), (h_p0_percents, .inl (cI, 75, .inl a_p0_percents)), (h_p0_yesLeads, .inl (cI, 5, .inl a_p0_yesLeads)), (h_p0_noLeads, .inl (cI, 5, .inl a_p0_noLeads)), (h_minors, .inl (cJ, 32, .inr (.inl a_minors)))] sz)) 0 0 (va_A [(h_t, .inr (0, [.long v_wholeOfAll, .ref h_parts, .ref h_rows, .ref h_outs, .ref h_minors])), (h_p0, .inr (2, [.int v_p0_units, .ref h_p0_settings, .ref h_p0_yesLeads, .ref h_p0_noLeads, .ref h_p0_percents, .ref h_p0_grades, .ref h_p0_gradeKinds, .ref h_p0_gradePurities, .ref h_p0_gradePrices])), (h_p1, .inl (cI, 5, .inl a_p1)), (h_parts, .inl (cJ, 5, .inr (.inl a_parts))), (h_rows, .inl (cI, 25, .inl a_rows)), (h_outs, .inl (cI, 25, .inl a_outs)), (h_p0_percents, .inl (cI, 75, .inl a_p0_percents)), (h_p0_yesLeads, .inl (cI, 5, .inl a_p0_yesLeads)), (h_p0_noLeads, .inl (cI, 5, .inl a_p0_noLeads)), (h_minors, .inl (cJ, 32, .inr (.inl a_minors)))] sz) := by
  obtain ⟨O, hF⟩ : ∃ O, FX0_solve n v_wholeOfAll v_p0_units a_p1 a_parts a_rows a_outs a_p0_percents a_p0_yesLeads a_p0_noLeads a_minors z3 = O := ⟨_, rfl⟩
  rw [hF] at hN ⊢
  refine enterV (cc := cX0_solve) (nL := 8) (by decide) (Nat.le_of_ble_eq_true rfl) ?_
  intro p e s m below meth c A Q X hA hE hnm hsz hP hD hS hret ls hl
  obtain ⟨hx, hb, hml, hown0, ha⟩ := id X
  have hown : s.vm.findClass RX0 = some m.cls := hown0
  have hK := hE.1
  have hl : lv_has ls 8 [(0, .ref h_t), (1, .ref h_p0), (2, .ref h_p1), (3, .int z3)] := hl
  have hX : CallFix p m c cX0_solve 8 s ([.ref h_t, .ref h_p0, .ref h_p1, .int z3] : List Value).toArray AL RX0 := X
  have X := hX
  have L134 : ∀ (k110 : Int64 → (Nat → Int64) → (Nat → Int32) → (Nat → Int32) → (Nat → Int64) → Int32 → Option (Unit × Int64 × (Nat → Int64) × (Nat → Int32) × (Nat → Int32) × (Nat → Int64))) (ih110 : ∀ (v_wholeOfAll : Int64) (a_parts : Nat → Int64) (a_rows : Nat → Int32) (a_outs : Nat → Int32) (a_minors : Nat → Int64) (x4 : Int32) (H : Heap) (locs : List Loc) (ls : Array Slot), k110 v_wholeOfAll a_parts a_rows a_outs a_minors x4 = O → va_P D classes [(h_t, .inr (0, [.long v_wholeOfAll, .ref h_parts, .ref h_rows, .ref h_outs, .ref h_minors])), (h_p0, .inr (2, [.int v_p0_units, .ref h_p0_settings, .ref h_p0_yesLeads, .ref h_p0_noLeads, .ref h_p0_percents, .ref h_p0_grades, .ref h_p0_gradeKinds, .ref h_p0_gradePurities, .ref h_p0_gradePrices])), (h_p1, .inl (cI, 5, .inl a_p1)), (h_parts, .inl (cJ, 5, .inr (.inl a_parts))), (h_rows, .inl (cI, 25, .inl a_rows)), (h_outs, .inl (cI, 25, .inl a_outs)), (h_p0_percents, .inl (cI, 75, .inl a_p0_percents)), (h_p0_yesLeads, .inl (cI, 5, .inl a_p0_yesLeads)), (h_p0_noLeads, .inl (cI, 5, .inl a_p0_noLeads)), (h_minors, .inl (cJ, 32, .inr (.inl a_minors)))] H → va_D A [(h_t, .inr (0, [.long v_wholeOfAll, .ref h_parts, .ref h_rows, .ref h_outs, .ref h_minors])), (h_p0, .inr (2, [.int v_p0_units, .ref h_p0_settings, .ref h_p0_yesLeads, .ref h_p0_noLeads, .ref h_p0_percents, .ref h_p0_grades, .ref h_p0_gradeKinds, .ref h_p0_gradePurities, .ref h_p0_gradePrices])), (h_p1, .inl (cI, 5, .inl a_p1)), (h_parts, .inl (cJ, 5, .inr (.inl a_parts))), (h_rows, .inl (cI, 25, .inl a_rows)), (h_outs, .inl (cI, 25, .inl a_outs)), (h_p0_percents, .inl (cI, 75, .inl a_p0_percents)), (h_p0_yesLeads, .inl (cI, 5, .inl a_p0_yesLeads)), (h_p0_noLeads, .inl (cI, 5, .inl a_p0_noLeads)), (h_minors, .inl (cJ, 32, .inr (.inl a_minors)))] → va_S A s.heap H locs → lv_has ls 8 [(0, .ref h_t), (1, .ref h_p0), (4, .int x4)] → W p l e rmX0_solve s m ([.ref h_t, .ref h_p0, .ref h_p1, .int z3] : List Value).toArray below meth c H locs 0 0 Q (F0 m 110 ls [])) (k134 : Int64 → (Nat → Int64) → (Nat → Int32) → (Nat → Int32) → (Nat → Int64) → Int32 → Int64 → Int32 → Option (Unit × Int64 × (Nat → Int64) × (Nat → Int32) × (Nat → Int32) × (Nat → Int64))) (ih134 : ∀ (v_wholeOfAll : Int64) (a_parts : Nat → Int64) (a_rows : Nat → Int32) (a_outs : Nat → Int32) (a_minors : Nat → Int64) (x4 : Int32) (x5 : Int64) (x7 : Int32) (H : Heap) (locs : List Loc) (ls : Array Slot), k134 v_wholeOfAll a_parts a_rows a_outs a_minors x4 x5 x7 = O → va_P D classes [(h_t, .inr (0, [.long v_wholeOfAll, .ref h_parts, .ref h_rows, .ref h_outs, .ref h_minors])), (h_p0, .inr (2, [.int v_p0_units, .ref h_p0_settings, .ref h_p0_yesLeads, .ref h_p0_noLeads, .ref h_p0_percents, .ref h_p0_grades, .ref h_p0_gradeKinds, .ref h_p0_gradePurities, .ref h_p0_gradePrices])), (h_p1, .inl (cI, 5, .inl a_p1)), (h_parts, .inl (cJ, 5, .inr (.inl a_parts))), (h_rows, .inl (cI, 25, .inl a_rows)), (h_outs, .inl (cI, 25, .inl a_outs)), (h_p0_percents, .inl (cI, 75, .inl a_p0_percents)), (h_p0_yesLeads, .inl (cI, 5, .inl a_p0_yesLeads)), (h_p0_noLeads, .inl (cI, 5, .inl a_p0_noLeads)), (h_minors, .inl (cJ, 32, .inr (.inl a_minors)))] H → va_D A [(h_t, .inr (0, [.long v_wholeOfAll, .ref h_parts, .ref h_rows, .ref h_outs, .ref h_minors])), (h_p0, .inr (2, [.int v_p0_units, .ref h_p0_settings, .ref h_p0_yesLeads, .ref h_p0_noLeads, .ref h_p0_percents, .ref h_p0_grades, .ref h_p0_gradeKinds, .ref h_p0_gradePurities, .ref h_p0_gradePrices])), (h_p1, .inl (cI, 5, .inl a_p1)), (h_parts, .inl (cJ, 5, .inr (.inl a_parts))), (h_rows, .inl (cI, 25, .inl a_rows)), (h_outs, .inl (cI, 25, .inl a_outs)), (h_p0_percents, .inl (cI, 75, .inl a_p0_percents)), (h_p0_yesLeads, .inl (cI, 5, .inl a_p0_yesLeads)), (h_p0_noLeads, .inl (cI, 5, .inl a_p0_noLeads)), (h_minors, .inl (cJ, 32, .inr (.inl a_minors)))] → va_S A s.heap H locs → lv_has ls 8 [(0, .ref h_t), (1, .ref h_p0), (4, .int x4), (5, .long x5), (7, .int x7)] → W p l e rmX0_solve s m ([.ref h_t, .ref h_p0, .ref h_p1, .int z3] : List Value).toArray below meth c H locs 0 0 Q (F0 m 134 ls [])), ∀ (v_wholeOfAll : Int64) (a_parts : Nat → Int64) (a_rows : Nat → Int32) (a_outs : Nat → Int32) (a_minors : Nat → Int64) (x4 : Int32) (x5 : Int64) (x7 : Int32) (H : Heap) (locs : List Loc) (ls : Array Slot), FX0_solve_134 n v_p0_units a_p1 a_p0_percents a_p0_yesLeads a_p0_noLeads z3 k110 k134 v_wholeOfAll a_parts a_rows a_outs a_minors x4 x5 x7 = O → va_P D classes [(h_t, .inr (0, [.long v_wholeOfAll, .ref h_parts, .ref h_rows, .ref h_outs, .ref h_minors])), (h_p0, .inr (2, [.int v_p0_units, .ref h_p0_settings, .ref h_p0_yesLeads, .ref h_p0_noLeads, .ref h_p0_percents, .ref h_p0_grades, .ref h_p0_gradeKinds, .ref h_p0_gradePurities, .ref h_p0_gradePrices])), (h_p1, .inl (cI, 5, .inl a_p1)), (h_parts, .inl (cJ, 5, .inr (.inl a_parts))), (h_rows, .inl (cI, 25, .inl a_rows)), (h_outs, .inl (cI, 25, .inl a_outs)), (h_p0_percents, .inl (cI, 75, .inl a_p0_percents)), (h_p0_yesLeads, .inl (cI, 5, .inl a_p0_yesLeads)), (h_p0_noLeads, .inl (cI, 5, .inl a_p0_noLeads)), (h_minors, .inl (cJ, 32, .inr (.inl a_minors)))] H → va_D A [(h_t, .inr (0, [.long v_wholeOfAll, .ref h_parts, .ref h_rows, .ref h_outs, .ref h_minors])), (h_p0, .inr (2, [.int v_p0_units, .ref h_p0_settings, .ref h_p0_yesLeads, .ref h_p0_noLeads, .ref h_p0_percents, .ref h_p0_grades, .ref h_p0_gradeKinds, .ref h_p0_gradePurities, .ref h_p0_gradePrices])), (h_p1, .inl (cI, 5, .inl a_p1)), (h_parts, .inl (cJ, 5, .inr (.inl a_parts))), (h_rows, .inl (cI, 25, .inl a_rows)), (h_outs, .inl (cI, 25, .inl a_outs)), (h_p0_percents, .inl (cI, 75, .inl a_p0_percents)), (h_p0_yesLeads, .inl (cI, 5, .inl a_p0_yesLeads)), (h_p0_noLeads, .inl (cI, 5, .inl a_p0_noLeads)), (h_minors, .inl (cJ, 32, .inr (.inl a_minors)))] → va_S A s.heap H locs → lv_has ls 8 [(0, .ref h_t), (1, .ref h_p0), (4, .int x4), (5, .long x5), (7, .int x7)] → W p l e rmX0_solve s m ([.ref h_t, .ref h_p0, .ref h_p1, .int z3] : List Value).toArray below meth c H locs 0 0 Q (F0 m 134 ls []) := by
    intro k110 ih110 k134 ih134 v_wholeOfAll a_parts a_rows a_outs a_minors x4 x5 x7 H locs ls hF hP hD hS hl
    unfold FX0_solve_134 at hF
    refine lv_iload hx hb dX0_solve_134 (lv_at hl 4 rfl) ?_
    refine lv_iconst (v := 5) hx hb dX0_solve_136 (by decide) ?_
    refine lv_icmp_ge (tgt := 172) hx hb dX0_solve_137 (by decide) (fun c_20 => ?_) (fun c_20 => ?_)
    · replace hF := ifT c_20 hF
      obtain ⟨x_21, ex_21⟩ : ∃ y : Int32, y = x4 + (1 : Int32) := ⟨_, rfl⟩
      replace hF := ltP ex_21 hF
      refine lv_iinc (v := x_21) (lv' := [(4, .int x_21), (0, .ref h_t), (1, .ref h_p0), (5, .long x5), (7, .int x7)]) hx hb dX0_solve_172 hl (k := 2) rfl (by rw [ex_21]; rfl) (by decide) rfl (fun ls hl => ?_)
      refine lv_goto (tgt := 110) hx hb dX0_solve_175 (by decide) ?_
      exact ih110 v_wholeOfAll a_parts a_rows a_outs a_minors x_21 H locs ls hF hP hD hS (lv_sub hl [1, 2, 0] rfl)
    · replace hF := ifF c_20 hF
      refine lv_aload_n hx hb dX0_solve_140 rfl (lv_at hl 0 rfl) ?_
      refine va_get (D := D) (ci := 0) (C := RX0) (T := TX0) (N := 5) hx hb ha inAX0 hown hK hP 0 rfl rfl 1 (by decide) (ha _ w_1_171) (fun _ h9 => h9) rfl dX0_solve_141 ?_
      refine lv_iload hx hb dX0_solve_144 (lv_at hl 4 rfl) ?_
      refine lv_dup2_11 hx hb dX0_solve_146 rfl rfl ?_
      replace hF := ckP hN hF
      obtain ⟨c_22, hF⟩ := hF
      refine ld_l hx hb hK hP 3 rfl c_22 dX0_solve_147 ?_
      refine lv_aload_n hx hb dX0_solve_148 rfl (lv_at hl 0 rfl) ?_
      refine va_get (D := D) (ci := 0) (C := RX0) (T := TX0) (N := 5) hx hb ha inAX0 hown hK hP 0 rfl rfl 3 (by decide) (ha _ w_1_175) (fun _ h9 => h9) rfl dX0_solve_149 ?_
      refine lv_iload hx hb dX0_solve_152 (lv_at hl 2 rfl) ?_
      refine lv_iconst (v := 5) hx hb dX0_solve_154 (by decide) ?_
      refine lv_imul hx hb dX0_solve_155 ?_
      refine lv_iload hx hb dX0_solve_156 (lv_at hl 4 rfl) ?_
      refine lv_iadd hx hb dX0_solve_158 ?_
      replace hF := ckP hN hF
      obtain ⟨c_23, hF⟩ := hF
      refine ld_i hx hb hK hP 5 rfl c_23 dX0_solve_159 ?_
      refine lv_i2l hx hb dX0_solve_160 rfl ?_
      refine lv_lload hx hb dX0_solve_161 (lv_at hl 3 rfl) ?_
      refine lv_lmul hx hb dX0_solve_163 ?_
      refine lv_ladd hx hb dX0_solve_164 ?_
      refine lv_topl (fun x_24 ex_24 => ?_)
      replace hF := ltP ex_24 hF
      replace hF := ckP hN hF
      obtain ⟨c_25, hF⟩ := hF
      obtain ⟨f_26, ef_26⟩ : ∃ g : Nat → Int64, g = vp_updL a_parts (x7).toNatClampNeg x_24 := ⟨_, rfl⟩
      replace hF := ltP ef_26 hF
      refine st_l (g := f_26) (W2 := [(h_t, .inr (0, [.long v_wholeOfAll, .ref h_parts, .ref h_rows, .ref h_outs, .ref h_minors])), (h_p0, .inr (2, [.int v_p0_units, .ref h_p0_settings, .ref h_p0_yesLeads, .ref h_p0_noLeads, .ref h_p0_percents, .ref h_p0_grades, .ref h_p0_gradeKinds, .ref h_p0_gradePurities, .ref h_p0_gradePrices])), (h_p1, .inl (cI, 5, .inl a_p1)), (h_parts, .inl (cJ, 5, .inr (.inl f_26))), (h_rows, .inl (cI, 25, .inl a_rows)), (h_outs, .inl (cI, 25, .inl a_outs)), (h_p0_percents, .inl (cI, 75, .inl a_p0_percents)), (h_p0_yesLeads, .inl (cI, 5, .inl a_p0_yesLeads)), (h_p0_noLeads, .inl (cI, 5, .inl a_p0_noLeads)), (h_minors, .inl (cJ, 32, .inr (.inl a_minors)))]) hx hb hK hP hD hS 3 rfl c_25 ef_26 dX0_solve_165 rfl (fun H locs hP hD hS => ?_)
      obtain ⟨x_27, ex_27⟩ : ∃ y : Int32, y = x7 + (1 : Int32) := ⟨_, rfl⟩
      replace hF := ltP ex_27 hF
      refine lv_iinc (v := x_27) (lv' := [(7, .int x_27), (0, .ref h_t), (1, .ref h_p0), (4, .int x4), (5, .long x5)]) hx hb dX0_solve_166 hl (k := 4) rfl (by rw [ex_27]; rfl) (by decide) rfl (fun ls hl => ?_)
      refine lv_goto (tgt := 134) hx hb dX0_solve_169 (by decide) ?_
      exact ih134 v_wholeOfAll f_26 a_rows a_outs a_minors x4 x5 x_27 H locs ls hF hP hD hS (lv_sub hl [1, 2, 3, 4, 0] rfl)
  have Lc134 : ∀ (k110 : Int64 → (Nat → Int64) → (Nat → Int32) → (Nat → Int32) → (Nat → Int64) → Int32 → Option (Unit × Int64 × (Nat → Int64) × (Nat → Int32) × (Nat → Int32) × (Nat → Int64))) (ih110 : ∀ (v_wholeOfAll : Int64) (a_parts : Nat → Int64) (a_rows : Nat → Int32) (a_outs : Nat → Int32) (a_minors : Nat → Int64) (x4 : Int32) (H : Heap) (locs : List Loc) (ls : Array Slot), k110 v_wholeOfAll a_parts a_rows a_outs a_minors x4 = O → va_P D classes [(h_t, .inr (0, [.long v_wholeOfAll, .ref h_parts, .ref h_rows, .ref h_outs, .ref h_minors])), (h_p0, .inr (2, [.int v_p0_units, .ref h_p0_settings, .ref h_p0_yesLeads, .ref h_p0_noLeads, .ref h_p0_percents, .ref h_p0_grades, .ref h_p0_gradeKinds, .ref h_p0_gradePurities, .ref h_p0_gradePrices])), (h_p1, .inl (cI, 5, .inl a_p1)), (h_parts, .inl (cJ, 5, .inr (.inl a_parts))), (h_rows, .inl (cI, 25, .inl a_rows)), (h_outs, .inl (cI, 25, .inl a_outs)), (h_p0_percents, .inl (cI, 75, .inl a_p0_percents)), (h_p0_yesLeads, .inl (cI, 5, .inl a_p0_yesLeads)), (h_p0_noLeads, .inl (cI, 5, .inl a_p0_noLeads)), (h_minors, .inl (cJ, 32, .inr (.inl a_minors)))] H → va_D A [(h_t, .inr (0, [.long v_wholeOfAll, .ref h_parts, .ref h_rows, .ref h_outs, .ref h_minors])), (h_p0, .inr (2, [.int v_p0_units, .ref h_p0_settings, .ref h_p0_yesLeads, .ref h_p0_noLeads, .ref h_p0_percents, .ref h_p0_grades, .ref h_p0_gradeKinds, .ref h_p0_gradePurities, .ref h_p0_gradePrices])), (h_p1, .inl (cI, 5, .inl a_p1)), (h_parts, .inl (cJ, 5, .inr (.inl a_parts))), (h_rows, .inl (cI, 25, .inl a_rows)), (h_outs, .inl (cI, 25, .inl a_outs)), (h_p0_percents, .inl (cI, 75, .inl a_p0_percents)), (h_p0_yesLeads, .inl (cI, 5, .inl a_p0_yesLeads)), (h_p0_noLeads, .inl (cI, 5, .inl a_p0_noLeads)), (h_minors, .inl (cJ, 32, .inr (.inl a_minors)))] → va_S A s.heap H locs → lv_has ls 8 [(0, .ref h_t), (1, .ref h_p0), (4, .int x4)] → W p l e rmX0_solve s m ([.ref h_t, .ref h_p0, .ref h_p1, .int z3] : List Value).toArray below meth c H locs 0 0 Q (F0 m 110 ls [])) (j : Nat), ∀ (v_wholeOfAll : Int64) (a_parts : Nat → Int64) (a_rows : Nat → Int32) (a_outs : Nat → Int32) (a_minors : Nat → Int64) (x4 : Int32) (x5 : Int64) (x7 : Int32) (H : Heap) (locs : List Loc) (ls : Array Slot), FX0_solve_134L n v_p0_units a_p1 a_p0_percents a_p0_yesLeads a_p0_noLeads z3 k110 j v_wholeOfAll a_parts a_rows a_outs a_minors x4 x5 x7 = O → va_P D classes [(h_t, .inr (0, [.long v_wholeOfAll, .ref h_parts, .ref h_rows, .ref h_outs, .ref h_minors])), (h_p0, .inr (2, [.int v_p0_units, .ref h_p0_settings, .ref h_p0_yesLeads, .ref h_p0_noLeads, .ref h_p0_percents, .ref h_p0_grades, .ref h_p0_gradeKinds, .ref h_p0_gradePurities, .ref h_p0_gradePrices])), (h_p1, .inl (cI, 5, .inl a_p1)), (h_parts, .inl (cJ, 5, .inr (.inl a_parts))), (h_rows, .inl (cI, 25, .inl a_rows)), (h_outs, .inl (cI, 25, .inl a_outs)), (h_p0_percents, .inl (cI, 75, .inl a_p0_percents)), (h_p0_yesLeads, .inl (cI, 5, .inl a_p0_yesLeads)), (h_p0_noLeads, .inl (cI, 5, .inl a_p0_noLeads)), (h_minors, .inl (cJ, 32, .inr (.inl a_minors)))] H → va_D A [(h_t, .inr (0, [.long v_wholeOfAll, .ref h_parts, .ref h_rows, .ref h_outs, .ref h_minors])), (h_p0, .inr (2, [.int v_p0_units, .ref h_p0_settings, .ref h_p0_yesLeads, .ref h_p0_noLeads, .ref h_p0_percents, .ref h_p0_grades, .ref h_p0_gradeKinds, .ref h_p0_gradePurities, .ref h_p0_gradePrices])), (h_p1, .inl (cI, 5, .inl a_p1)), (h_parts, .inl (cJ, 5, .inr (.inl a_parts))), (h_rows, .inl (cI, 25, .inl a_rows)), (h_outs, .inl (cI, 25, .inl a_outs)), (h_p0_percents, .inl (cI, 75, .inl a_p0_percents)), (h_p0_yesLeads, .inl (cI, 5, .inl a_p0_yesLeads)), (h_p0_noLeads, .inl (cI, 5, .inl a_p0_noLeads)), (h_minors, .inl (cJ, 32, .inr (.inl a_minors)))] → va_S A s.heap H locs → lv_has ls 8 [(0, .ref h_t), (1, .ref h_p0), (4, .int x4), (5, .long x5), (7, .int x7)] → W p l e rmX0_solve s m ([.ref h_t, .ref h_p0, .ref h_p1, .int z3] : List Value).toArray below meth c H locs 0 0 Q (F0 m 134 ls []) := by
    intro k110 ih110 j
    induction j with
    | zero => intro _ _ _ _ _ _ _ _ H locs ls hF; exact absurd hF.symm hN
    | succ j ih => exact L134 k110 ih110 (FX0_solve_134L n v_p0_units a_p1 a_p0_percents a_p0_yesLeads a_p0_noLeads z3 k110 j) ih
  have L110 : ∀ (k110 : Int64 → (Nat → Int64) → (Nat → Int32) → (Nat → Int32) → (Nat → Int64) → Int32 → Option (Unit × Int64 × (Nat → Int64) × (Nat → Int32) × (Nat → Int32) × (Nat → Int64))) (ih110 : ∀ (v_wholeOfAll : Int64) (a_parts : Nat → Int64) (a_rows : Nat → Int32) (a_outs : Nat → Int32) (a_minors : Nat → Int64) (x4 : Int32) (H : Heap) (locs : List Loc) (ls : Array Slot), k110 v_wholeOfAll a_parts a_rows a_outs a_minors x4 = O → va_P D classes [(h_t, .inr (0, [.long v_wholeOfAll, .ref h_parts, .ref h_rows, .ref h_outs, .ref h_minors])), (h_p0, .inr (2, [.int v_p0_units, .ref h_p0_settings, .ref h_p0_yesLeads, .ref h_p0_noLeads, .ref h_p0_percents, .ref h_p0_grades, .ref h_p0_gradeKinds, .ref h_p0_gradePurities, .ref h_p0_gradePrices])), (h_p1, .inl (cI, 5, .inl a_p1)), (h_parts, .inl (cJ, 5, .inr (.inl a_parts))), (h_rows, .inl (cI, 25, .inl a_rows)), (h_outs, .inl (cI, 25, .inl a_outs)), (h_p0_percents, .inl (cI, 75, .inl a_p0_percents)), (h_p0_yesLeads, .inl (cI, 5, .inl a_p0_yesLeads)), (h_p0_noLeads, .inl (cI, 5, .inl a_p0_noLeads)), (h_minors, .inl (cJ, 32, .inr (.inl a_minors)))] H → va_D A [(h_t, .inr (0, [.long v_wholeOfAll, .ref h_parts, .ref h_rows, .ref h_outs, .ref h_minors])), (h_p0, .inr (2, [.int v_p0_units, .ref h_p0_settings, .ref h_p0_yesLeads, .ref h_p0_noLeads, .ref h_p0_percents, .ref h_p0_grades, .ref h_p0_gradeKinds, .ref h_p0_gradePurities, .ref h_p0_gradePrices])), (h_p1, .inl (cI, 5, .inl a_p1)), (h_parts, .inl (cJ, 5, .inr (.inl a_parts))), (h_rows, .inl (cI, 25, .inl a_rows)), (h_outs, .inl (cI, 25, .inl a_outs)), (h_p0_percents, .inl (cI, 75, .inl a_p0_percents)), (h_p0_yesLeads, .inl (cI, 5, .inl a_p0_yesLeads)), (h_p0_noLeads, .inl (cI, 5, .inl a_p0_noLeads)), (h_minors, .inl (cJ, 32, .inr (.inl a_minors)))] → va_S A s.heap H locs → lv_has ls 8 [(0, .ref h_t), (1, .ref h_p0), (4, .int x4)] → W p l e rmX0_solve s m ([.ref h_t, .ref h_p0, .ref h_p1, .int z3] : List Value).toArray below meth c H locs 0 0 Q (F0 m 110 ls [])), ∀ (v_wholeOfAll : Int64) (a_parts : Nat → Int64) (a_rows : Nat → Int32) (a_outs : Nat → Int32) (a_minors : Nat → Int64) (x4 : Int32) (H : Heap) (locs : List Loc) (ls : Array Slot), FX0_solve_110 n v_p0_units a_p1 a_p0_percents a_p0_yesLeads a_p0_noLeads z3 k110 v_wholeOfAll a_parts a_rows a_outs a_minors x4 = O → va_P D classes [(h_t, .inr (0, [.long v_wholeOfAll, .ref h_parts, .ref h_rows, .ref h_outs, .ref h_minors])), (h_p0, .inr (2, [.int v_p0_units, .ref h_p0_settings, .ref h_p0_yesLeads, .ref h_p0_noLeads, .ref h_p0_percents, .ref h_p0_grades, .ref h_p0_gradeKinds, .ref h_p0_gradePurities, .ref h_p0_gradePrices])), (h_p1, .inl (cI, 5, .inl a_p1)), (h_parts, .inl (cJ, 5, .inr (.inl a_parts))), (h_rows, .inl (cI, 25, .inl a_rows)), (h_outs, .inl (cI, 25, .inl a_outs)), (h_p0_percents, .inl (cI, 75, .inl a_p0_percents)), (h_p0_yesLeads, .inl (cI, 5, .inl a_p0_yesLeads)), (h_p0_noLeads, .inl (cI, 5, .inl a_p0_noLeads)), (h_minors, .inl (cJ, 32, .inr (.inl a_minors)))] H → va_D A [(h_t, .inr (0, [.long v_wholeOfAll, .ref h_parts, .ref h_rows, .ref h_outs, .ref h_minors])), (h_p0, .inr (2, [.int v_p0_units, .ref h_p0_settings, .ref h_p0_yesLeads, .ref h_p0_noLeads, .ref h_p0_percents, .ref h_p0_grades, .ref h_p0_gradeKinds, .ref h_p0_gradePurities, .ref h_p0_gradePrices])), (h_p1, .inl (cI, 5, .inl a_p1)), (h_parts, .inl (cJ, 5, .inr (.inl a_parts))), (h_rows, .inl (cI, 25, .inl a_rows)), (h_outs, .inl (cI, 25, .inl a_outs)), (h_p0_percents, .inl (cI, 75, .inl a_p0_percents)), (h_p0_yesLeads, .inl (cI, 5, .inl a_p0_yesLeads)), (h_p0_noLeads, .inl (cI, 5, .inl a_p0_noLeads)), (h_minors, .inl (cJ, 32, .inr (.inl a_minors)))] → va_S A s.heap H locs → lv_has ls 8 [(0, .ref h_t), (1, .ref h_p0), (4, .int x4)] → W p l e rmX0_solve s m ([.ref h_t, .ref h_p0, .ref h_p1, .int z3] : List Value).toArray below meth c H locs 0 0 Q (F0 m 110 ls []) := by
    intro k110 ih110 v_wholeOfAll a_parts a_rows a_outs a_minors x4 H locs ls hF hP hD hS hl
    unfold FX0_solve_110 at hF
    refine lv_iload hx hb dX0_solve_110 (lv_at hl 2 rfl) ?_
    refine lv_aload_n hx hb dX0_solve_112 rfl (lv_at hl 1 rfl) ?_
    refine va_getN (D := D) (ci := 2) (C := RX2) (T := TX2) (N := 9) hx hb ha inAX2 hown hK hP 1 rfl rfl 0 (by decide) (va_Nw.use rfl (hE.2.1 _ w_1_28)) (fun _ h9 => h9) rfl dX0_solve_113 ?_
    refine lv_icmp_ge (tgt := 178) hx hb dX0_solve_116 (by decide) (fun c_17 => ?_) (fun c_17 => ?_)
    · replace hF := ifT c_17 hF
      exact hret ((), v_wholeOfAll, a_parts, a_rows, a_outs, a_minors) H locs ls _ hF hP hD hS dX0_solve_178
    · replace hF := ifF c_17 hF
      refine lv_aload_n hx hb dX0_solve_119 rfl (lv_at hl 0 rfl) ?_
      refine lv_iload hx hb dX0_solve_120 (lv_at hl 2 rfl) ?_
      refine lv_aload_n hx hb dX0_solve_122 rfl (lv_at hl 1 rfl) ?_
      refine va_getN (D := D) (ci := 2) (C := RX2) (T := TX2) (N := 9) hx hb ha inAX2 hown hK hP 1 rfl rfl 0 (by decide) (va_Nw.use rfl (hE.2.1 _ w_1_28)) (fun _ h9 => h9) rfl dX0_solve_123 ?_
      have hn_18 := bdN hN hF
      refine callVJ (As := [.int x4, .int v_p0_units]) (rest := []) (wr := [(h_p0, .inr (2, [.int v_p0_units, .ref h_p0_settings, .ref h_p0_yesLeads, .ref h_p0_noLeads, .ref h_p0_percents, .ref h_p0_grades, .ref h_p0_gradeKinds, .ref h_p0_gradePurities, .ref h_p0_gradePrices])), (h_p1, .inl (cI, 5, .inl a_p1)), (h_parts, .inl (cJ, 5, .inr (.inl a_parts))), (h_rows, .inl (cI, 25, .inl a_rows)), (h_outs, .inl (cI, 25, .inl a_outs)), (h_p0_percents, .inl (cI, 75, .inl a_p0_percents)), (h_p0_yesLeads, .inl (cI, 5, .inl a_p0_yesLeads)), (h_p0_noLeads, .inl (cI, 5, .inl a_p0_noLeads))]) (W2 := fun u_19 => [(h_t, .inr (0, [.long v_wholeOfAll, .ref h_parts, .ref h_rows, .ref h_outs, .ref h_minors])), (h_p0, .inr (2, [.int v_p0_units, .ref h_p0_settings, .ref h_p0_yesLeads, .ref h_p0_noLeads, .ref h_p0_percents, .ref h_p0_grades, .ref h_p0_gradeKinds, .ref h_p0_gradePurities, .ref h_p0_gradePrices])), (h_p1, .inl (cI, 5, .inl a_p1)), (h_parts, .inl (cJ, 5, .inr (.inl a_parts))), (h_rows, .inl (cI, 25, .inl a_rows)), (h_outs, .inl (cI, 25, .inl a_outs)), (h_p0_percents, .inl (cI, 75, .inl a_p0_percents)), (h_p0_yesLeads, .inl (cI, 5, .inl a_p0_yesLeads)), (h_p0_noLeads, .inl (cI, 5, .inl a_p0_noLeads)), (h_minors, .inl (cJ, 32, .inr (.inl a_minors)))]) X hE hP hD hS hA (kX0_cofactor l D cB cI cJ cZ rz n H.size h_t h_minors h_parts h_rows h_outs v_wholeOfAll a_minors x4 v_p0_units hn_18) w_2_218 w_2_220 ws_31 w_1_5 w_2_221 cb_X0_cofactor rfl rfl ⟨Nat.le_of_ble_eq_true rfl, Nat.le_of_ble_eq_true rfl⟩ rfl hl.1 rfl (Nat.le_of_ble_eq_true rfl) dX0_solve_126 ⟨Nat.le_of_ble_eq_true rfl, Nat.le_of_ble_eq_true rfl⟩ (c2 := 0) (s2 := 0) rfl rfl (k0 := 0) rfl rfl [0, 9] [1, 2, 3, 4, 5, 6, 7, 8] [8, 0, 1, 2, 3, 4, 5, 6, 7, 9] rfl rfl (by decide) (by decide) (by decide) (by decide) (fun _ => rfl) (fun u_19 H locs hG hP hD hS => ?_)
      replace hF := bdQ hG hF
      refine lv_lstore (lv' := [(5, .long u_19.1), (0, .ref h_t), (1, .ref h_p0), (4, .int x4)]) hx hb dX0_solve_129 hl (by decide) rfl (fun ls hl => ?_)
      refine lv_iconst (v := 0) hx hb dX0_solve_131 (by decide) ?_
      refine lv_istore (lv' := [(7, .int (0 : Int32)), (5, .long u_19.1), (0, .ref h_t), (1, .ref h_p0), (4, .int x4)]) hx hb dX0_solve_132 hl (by decide) rfl (fun ls hl => ?_)
      exact Lc134 k110 ih110 n v_wholeOfAll a_parts a_rows a_outs a_minors x4 u_19.1 (0 : Int32) H locs ls hF hP hD hS (lv_sub hl [2, 3, 4, 1, 0] rfl)
  have Lc110 : ∀ (j : Nat), ∀ (v_wholeOfAll : Int64) (a_parts : Nat → Int64) (a_rows : Nat → Int32) (a_outs : Nat → Int32) (a_minors : Nat → Int64) (x4 : Int32) (H : Heap) (locs : List Loc) (ls : Array Slot), FX0_solve_110L n v_p0_units a_p1 a_p0_percents a_p0_yesLeads a_p0_noLeads z3 j v_wholeOfAll a_parts a_rows a_outs a_minors x4 = O → va_P D classes [(h_t, .inr (0, [.long v_wholeOfAll, .ref h_parts, .ref h_rows, .ref h_outs, .ref h_minors])), (h_p0, .inr (2, [.int v_p0_units, .ref h_p0_settings, .ref h_p0_yesLeads, .ref h_p0_noLeads, .ref h_p0_percents, .ref h_p0_grades, .ref h_p0_gradeKinds, .ref h_p0_gradePurities, .ref h_p0_gradePrices])), (h_p1, .inl (cI, 5, .inl a_p1)), (h_parts, .inl (cJ, 5, .inr (.inl a_parts))), (h_rows, .inl (cI, 25, .inl a_rows)), (h_outs, .inl (cI, 25, .inl a_outs)), (h_p0_percents, .inl (cI, 75, .inl a_p0_percents)), (h_p0_yesLeads, .inl (cI, 5, .inl a_p0_yesLeads)), (h_p0_noLeads, .inl (cI, 5, .inl a_p0_noLeads)), (h_minors, .inl (cJ, 32, .inr (.inl a_minors)))] H → va_D A [(h_t, .inr (0, [.long v_wholeOfAll, .ref h_parts, .ref h_rows, .ref h_outs, .ref h_minors])), (h_p0, .inr (2, [.int v_p0_units, .ref h_p0_settings, .ref h_p0_yesLeads, .ref h_p0_noLeads, .ref h_p0_percents, .ref h_p0_grades, .ref h_p0_gradeKinds, .ref h_p0_gradePurities, .ref h_p0_gradePrices])), (h_p1, .inl (cI, 5, .inl a_p1)), (h_parts, .inl (cJ, 5, .inr (.inl a_parts))), (h_rows, .inl (cI, 25, .inl a_rows)), (h_outs, .inl (cI, 25, .inl a_outs)), (h_p0_percents, .inl (cI, 75, .inl a_p0_percents)), (h_p0_yesLeads, .inl (cI, 5, .inl a_p0_yesLeads)), (h_p0_noLeads, .inl (cI, 5, .inl a_p0_noLeads)), (h_minors, .inl (cJ, 32, .inr (.inl a_minors)))] → va_S A s.heap H locs → lv_has ls 8 [(0, .ref h_t), (1, .ref h_p0), (4, .int x4)] → W p l e rmX0_solve s m ([.ref h_t, .ref h_p0, .ref h_p1, .int z3] : List Value).toArray below meth c H locs 0 0 Q (F0 m 110 ls []) := by
    intro j
    induction j with
    | zero => intro _ _ _ _ _ _ H locs ls hF; exact absurd hF.symm hN
    | succ j ih => exact L110 (FX0_solve_110L n v_p0_units a_p1 a_p0_percents a_p0_yesLeads a_p0_noLeads z3 j) ih
  have L52 : ∀ (k52 : Int64 → (Nat → Int64) → (Nat → Int32) → (Nat → Int32) → (Nat → Int64) → Int32 → Option (Unit × Int64 × (Nat → Int64) × (Nat → Int32) × (Nat → Int32) × (Nat → Int64))) (ih52 : ∀ (v_wholeOfAll : Int64) (a_parts : Nat → Int64) (a_rows : Nat → Int32) (a_outs : Nat → Int32) (a_minors : Nat → Int64) (x4 : Int32) (H : Heap) (locs : List Loc) (ls : Array Slot), k52 v_wholeOfAll a_parts a_rows a_outs a_minors x4 = O → va_P D classes [(h_t, .inr (0, [.long v_wholeOfAll, .ref h_parts, .ref h_rows, .ref h_outs, .ref h_minors])), (h_p0, .inr (2, [.int v_p0_units, .ref h_p0_settings, .ref h_p0_yesLeads, .ref h_p0_noLeads, .ref h_p0_percents, .ref h_p0_grades, .ref h_p0_gradeKinds, .ref h_p0_gradePurities, .ref h_p0_gradePrices])), (h_p1, .inl (cI, 5, .inl a_p1)), (h_parts, .inl (cJ, 5, .inr (.inl a_parts))), (h_rows, .inl (cI, 25, .inl a_rows)), (h_outs, .inl (cI, 25, .inl a_outs)), (h_p0_percents, .inl (cI, 75, .inl a_p0_percents)), (h_p0_yesLeads, .inl (cI, 5, .inl a_p0_yesLeads)), (h_p0_noLeads, .inl (cI, 5, .inl a_p0_noLeads)), (h_minors, .inl (cJ, 32, .inr (.inl a_minors)))] H → va_D A [(h_t, .inr (0, [.long v_wholeOfAll, .ref h_parts, .ref h_rows, .ref h_outs, .ref h_minors])), (h_p0, .inr (2, [.int v_p0_units, .ref h_p0_settings, .ref h_p0_yesLeads, .ref h_p0_noLeads, .ref h_p0_percents, .ref h_p0_grades, .ref h_p0_gradeKinds, .ref h_p0_gradePurities, .ref h_p0_gradePrices])), (h_p1, .inl (cI, 5, .inl a_p1)), (h_parts, .inl (cJ, 5, .inr (.inl a_parts))), (h_rows, .inl (cI, 25, .inl a_rows)), (h_outs, .inl (cI, 25, .inl a_outs)), (h_p0_percents, .inl (cI, 75, .inl a_p0_percents)), (h_p0_yesLeads, .inl (cI, 5, .inl a_p0_yesLeads)), (h_p0_noLeads, .inl (cI, 5, .inl a_p0_noLeads)), (h_minors, .inl (cJ, 32, .inr (.inl a_minors)))] → va_S A s.heap H locs → lv_has ls 8 [(0, .ref h_t), (1, .ref h_p0), (4, .int x4)] → W p l e rmX0_solve s m ([.ref h_t, .ref h_p0, .ref h_p1, .int z3] : List Value).toArray below meth c H locs 0 0 Q (F0 m 52 ls [])), ∀ (v_wholeOfAll : Int64) (a_parts : Nat → Int64) (a_rows : Nat → Int32) (a_outs : Nat → Int32) (a_minors : Nat → Int64) (x4 : Int32) (H : Heap) (locs : List Loc) (ls : Array Slot), FX0_solve_52 n v_p0_units a_p1 a_p0_percents a_p0_yesLeads a_p0_noLeads z3 k52 v_wholeOfAll a_parts a_rows a_outs a_minors x4 = O → va_P D classes [(h_t, .inr (0, [.long v_wholeOfAll, .ref h_parts, .ref h_rows, .ref h_outs, .ref h_minors])), (h_p0, .inr (2, [.int v_p0_units, .ref h_p0_settings, .ref h_p0_yesLeads, .ref h_p0_noLeads, .ref h_p0_percents, .ref h_p0_grades, .ref h_p0_gradeKinds, .ref h_p0_gradePurities, .ref h_p0_gradePrices])), (h_p1, .inl (cI, 5, .inl a_p1)), (h_parts, .inl (cJ, 5, .inr (.inl a_parts))), (h_rows, .inl (cI, 25, .inl a_rows)), (h_outs, .inl (cI, 25, .inl a_outs)), (h_p0_percents, .inl (cI, 75, .inl a_p0_percents)), (h_p0_yesLeads, .inl (cI, 5, .inl a_p0_yesLeads)), (h_p0_noLeads, .inl (cI, 5, .inl a_p0_noLeads)), (h_minors, .inl (cJ, 32, .inr (.inl a_minors)))] H → va_D A [(h_t, .inr (0, [.long v_wholeOfAll, .ref h_parts, .ref h_rows, .ref h_outs, .ref h_minors])), (h_p0, .inr (2, [.int v_p0_units, .ref h_p0_settings, .ref h_p0_yesLeads, .ref h_p0_noLeads, .ref h_p0_percents, .ref h_p0_grades, .ref h_p0_gradeKinds, .ref h_p0_gradePurities, .ref h_p0_gradePrices])), (h_p1, .inl (cI, 5, .inl a_p1)), (h_parts, .inl (cJ, 5, .inr (.inl a_parts))), (h_rows, .inl (cI, 25, .inl a_rows)), (h_outs, .inl (cI, 25, .inl a_outs)), (h_p0_percents, .inl (cI, 75, .inl a_p0_percents)), (h_p0_yesLeads, .inl (cI, 5, .inl a_p0_yesLeads)), (h_p0_noLeads, .inl (cI, 5, .inl a_p0_noLeads)), (h_minors, .inl (cJ, 32, .inr (.inl a_minors)))] → va_S A s.heap H locs → lv_has ls 8 [(0, .ref h_t), (1, .ref h_p0), (4, .int x4)] → W p l e rmX0_solve s m ([.ref h_t, .ref h_p0, .ref h_p1, .int z3] : List Value).toArray below meth c H locs 0 0 Q (F0 m 52 ls []) := by
    intro k52 ih52 v_wholeOfAll a_parts a_rows a_outs a_minors x4 H locs ls hF hP hD hS hl
    unfold FX0_solve_52 at hF
    refine lv_iload hx hb dX0_solve_52 (lv_at hl 2 rfl) ?_
    refine lv_aload_n hx hb dX0_solve_54 rfl (lv_at hl 1 rfl) ?_
    refine va_getN (D := D) (ci := 2) (C := RX2) (T := TX2) (N := 9) hx hb ha inAX2 hown hK hP 1 rfl rfl 0 (by decide) (va_Nw.use rfl (hE.2.1 _ w_1_28)) (fun _ h9 => h9) rfl dX0_solve_55 ?_
    refine lv_icmp_ge (tgt := 97) hx hb dX0_solve_58 (by decide) (fun c_10 => ?_) (fun c_10 => ?_)
    · replace hF := ifT c_10 hF
      refine lv_aload_n hx hb dX0_solve_97 rfl (lv_at hl 0 rfl) ?_
      refine va_get (D := D) (ci := 0) (C := RX0) (T := TX0) (N := 5) hx hb ha inAX0 hown hK hP 0 rfl rfl 0 (by decide) (ha _ w_1_168) (fun _ h9 => h9) rfl dX0_solve_98 ?_
      refine lv_lconst (v := 0) hx hb dX0_solve_101 (by decide) ?_
      refine W.lcmp hx hb dX0_solve_102 ?_
      refine lv_if_ne (tgt := 107) hx hb dX0_solve_103 (by decide) (fun c_11 => ?_) (fun c_11 => ?_)
      · replace hF := ifF c_11 hF
        refine lv_iconst (v := 0) hx hb dX0_solve_107 (by decide) ?_
        refine lv_istore (lv' := [(4, .int (0 : Int32)), (0, .ref h_t), (1, .ref h_p0)]) hx hb dX0_solve_108 hl (by decide) rfl (fun ls hl => ?_)
        exact Lc110 n v_wholeOfAll a_parts a_rows a_outs a_minors (0 : Int32) H locs ls hF hP hD hS (lv_sub hl [1, 2, 0] rfl)
      · replace hF := ifT c_11 hF
        exact hret ((), v_wholeOfAll, a_parts, a_rows, a_outs, a_minors) H locs ls _ hF hP hD hS dX0_solve_106
    · replace hF := ifF c_10 hF
      refine lv_aload_n hx hb dX0_solve_61 rfl (lv_at hl 0 rfl) ?_
      refine lv_dup hx hb dX0_solve_62 rfl ?_
      refine va_get (D := D) (ci := 0) (C := RX0) (T := TX0) (N := 5) hx hb ha inAX0 hown hK hP 0 rfl rfl 0 (by decide) (ha _ w_1_168) (fun _ h9 => h9) rfl dX0_solve_63 ?_
      refine lv_aload_n hx hb dX0_solve_66 rfl (lv_at hl 0 rfl) ?_
      refine va_get (D := D) (ci := 0) (C := RX0) (T := TX0) (N := 5) hx hb ha inAX0 hown hK hP 0 rfl rfl 2 (by decide) (ha _ w_1_174) (fun _ h9 => h9) rfl dX0_solve_67 ?_
      refine lv_iload hx hb dX0_solve_70 (lv_at hl 2 rfl) ?_
      refine lv_iconst (v := 5) hx hb dX0_solve_72 (by decide) ?_
      refine lv_imul hx hb dX0_solve_73 ?_
      replace hF := ckP hN hF
      obtain ⟨c_12, hF⟩ := hF
      refine ld_i hx hb hK hP 4 rfl c_12 dX0_solve_74 ?_
      refine lv_i2l hx hb dX0_solve_75 rfl ?_
      refine lv_aload_n hx hb dX0_solve_76 rfl (lv_at hl 0 rfl) ?_
      refine lv_iload hx hb dX0_solve_77 (lv_at hl 2 rfl) ?_
      refine lv_aload_n hx hb dX0_solve_79 rfl (lv_at hl 1 rfl) ?_
      refine va_getN (D := D) (ci := 2) (C := RX2) (T := TX2) (N := 9) hx hb ha inAX2 hown hK hP 1 rfl rfl 0 (by decide) (va_Nw.use rfl (hE.2.1 _ w_1_28)) (fun _ h9 => h9) rfl dX0_solve_80 ?_
      have hn_13 := bdN hN hF
      refine callVJ (As := [.int x4, .int v_p0_units]) (rest := [.long (((a_rows ((x4 * (5 : Int32))).toNatClampNeg)).toInt64), .long v_wholeOfAll, .ref h_t]) (wr := [(h_p0, .inr (2, [.int v_p0_units, .ref h_p0_settings, .ref h_p0_yesLeads, .ref h_p0_noLeads, .ref h_p0_percents, .ref h_p0_grades, .ref h_p0_gradeKinds, .ref h_p0_gradePurities, .ref h_p0_gradePrices])), (h_p1, .inl (cI, 5, .inl a_p1)), (h_parts, .inl (cJ, 5, .inr (.inl a_parts))), (h_rows, .inl (cI, 25, .inl a_rows)), (h_outs, .inl (cI, 25, .inl a_outs)), (h_p0_percents, .inl (cI, 75, .inl a_p0_percents)), (h_p0_yesLeads, .inl (cI, 5, .inl a_p0_yesLeads)), (h_p0_noLeads, .inl (cI, 5, .inl a_p0_noLeads))]) (W2 := fun u_14 => [(h_t, .inr (0, [.long v_wholeOfAll, .ref h_parts, .ref h_rows, .ref h_outs, .ref h_minors])), (h_p0, .inr (2, [.int v_p0_units, .ref h_p0_settings, .ref h_p0_yesLeads, .ref h_p0_noLeads, .ref h_p0_percents, .ref h_p0_grades, .ref h_p0_gradeKinds, .ref h_p0_gradePurities, .ref h_p0_gradePrices])), (h_p1, .inl (cI, 5, .inl a_p1)), (h_parts, .inl (cJ, 5, .inr (.inl a_parts))), (h_rows, .inl (cI, 25, .inl a_rows)), (h_outs, .inl (cI, 25, .inl a_outs)), (h_p0_percents, .inl (cI, 75, .inl a_p0_percents)), (h_p0_yesLeads, .inl (cI, 5, .inl a_p0_yesLeads)), (h_p0_noLeads, .inl (cI, 5, .inl a_p0_noLeads)), (h_minors, .inl (cJ, 32, .inr (.inl a_minors)))]) X hE hP hD hS hA (kX0_cofactor l D cB cI cJ cZ rz n H.size h_t h_minors h_parts h_rows h_outs v_wholeOfAll a_minors x4 v_p0_units hn_13) w_2_218 w_2_220 ws_31 w_1_5 w_2_221 cb_X0_cofactor rfl rfl ⟨Nat.le_of_ble_eq_true rfl, Nat.le_of_ble_eq_true rfl⟩ rfl hl.1 rfl (Nat.le_of_ble_eq_true rfl) dX0_solve_83 ⟨Nat.le_of_ble_eq_true rfl, Nat.le_of_ble_eq_true rfl⟩ (c2 := 0) (s2 := 0) rfl rfl (k0 := 0) rfl rfl [0, 9] [1, 2, 3, 4, 5, 6, 7, 8] [8, 0, 1, 2, 3, 4, 5, 6, 7, 9] rfl rfl (by decide) (by decide) (by decide) (by decide) (fun _ => rfl) (fun u_14 H locs hG hP hD hS => ?_)
      replace hF := bdQ hG hF
      refine lv_lmul hx hb dX0_solve_86 ?_
      refine lv_ladd hx hb dX0_solve_87 ?_
      refine lv_topl (fun x_15 ex_15 => ?_)
      replace hF := ltP ex_15 hF
      refine pt (C := RX0) (T := TX0) (N := 5) (ci := 0) (v := .long x_15) (W2 := [(h_t, .inr (0, [.long x_15, .ref h_parts, .ref h_rows, .ref h_outs, .ref h_minors])), (h_p0, .inr (2, [.int v_p0_units, .ref h_p0_settings, .ref h_p0_yesLeads, .ref h_p0_noLeads, .ref h_p0_percents, .ref h_p0_grades, .ref h_p0_gradeKinds, .ref h_p0_gradePurities, .ref h_p0_gradePrices])), (h_p1, .inl (cI, 5, .inl a_p1)), (h_parts, .inl (cJ, 5, .inr (.inl a_parts))), (h_rows, .inl (cI, 25, .inl a_rows)), (h_outs, .inl (cI, 25, .inl a_outs)), (h_p0_percents, .inl (cI, 75, .inl a_p0_percents)), (h_p0_yesLeads, .inl (cI, 5, .inl a_p0_yesLeads)), (h_p0_noLeads, .inl (cI, 5, .inl a_p0_noLeads)), (h_minors, .inl (cJ, 32, .inr (.inl a_minors)))]) hx hb ha inAX0 tyX0 tyX0_ok nmX0 hown hK hP hD hS 0 rfl rfl 0 (by decide) (ha _ w_1_168) rfl rfl rfl rfl (Nat.le_of_ble_eq_true rfl) dX0_solve_88 rfl (fun H locs hP hD hS => ?_)
      obtain ⟨x_16, ex_16⟩ : ∃ y : Int32, y = x4 + (1 : Int32) := ⟨_, rfl⟩
      replace hF := ltP ex_16 hF
      refine lv_iinc (v := x_16) (lv' := [(4, .int x_16), (0, .ref h_t), (1, .ref h_p0)]) hx hb dX0_solve_91 hl (k := 2) rfl (by rw [ex_16]; rfl) (by decide) rfl (fun ls hl => ?_)
      refine lv_goto (tgt := 52) hx hb dX0_solve_94 (by decide) ?_
      exact ih52 x_15 a_parts a_rows a_outs a_minors x_16 H locs ls hF hP hD hS (lv_sub hl [1, 2, 0] rfl)
  have Lc52 : ∀ (j : Nat), ∀ (v_wholeOfAll : Int64) (a_parts : Nat → Int64) (a_rows : Nat → Int32) (a_outs : Nat → Int32) (a_minors : Nat → Int64) (x4 : Int32) (H : Heap) (locs : List Loc) (ls : Array Slot), FX0_solve_52L n v_p0_units a_p1 a_p0_percents a_p0_yesLeads a_p0_noLeads z3 j v_wholeOfAll a_parts a_rows a_outs a_minors x4 = O → va_P D classes [(h_t, .inr (0, [.long v_wholeOfAll, .ref h_parts, .ref h_rows, .ref h_outs, .ref h_minors])), (h_p0, .inr (2, [.int v_p0_units, .ref h_p0_settings, .ref h_p0_yesLeads, .ref h_p0_noLeads, .ref h_p0_percents, .ref h_p0_grades, .ref h_p0_gradeKinds, .ref h_p0_gradePurities, .ref h_p0_gradePrices])), (h_p1, .inl (cI, 5, .inl a_p1)), (h_parts, .inl (cJ, 5, .inr (.inl a_parts))), (h_rows, .inl (cI, 25, .inl a_rows)), (h_outs, .inl (cI, 25, .inl a_outs)), (h_p0_percents, .inl (cI, 75, .inl a_p0_percents)), (h_p0_yesLeads, .inl (cI, 5, .inl a_p0_yesLeads)), (h_p0_noLeads, .inl (cI, 5, .inl a_p0_noLeads)), (h_minors, .inl (cJ, 32, .inr (.inl a_minors)))] H → va_D A [(h_t, .inr (0, [.long v_wholeOfAll, .ref h_parts, .ref h_rows, .ref h_outs, .ref h_minors])), (h_p0, .inr (2, [.int v_p0_units, .ref h_p0_settings, .ref h_p0_yesLeads, .ref h_p0_noLeads, .ref h_p0_percents, .ref h_p0_grades, .ref h_p0_gradeKinds, .ref h_p0_gradePurities, .ref h_p0_gradePrices])), (h_p1, .inl (cI, 5, .inl a_p1)), (h_parts, .inl (cJ, 5, .inr (.inl a_parts))), (h_rows, .inl (cI, 25, .inl a_rows)), (h_outs, .inl (cI, 25, .inl a_outs)), (h_p0_percents, .inl (cI, 75, .inl a_p0_percents)), (h_p0_yesLeads, .inl (cI, 5, .inl a_p0_yesLeads)), (h_p0_noLeads, .inl (cI, 5, .inl a_p0_noLeads)), (h_minors, .inl (cJ, 32, .inr (.inl a_minors)))] → va_S A s.heap H locs → lv_has ls 8 [(0, .ref h_t), (1, .ref h_p0), (4, .int x4)] → W p l e rmX0_solve s m ([.ref h_t, .ref h_p0, .ref h_p1, .int z3] : List Value).toArray below meth c H locs 0 0 Q (F0 m 52 ls []) := by
    intro j
    induction j with
    | zero => intro _ _ _ _ _ _ H locs ls hF; exact absurd hF.symm hN
    | succ j ih => exact L52 (FX0_solve_52L n v_p0_units a_p1 a_p0_percents a_p0_yesLeads a_p0_noLeads z3 j) ih
  unfold FX0_solve at hF
  obtain ⟨H, hH⟩ : ∃ H, H = s.heap := ⟨_, rfl⟩
  obtain ⟨locs, hlo⟩ : ∃ locs : List Loc, locs = [] := ⟨_, rfl⟩
  have hS : va_S A s.heap H locs := by rw [hH, hlo]; exact hS
  rw [← hH] at hP
  have goal : W p l e rmX0_solve s m ([.ref h_t, .ref h_p0, .ref h_p1, .int z3] : List Value).toArray below meth c H locs 0 0 Q (F0 m 0 ls []) := by
    refine lv_aload_n hx hb dX0_solve_0 rfl (lv_at hl 0 rfl) ?_
    refine va_get (D := D) (ci := 0) (C := RX0) (T := TX0) (N := 5) hx hb ha inAX0 hown hK hP 0 rfl rfl 1 (by decide) (ha _ w_1_171) (fun _ h9 => h9) rfl dX0_solve_1 ?_
    refine lv_lconst (v := 0) hx hb dX0_solve_4 (by decide) ?_
    have hn_1 := bdN hN hF
    refine callSV (As := [.ref h_parts, .long (0 : Int64)]) (rest := []) (wr := [(h_t, .inr (0, [.long v_wholeOfAll, .ref h_parts, .ref h_rows, .ref h_outs, .ref h_minors])), (h_p0, .inr (2, [.int v_p0_units, .ref h_p0_settings, .ref h_p0_yesLeads, .ref h_p0_noLeads, .ref h_p0_percents, .ref h_p0_grades, .ref h_p0_gradeKinds, .ref h_p0_gradePurities, .ref h_p0_gradePrices])), (h_p1, .inl (cI, 5, .inl a_p1)), (h_rows, .inl (cI, 25, .inl a_rows)), (h_outs, .inl (cI, 25, .inl a_outs)), (h_p0_percents, .inl (cI, 75, .inl a_p0_percents)), (h_p0_yesLeads, .inl (cI, 5, .inl a_p0_yesLeads)), (h_p0_noLeads, .inl (cI, 5, .inl a_p0_noLeads)), (h_minors, .inl (cJ, 32, .inr (.inl a_minors)))]) (W2 := fun u_2 => [(h_t, .inr (0, [.long v_wholeOfAll, .ref h_parts, .ref h_rows, .ref h_outs, .ref h_minors])), (h_p0, .inr (2, [.int v_p0_units, .ref h_p0_settings, .ref h_p0_yesLeads, .ref h_p0_noLeads, .ref h_p0_percents, .ref h_p0_grades, .ref h_p0_gradeKinds, .ref h_p0_gradePurities, .ref h_p0_gradePrices])), (h_p1, .inl (cI, 5, .inl a_p1)), (h_parts, .inl (cJ, 5, .inr (.inl u_2.2))), (h_rows, .inl (cI, 25, .inl a_rows)), (h_outs, .inl (cI, 25, .inl a_outs)), (h_p0_percents, .inl (cI, 75, .inl a_p0_percents)), (h_p0_yesLeads, .inl (cI, 5, .inl a_p0_yesLeads)), (h_p0_noLeads, .inl (cI, 5, .inl a_p0_noLeads)), (h_minors, .inl (cJ, 32, .inr (.inl a_minors)))]) X hE hP hD hS hA (kJ7_fill_d0a16 l D cB cI cJ cZ rz n H.size 5 h_parts a_parts (0 : Int64) hn_1) w_2_191 w_2_192 w_1_8 w_2_193 cb_J7_fill_d0a16 rfl rfl ⟨Nat.le_of_ble_eq_true rfl, Nat.le_of_ble_eq_true rfl⟩ rfl hl.1 rfl (Nat.le_of_ble_eq_true rfl) dX0_solve_5 ⟨Nat.le_of_ble_eq_true rfl, Nat.le_of_ble_eq_true rfl⟩ (c2 := 0) (s2 := 0) rfl rfl [3] [0, 1, 2, 4, 5, 6, 7, 8, 9] [0, 1, 2, 9, 3, 4, 5, 6, 7, 8] rfl rfl (by decide) (by decide) (by decide) (by decide) (fun _ => rfl) (fun u_2 H locs hG hP hD hS => ?_)
    replace hF := bdQ hG hF
    refine lv_aload_n hx hb dX0_solve_8 rfl (lv_at hl 1 rfl) ?_
    refine va_getN (D := D) (ci := 2) (C := RX2) (T := TX2) (N := 9) hx hb ha inAX2 hown hK hP 1 rfl rfl 0 (by decide) (va_Nw.use rfl (hE.2.1 _ w_1_28)) (fun _ h9 => h9) rfl dX0_solve_9 ?_
    refine lv_iconst (v := 1) hx hb dX0_solve_12 (by decide) ?_
    refine lv_icmp_ge (tgt := 29) hx hb dX0_solve_13 (by decide) (fun c_3 => ?_) (fun c_3 => ?_)
    · replace hF := ifT c_3 hF
      refine lv_aload_n hx hb dX0_solve_29 rfl (lv_at hl 0 rfl) ?_
      refine lv_aload_n hx hb dX0_solve_30 rfl (lv_at hl 1 rfl) ?_
      refine lv_aload_n hx hb dX0_solve_31 rfl (lv_at hl 2 rfl) ?_
      refine lv_iload_n hx hb dX0_solve_32 rfl (lv_at hl 3 rfl) ?_
      have hn_4 := bdN hN hF
      refine callVV (As := [.ref h_p0, .ref h_p1, .int z3]) (rest := []) (wr := [(h_parts, .inl (cJ, 5, .inr (.inl u_2.2))), (h_minors, .inl (cJ, 32, .inr (.inl a_minors)))]) (W2 := fun u_5 => [(h_t, .inr (0, [.long v_wholeOfAll, .ref h_parts, .ref h_rows, .ref h_outs, .ref h_minors])), (h_p0, .inr (2, [.int v_p0_units, .ref h_p0_settings, .ref h_p0_yesLeads, .ref h_p0_noLeads, .ref h_p0_percents, .ref h_p0_grades, .ref h_p0_gradeKinds, .ref h_p0_gradePurities, .ref h_p0_gradePrices])), (h_p1, .inl (cI, 5, .inl a_p1)), (h_parts, .inl (cJ, 5, .inr (.inl u_2.2))), (h_rows, .inl (cI, 25, .inl u_5.2.1)), (h_outs, .inl (cI, 25, .inl u_5.2.2)), (h_p0_percents, .inl (cI, 75, .inl a_p0_percents)), (h_p0_yesLeads, .inl (cI, 5, .inl a_p0_yesLeads)), (h_p0_noLeads, .inl (cI, 5, .inl a_p0_noLeads)), (h_minors, .inl (cJ, 32, .inr (.inl a_minors)))]) X hE hP hD hS hA (kX0_layRows l D cB cI cJ cZ rz n H.size h_t h_p0 h_p1 h_rows h_outs h_p0_percents h_p0_yesLeads h_p0_noLeads h_parts h_minors h_p0_settings h_p0_grades h_p0_gradeKinds h_p0_gradePurities h_p0_gradePrices v_wholeOfAll v_p0_units a_p1 a_rows a_outs a_p0_percents a_p0_yesLeads a_p0_noLeads z3 hn_4) w_2_194 w_2_196 ws_27 w_1_5 w_2_197 cb_X0_layRows rfl rfl ⟨Nat.le_of_ble_eq_true rfl, Nat.le_of_ble_eq_true rfl⟩ rfl hl.1 rfl (Nat.le_of_ble_eq_true rfl) dX0_solve_33 ⟨Nat.le_of_ble_eq_true rfl, Nat.le_of_ble_eq_true rfl⟩ (c2 := 0) (s2 := 0) rfl rfl (k0 := 0) rfl rfl [0, 1, 2, 4, 5, 6, 7, 8] [3, 9] [2, 3, 4, 0, 5, 6, 7, 8, 9, 1] rfl rfl (by decide) (by decide) (by decide) (by decide) (fun _ => rfl) (fun u_5 H locs hG hP hD hS => ?_)
      replace hF := bdQ hG hF
      refine lv_aload_n hx hb dX0_solve_36 rfl (lv_at hl 0 rfl) ?_
      refine lv_aload_n hx hb dX0_solve_37 rfl (lv_at hl 1 rfl) ?_
      refine va_getN (D := D) (ci := 2) (C := RX2) (T := TX2) (N := 9) hx hb ha inAX2 hown hK hP 1 rfl rfl 0 (by decide) (va_Nw.use rfl (hE.2.1 _ w_1_28)) (fun _ h9 => h9) rfl dX0_solve_38 ?_
      have hn_6 := bdN hN hF
      refine callVV (As := [.int v_p0_units]) (rest := []) (wr := [(h_p0, .inr (2, [.int v_p0_units, .ref h_p0_settings, .ref h_p0_yesLeads, .ref h_p0_noLeads, .ref h_p0_percents, .ref h_p0_grades, .ref h_p0_gradeKinds, .ref h_p0_gradePurities, .ref h_p0_gradePrices])), (h_p1, .inl (cI, 5, .inl a_p1)), (h_parts, .inl (cJ, 5, .inr (.inl u_2.2))), (h_outs, .inl (cI, 25, .inl u_5.2.2)), (h_p0_percents, .inl (cI, 75, .inl a_p0_percents)), (h_p0_yesLeads, .inl (cI, 5, .inl a_p0_yesLeads)), (h_p0_noLeads, .inl (cI, 5, .inl a_p0_noLeads))]) (W2 := fun u_7 => [(h_t, .inr (0, [.long v_wholeOfAll, .ref h_parts, .ref h_rows, .ref h_outs, .ref h_minors])), (h_p0, .inr (2, [.int v_p0_units, .ref h_p0_settings, .ref h_p0_yesLeads, .ref h_p0_noLeads, .ref h_p0_percents, .ref h_p0_grades, .ref h_p0_gradeKinds, .ref h_p0_gradePurities, .ref h_p0_gradePrices])), (h_p1, .inl (cI, 5, .inl a_p1)), (h_parts, .inl (cJ, 5, .inr (.inl u_2.2))), (h_rows, .inl (cI, 25, .inl u_5.2.1)), (h_outs, .inl (cI, 25, .inl u_5.2.2)), (h_p0_percents, .inl (cI, 75, .inl a_p0_percents)), (h_p0_yesLeads, .inl (cI, 5, .inl a_p0_yesLeads)), (h_p0_noLeads, .inl (cI, 5, .inl a_p0_noLeads)), (h_minors, .inl (cJ, 32, .inr (.inl u_7.2)))]) X hE hP hD hS hA (kX0_findMinors l D cB cI cJ cZ rz n H.size h_t h_minors h_rows h_parts h_outs v_wholeOfAll a_minors u_5.2.1 v_p0_units hn_6) w_2_204 w_2_206 ws_29 w_1_5 w_2_207 cb_X0_findMinors rfl rfl ⟨Nat.le_of_ble_eq_true rfl, Nat.le_of_ble_eq_true rfl⟩ rfl hl.1 rfl (Nat.le_of_ble_eq_true rfl) dX0_solve_41 ⟨Nat.le_of_ble_eq_true rfl, Nat.le_of_ble_eq_true rfl⟩ (c2 := 0) (s2 := 0) rfl rfl (k0 := 0) rfl rfl [0, 9, 4] [1, 2, 3, 5, 6, 7, 8] [7, 0, 1, 2, 9, 3, 4, 5, 6, 8] rfl rfl (by decide) (by decide) (by decide) (by decide) (fun _ => rfl) (fun u_7 H locs hG hP hD hS => ?_)
      replace hF := bdQ hG hF
      refine lv_aload_n hx hb dX0_solve_44 rfl (lv_at hl 0 rfl) ?_
      refine lv_lconst (v := 0) hx hb dX0_solve_45 (by decide) ?_
      refine pt (C := RX0) (T := TX0) (N := 5) (ci := 0) (v := .long (0 : Int64)) (W2 := [(h_t, .inr (0, [.long (0 : Int64), .ref h_parts, .ref h_rows, .ref h_outs, .ref h_minors])), (h_p0, .inr (2, [.int v_p0_units, .ref h_p0_settings, .ref h_p0_yesLeads, .ref h_p0_noLeads, .ref h_p0_percents, .ref h_p0_grades, .ref h_p0_gradeKinds, .ref h_p0_gradePurities, .ref h_p0_gradePrices])), (h_p1, .inl (cI, 5, .inl a_p1)), (h_parts, .inl (cJ, 5, .inr (.inl u_2.2))), (h_rows, .inl (cI, 25, .inl u_5.2.1)), (h_outs, .inl (cI, 25, .inl u_5.2.2)), (h_p0_percents, .inl (cI, 75, .inl a_p0_percents)), (h_p0_yesLeads, .inl (cI, 5, .inl a_p0_yesLeads)), (h_p0_noLeads, .inl (cI, 5, .inl a_p0_noLeads)), (h_minors, .inl (cJ, 32, .inr (.inl u_7.2)))]) hx hb ha inAX0 tyX0 tyX0_ok nmX0 hown hK hP hD hS 0 rfl rfl 0 (by decide) (ha _ w_1_168) rfl rfl rfl rfl (Nat.le_of_ble_eq_true rfl) dX0_solve_46 rfl (fun H locs hP hD hS => ?_)
      refine lv_iconst (v := 0) hx hb dX0_solve_49 (by decide) ?_
      refine lv_istore (lv' := [(4, .int (0 : Int32)), (0, .ref h_t), (1, .ref h_p0), (2, .ref h_p1), (3, .int z3)]) hx hb dX0_solve_50 hl (by decide) rfl (fun ls hl => ?_)
      exact Lc52 n (0 : Int64) u_2.2 u_5.2.1 u_5.2.2 u_7.2 (0 : Int32) H locs ls hF hP hD hS (lv_sub hl [1, 2, 0] rfl)
    · replace hF := ifF c_3 hF
      refine lv_aload_n hx hb dX0_solve_16 rfl (lv_at hl 0 rfl) ?_
      refine lv_lconst (v := 1) hx hb dX0_solve_17 (by decide) ?_
      refine pt (C := RX0) (T := TX0) (N := 5) (ci := 0) (v := .long (1 : Int64)) (W2 := [(h_t, .inr (0, [.long (1 : Int64), .ref h_parts, .ref h_rows, .ref h_outs, .ref h_minors])), (h_p0, .inr (2, [.int v_p0_units, .ref h_p0_settings, .ref h_p0_yesLeads, .ref h_p0_noLeads, .ref h_p0_percents, .ref h_p0_grades, .ref h_p0_gradeKinds, .ref h_p0_gradePurities, .ref h_p0_gradePrices])), (h_p1, .inl (cI, 5, .inl a_p1)), (h_parts, .inl (cJ, 5, .inr (.inl u_2.2))), (h_rows, .inl (cI, 25, .inl a_rows)), (h_outs, .inl (cI, 25, .inl a_outs)), (h_p0_percents, .inl (cI, 75, .inl a_p0_percents)), (h_p0_yesLeads, .inl (cI, 5, .inl a_p0_yesLeads)), (h_p0_noLeads, .inl (cI, 5, .inl a_p0_noLeads)), (h_minors, .inl (cJ, 32, .inr (.inl a_minors)))]) hx hb ha inAX0 tyX0 tyX0_ok nmX0 hown hK hP hD hS 0 rfl rfl 0 (by decide) (ha _ w_1_168) rfl rfl rfl rfl (Nat.le_of_ble_eq_true rfl) dX0_solve_18 rfl (fun H locs hP hD hS => ?_)
      refine lv_aload_n hx hb dX0_solve_21 rfl (lv_at hl 0 rfl) ?_
      refine va_get (D := D) (ci := 0) (C := RX0) (T := TX0) (N := 5) hx hb ha inAX0 hown hK hP 0 rfl rfl 1 (by decide) (ha _ w_1_171) (fun _ h9 => h9) rfl dX0_solve_22 ?_
      refine lv_iconst (v := 4) hx hb dX0_solve_25 (by decide) ?_
      refine lv_lconst (v := 1) hx hb dX0_solve_26 (by decide) ?_
      replace hF := ckP hN hF
      obtain ⟨c_8, hF⟩ := hF
      obtain ⟨f_9, ef_9⟩ : ∃ g : Nat → Int64, g = vp_updL u_2.2 ((4 : Int32)).toNatClampNeg (1 : Int64) := ⟨_, rfl⟩
      replace hF := ltP ef_9 hF
      refine st_l (g := f_9) (W2 := [(h_t, .inr (0, [.long (1 : Int64), .ref h_parts, .ref h_rows, .ref h_outs, .ref h_minors])), (h_p0, .inr (2, [.int v_p0_units, .ref h_p0_settings, .ref h_p0_yesLeads, .ref h_p0_noLeads, .ref h_p0_percents, .ref h_p0_grades, .ref h_p0_gradeKinds, .ref h_p0_gradePurities, .ref h_p0_gradePrices])), (h_p1, .inl (cI, 5, .inl a_p1)), (h_parts, .inl (cJ, 5, .inr (.inl f_9))), (h_rows, .inl (cI, 25, .inl a_rows)), (h_outs, .inl (cI, 25, .inl a_outs)), (h_p0_percents, .inl (cI, 75, .inl a_p0_percents)), (h_p0_yesLeads, .inl (cI, 5, .inl a_p0_yesLeads)), (h_p0_noLeads, .inl (cI, 5, .inl a_p0_noLeads)), (h_minors, .inl (cJ, 32, .inr (.inl a_minors)))]) hx hb hK hP hD hS 3 rfl c_8 ef_9 dX0_solve_27 rfl (fun H locs hP hD hS => ?_)
      exact hret ((), (1 : Int64), f_9, a_rows, a_outs, a_minors) H locs ls _ hF hP hD hS dX0_solve_28
  rw [hH, hlo] at goal
  exact goal
theorem dX1_init_0 : decode cX1_init 0 = .ok (.aload_n 0, 1) := by decide +kernel
theorem dX1_init_1 : decode cX1_init 1 = .ok (.invokespecial 3, 3) := by decide +kernel
theorem dX1_init_4 : decode cX1_init 4 = .ok (.aload_n 0, 1) := by decide +kernel
theorem dX1_init_5 : decode cX1_init 5 = .ok (.bipush 25, 2) := by decide +kernel
theorem dX1_init_7 : decode cX1_init 7 = .ok (.newarray .int, 2) := by decide +kernel
theorem dX1_init_9 : decode cX1_init 9 = .ok (.putfield 9, 3) := by decide +kernel
theorem dX1_init_12 : decode cX1_init 12 = .ok (.aload_n 0, 1) := by decide +kernel
theorem dX1_init_13 : decode cX1_init 13 = .ok (.iconst 5, 1) := by decide +kernel
theorem dX1_init_14 : decode cX1_init 14 = .ok (.newarray .int, 2) := by decide +kernel
theorem dX1_init_16 : decode cX1_init 16 = .ok (.putfield 15, 3) := by decide +kernel
theorem dX1_init_19 : decode cX1_init 19 = .ok (.return_, 1) := by decide +kernel
abbrev rmX1_init : Room := { frames := 1, cells := 2, slots := 30, locals := 12 }
theorem cb_X1_init : CBn yX1_init 0 := ⟨by decide +kernel, by decide +kernel, by decide +kernel⟩
def FX1_init (n : Nat) : Option (Unit × Unit) := some ((), ())
set_option maxHeartbeats 4000000 in
set_option maxRecDepth 100000 in
theorem kX1_init (l : Launch) (D : va_G) (cB cI cJ cZ : ClassId) (rz n sz : Nat) (h_t : Nat) (hN : FX1_init n ≠ none) : Met l yX1_init (Cond.code yX1_init cX1_init 1 none :: AL) rmX1_init (PW D cB cI cJ cZ rz [.ref h_t] [(h_t, .inr (1, [.null, .null]))] sz) (QN D (FX1_init n) (fun u q => [(h_t, .inr (1, [.ref (q.getD 0 0), .ref (q.getD 1 0)])), ((q.getD 0 0), .inl (cI, 25, .inl (fun _ => 0))), ((q.getD 1 0), .inl (cI, 5, .inl (fun _ => 0)))]) 2 (va_A [(h_t, .inr (1, [.null, .null]))] sz)) 2 30 (va_A [(h_t, .inr (1, [.null, .null]))] sz) := by
  obtain ⟨O, hF⟩ : ∃ O, FX1_init n = O := ⟨_, rfl⟩
  rw [hF] at hN ⊢
  refine enterN (cc := cX1_init) (nL := 1) (by decide) (Nat.le_of_ble_eq_true rfl) ?_
  intro p e s m below meth c A Q X hA hE hnm hsz hP hD hS hret ls hl
  obtain ⟨hx, hb, hml, hown0, ha⟩ := id X
  have hown : s.vm.findClass RX1 = some m.cls := hown0
  have hK := hE.1
  have hl : lv_has ls 1 [(0, .ref h_t)] := hl
  have hX : CallFix p m c cX1_init 1 s ([.ref h_t] : List Value).toArray AL RX1 := X
  have X := hX
  unfold FX1_init at hF
  obtain ⟨H, hH⟩ : ∃ H, H = s.heap := ⟨_, rfl⟩
  obtain ⟨locs, hlo⟩ : ∃ locs : List Loc, locs = [] := ⟨_, rfl⟩
  have hS : va_S A s.heap H locs := by rw [hH, hlo]; exact hS
  rw [← hH] at hP
  have goal : W p l e rmX1_init s m ([.ref h_t] : List Value).toArray below meth c H locs 0 0 Q (F0 m 0 ls []) := by
    refine lv_aload_n hx hb dX1_init_0 rfl (lv_at hl 0 rfl) ?_
    refine W.objInit hx hb hown (ha _ w_1_193) (ha _ w_1_19) (ha _ w_1_20) rfl (by rw [hml]; exact hl.1) rfl dX1_init_1 (Nat.le_of_ble_eq_true rfl) (Nat.le_of_ble_eq_true rfl) ?_
    refine W.eq (g2 := F0 m 4 ls []) rfl ?_
    refine lv_aload_n hx hb dX1_init_4 rfl (lv_at hl 0 rfl) ?_
    refine lv_bipush (v := 25) hx hb dX1_init_5 (by decide) ?_
    refine nw_i (N' := 25) hx hb (ha _ w_1_73) hK hP hD hS hA (by decide) (by decide) (by decide) (Nat.le_of_ble_eq_true rfl) (Nat.le_of_ble_eq_true rfl) (c2 := 1) (s2 := 25) rfl rfl dX1_init_7 (fun q_1 H hP hD hS => ?_)
    have hP : va_P D classes [(h_t, .inr (1, [.null, .null])), (q_1, .inl (cI, 25, .inl (fun _ => 0)))] H := hP
    have hD : va_D A [(h_t, .inr (1, [.null, .null])), (q_1, .inl (cI, 25, .inl (fun _ => 0)))] := hD
    refine ptF (C := RX1) (T := TX1) (N := 2) (ci := 1) (v := .ref q_1) (W2 := [(h_t, .inr (1, [.ref q_1, .null])), (q_1, .inl (cI, 25, .inl (fun _ => 0)))]) hx hb ha inAX1 tyX1 tyX1_ok nmX1 hown hK hP hD hS 0 rfl rfl 0 (by decide) (ha _ w_1_194) rfl rfl hnm rfl rfl rfl (Nat.le_of_ble_eq_true rfl) dX1_init_9 rfl (fun H locs hP hD hS => ?_)
    refine lv_aload_n hx hb dX1_init_12 rfl (lv_at hl 0 rfl) ?_
    refine lv_iconst (v := 5) hx hb dX1_init_13 (by decide) ?_
    refine nw_i (N' := 5) hx hb (ha _ w_1_73) hK hP hD hS hA (by decide) (by decide) (by decide) (Nat.le_of_ble_eq_true rfl) (Nat.le_of_ble_eq_true rfl) (c2 := 2) (s2 := 30) rfl rfl dX1_init_14 (fun q_2 H hP hD hS => ?_)
    have hP : va_P D classes [(h_t, .inr (1, [.ref q_1, .null])), (q_1, .inl (cI, 25, .inl (fun _ => 0))), (q_2, .inl (cI, 5, .inl (fun _ => 0)))] H := hP
    have hD : va_D A [(h_t, .inr (1, [.ref q_1, .null])), (q_1, .inl (cI, 25, .inl (fun _ => 0))), (q_2, .inl (cI, 5, .inl (fun _ => 0)))] := hD
    refine ptF (C := RX1) (T := TX1) (N := 2) (ci := 1) (v := .ref q_2) (W2 := [(h_t, .inr (1, [.ref q_1, .ref q_2])), (q_1, .inl (cI, 25, .inl (fun _ => 0))), (q_2, .inl (cI, 5, .inl (fun _ => 0)))]) hx hb ha inAX1 tyX1 tyX1_ok nmX1 hown hK hP hD hS 0 rfl rfl 1 (by decide) (ha _ w_1_196) rfl rfl hnm rfl rfl rfl (Nat.le_of_ble_eq_true rfl) dX1_init_16 rfl (fun H locs hP hD hS => ?_)
    exact hret ((), ()) [q_1, q_2] H locs ls _ hF rfl hP hD hS dX1_init_19
  rw [hH, hlo] at goal
  exact goal
