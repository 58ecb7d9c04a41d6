theorem dX1_put_0 : decode cX1_put 0 = .ok (.aload_n 0, 1) := by decide +kernel
theorem dX1_put_1 : decode cX1_put 1 = .ok (.getfield 9, 3) := by decide +kernel
theorem dX1_put_4 : decode cX1_put 4 = .ok (.iload_n 1, 1) := by decide +kernel
theorem dX1_put_5 : decode cX1_put 5 = .ok (.iconst 5, 1) := by decide +kernel
theorem dX1_put_6 : decode cX1_put 6 = .ok (.imul, 1) := by decide +kernel
theorem dX1_put_7 : decode cX1_put 7 = .ok (.iload_n 2, 1) := by decide +kernel
theorem dX1_put_8 : decode cX1_put 8 = .ok (.iadd, 1) := by decide +kernel
theorem dX1_put_9 : decode cX1_put 9 = .ok (.iload_n 3, 1) := by decide +kernel
theorem dX1_put_10 : decode cX1_put 10 = .ok (.iastore, 1) := by decide +kernel
theorem dX1_put_11 : decode cX1_put 11 = .ok (.aload_n 0, 1) := by decide +kernel
theorem dX1_put_12 : decode cX1_put 12 = .ok (.getfield 15, 3) := by decide +kernel
theorem dX1_put_15 : decode cX1_put 15 = .ok (.iload_n 1, 1) := by decide +kernel
theorem dX1_put_16 : decode cX1_put 16 = .ok (.dup2, 1) := by decide +kernel
theorem dX1_put_17 : decode cX1_put 17 = .ok (.iaload, 1) := by decide +kernel
theorem dX1_put_18 : decode cX1_put 18 = .ok (.iload_n 3, 1) := by decide +kernel
theorem dX1_put_19 : decode cX1_put 19 = .ok (.iadd, 1) := by decide +kernel
theorem dX1_put_20 : decode cX1_put 20 = .ok (.iastore, 1) := by decide +kernel
theorem dX1_put_21 : decode cX1_put 21 = .ok (.return_, 1) := by decide +kernel
abbrev rmX1_put : Room := { frames := 0, cells := 0, slots := 0, locals := 0 }
theorem cb_X1_put : CBn yX1_put 3 := ⟨by decide +kernel, by decide +kernel, by decide +kernel⟩
def FX1_put (n : Nat) (a_held : Nat → Int32) (a_totals : Nat → Int32) (z1 : Int32) (z2 : Int32) (z3 : Int32) : Option (Unit × (Nat → Int32) × (Nat → Int32)) := if ¬ (((z1 * (5 : Int32)) + z2) < 0 ∨ 25 ≤ (((z1 * (5 : Int32)) + z2)).toNatClampNeg) then (lt1 (upd a_held (((z1 * (5 : Int32)) + z2)).toNatClampNeg z3) (fun f_2 => if ¬ (z1 < 0 ∨ 5 ≤ (z1).toNatClampNeg) then (lt1 ((a_totals (z1).toNatClampNeg) + z3) (fun x_4 => if ¬ (z1 < 0 ∨ 5 ≤ (z1).toNatClampNeg) then (lt1 (upd a_totals (z1).toNatClampNeg x_4) (fun f_6 => some ((), f_2, f_6))) else none)) else none)) else none
set_option maxHeartbeats 4000000 in
set_option maxRecDepth 100000 in
theorem kX1_put (l : Launch) (D : va_G) (cB cI cJ cZ : ClassId) (rz n sz : Nat) (h_t : Nat) (h_held : Nat) (h_totals : Nat) (a_held : Nat → Int32) (a_totals : Nat → Int32) (z1 : Int32) (z2 : Int32) (z3 : Int32) (hN : FX1_put n a_held a_totals z1 z2 z3 ≠ none) : Met l yX1_put (Cond.code yX1_put cX1_put 4 none :: AL) rmX1_put (PW D cB cI cJ cZ rz [.ref h_t, .int z1, .int z2, .int z3] [(h_t, .inr (1, [.ref h_held, .ref h_totals])), (h_held, .inl (cI, 25, .inl a_held)), (h_totals, .inl (cI, 5, .inl a_totals))] sz) (QV D (FX1_put n a_held a_totals z1 z2 z3) (fun u => [(h_t, .inr (1, [.ref h_held, .ref h_totals])), (h_held, .inl (cI, 25, .inl u.2.1)), (h_totals, .inl (cI, 5, .inl u.2.2))]) (va_A [(h_t, .inr (1, [.ref h_held, .ref h_totals])), (h_held, .inl (cI, 25, .inl a_held)), (h_totals, .inl (cI, 5, .inl a_totals))] sz)) 0 0 (va_A [(h_t, .inr (1, [.ref h_held, .ref h_totals])), (h_held, .inl (cI, 25, .inl a_held)), (h_totals, .inl (cI, 5, .inl a_totals))] sz) := by
  obtain ⟨O, hF⟩ : ∃ O, FX1_put n a_held a_totals z1 z2 z3 = O := ⟨_, rfl⟩
  rw [hF] at hN ⊢
  refine enterV (cc := cX1_put) (nL := 4) (by decide) (Nat.le_of_ble_eq_true rfl) ?_
  intro p e s m below meth c A Q X hA hE hnm hsz hP hD hS hret ls hl
  obtain ⟨hx, hb, hml, hown0, ha⟩ := id X
  have hown : s.vm.findClass RX1 = some m.cls := hown0
  have hK := hE.1
  have hl : lv_has ls 4 [(0, .ref h_t), (1, .int z1), (2, .int z2), (3, .int z3)] := hl
  have hX : CallFix p m c cX1_put 4 s ([.ref h_t, .int z1, .int z2, .int z3] : List Value).toArray AL RX1 := X
  have X := hX
  unfold FX1_put at hF
  obtain ⟨H, hH⟩ : ∃ H, H = s.heap := ⟨_, rfl⟩
  obtain ⟨locs, hlo⟩ : ∃ locs : List Loc, locs = [] := ⟨_, rfl⟩
  have hS : va_S A s.heap H locs := by rw [hH, hlo]; exact hS
  rw [← hH] at hP
  have goal : W p l e rmX1_put s m ([.ref h_t, .int z1, .int z2, .int z3] : List Value).toArray below meth c H locs 0 0 Q (F0 m 0 ls []) := by
    refine lv_aload_n hx hb dX1_put_0 rfl (lv_at hl 0 rfl) ?_
    refine va_get (D := D) (ci := 1) (C := RX1) (T := TX1) (N := 2) hx hb ha inAX1 hown hK hP 0 rfl rfl 0 (by decide) (ha _ w_1_194) (fun _ h9 => h9) rfl dX1_put_1 ?_
    refine lv_iload_n hx hb dX1_put_4 rfl (lv_at hl 1 rfl) ?_
    refine lv_iconst (v := 5) hx hb dX1_put_5 (by decide) ?_
    refine lv_imul hx hb dX1_put_6 ?_
    refine lv_iload_n hx hb dX1_put_7 rfl (lv_at hl 2 rfl) ?_
    refine lv_iadd hx hb dX1_put_8 ?_
    refine lv_iload_n hx hb dX1_put_9 rfl (lv_at hl 3 rfl) ?_
    replace hF := ckP hN hF
    obtain ⟨c_1, hF⟩ := hF
    obtain ⟨f_2, ef_2⟩ : ∃ g : Nat → Int32, g = upd a_held (((z1 * (5 : Int32)) + z2)).toNatClampNeg z3 := ⟨_, rfl⟩
    replace hF := ltP ef_2 hF
    refine st_i (g := f_2) (W2 := [(h_t, .inr (1, [.ref h_held, .ref h_totals])), (h_held, .inl (cI, 25, .inl f_2)), (h_totals, .inl (cI, 5, .inl a_totals))]) hx hb hK hP hD hS 1 rfl c_1 ef_2 dX1_put_10 rfl (fun H locs hP hD hS => ?_)
    refine lv_aload_n hx hb dX1_put_11 rfl (lv_at hl 0 rfl) ?_
    refine va_get (D := D) (ci := 1) (C := RX1) (T := TX1) (N := 2) hx hb ha inAX1 hown hK hP 0 rfl rfl 1 (by decide) (ha _ w_1_196) (fun _ h9 => h9) rfl dX1_put_12 ?_
    refine lv_iload_n hx hb dX1_put_15 rfl (lv_at hl 1 rfl) ?_
    refine lv_dup2_11 hx hb dX1_put_16 rfl rfl ?_
    replace hF := ckP hN hF
    obtain ⟨c_3, hF⟩ := hF
    refine ld_i hx hb hK hP 2 rfl c_3 dX1_put_17 ?_
    refine lv_iload_n hx hb dX1_put_18 rfl (lv_at hl 3 rfl) ?_
    refine lv_iadd hx hb dX1_put_19 ?_
    refine lv_topi (fun x_4 ex_4 => ?_)
    replace hF := ltP ex_4 hF
    replace hF := ckP hN hF
    obtain ⟨c_5, hF⟩ := hF
    obtain ⟨f_6, ef_6⟩ : ∃ g : Nat → Int32, g = upd a_totals (z1).toNatClampNeg x_4 := ⟨_, rfl⟩
    replace hF := ltP ef_6 hF
    refine st_i (g := f_6) (W2 := [(h_t, .inr (1, [.ref h_held, .ref h_totals])), (h_held, .inl (cI, 25, .inl f_2)), (h_totals, .inl (cI, 5, .inl f_6))]) hx hb hK hP hD hS 2 rfl c_5 ef_6 dX1_put_20 rfl (fun H locs hP hD hS => ?_)
    exact hret ((), f_2, f_6) H locs ls _ hF hP hD hS dX1_put_21
  rw [hH, hlo] at goal
  exact goal
theorem dX1_split_0 : decode cX1_split 0 = .ok (.iload_n 2, 1) := by decide +kernel
theorem dX1_split_1 : decode cX1_split 1 = .ok (.istore 4, 2) := by decide +kernel
theorem dX1_split_3 : decode cX1_split 3 = .ok (.iconst 0, 1) := by decide +kernel
theorem dX1_split_4 : decode cX1_split 4 = .ok (.istore 5, 2) := by decide +kernel
theorem dX1_split_6 : decode cX1_split 6 = .ok (.iload 5, 2) := by decide +kernel
theorem dX1_split_8 : decode cX1_split 8 = .ok (.iconst 4, 1) := by decide +kernel
theorem dX1_split_9 : decode cX1_split 9 = .ok (.if_icmp .ge 52, 3) := by decide +kernel
theorem dX1_split_12 : decode cX1_split 12 = .ok (.aload_n 3, 1) := by decide +kernel
theorem dX1_split_13 : decode cX1_split 13 = .ok (.getfield 34, 3) := by decide +kernel
theorem dX1_split_16 : decode cX1_split 16 = .ok (.lconst 0, 1) := by decide +kernel
theorem dX1_split_17 : decode cX1_split 17 = .ok (.lcmp, 1) := by decide +kernel
theorem dX1_split_18 : decode cX1_split 18 = .ok (.ifCond .le 43, 3) := by decide +kernel
theorem dX1_split_21 : decode cX1_split 21 = .ok (.iload_n 2, 1) := by decide +kernel
theorem dX1_split_22 : decode cX1_split 22 = .ok (.i2l, 1) := by decide +kernel
theorem dX1_split_23 : decode cX1_split 23 = .ok (.aload_n 3, 1) := by decide +kernel
theorem dX1_split_24 : decode cX1_split 24 = .ok (.getfield 38, 3) := by decide +kernel
theorem dX1_split_27 : decode cX1_split 27 = .ok (.iload 5, 2) := by decide +kernel
theorem dX1_split_29 : decode cX1_split 29 = .ok (.laload, 1) := by decide +kernel
theorem dX1_split_30 : decode cX1_split 30 = .ok (.lmul, 1) := by decide +kernel
theorem dX1_split_31 : decode cX1_split 31 = .ok (.aload_n 3, 1) := by decide +kernel
theorem dX1_split_32 : decode cX1_split 32 = .ok (.getfield 34, 3) := by decide +kernel
theorem dX1_split_35 : decode cX1_split 35 = .ok (.ldiv, 1) := by decide +kernel
theorem dX1_split_36 : decode cX1_split 36 = .ok (.l2i, 1) := by decide +kernel
theorem dX1_split_37 : decode cX1_split 37 = .ok (.istore 6, 2) := by decide +kernel
theorem dX1_split_39 : decode cX1_split 39 = .ok (.aload_n 0, 1) := by decide +kernel
theorem dX1_split_40 : decode cX1_split 40 = .ok (.iload 5, 2) := by decide +kernel
theorem dX1_split_42 : decode cX1_split 42 = .ok (.iload_n 1, 1) := by decide +kernel
theorem dX1_split_43 : decode cX1_split 43 = .ok (.iload 6, 2) := by decide +kernel
theorem dX1_split_45 : decode cX1_split 45 = .ok (.invokevirtual 42, 3) := by decide +kernel
theorem dX1_split_48 : decode cX1_split 48 = .ok (.iload 4, 2) := by decide +kernel
theorem dX1_split_50 : decode cX1_split 50 = .ok (.iload 6, 2) := by decide +kernel
theorem dX1_split_52 : decode cX1_split 52 = .ok (.isub, 1) := by decide +kernel
theorem dX1_split_53 : decode cX1_split 53 = .ok (.istore 4, 2) := by decide +kernel
theorem dX1_split_55 : decode cX1_split 55 = .ok (.iinc 5 1, 3) := by decide +kernel
theorem dX1_split_58 : decode cX1_split 58 = .ok (.goto (-52), 3) := by decide +kernel
theorem dX1_split_61 : decode cX1_split 61 = .ok (.aload_n 0, 1) := by decide +kernel
theorem dX1_split_62 : decode cX1_split 62 = .ok (.iconst 4, 1) := by decide +kernel
theorem dX1_split_63 : decode cX1_split 63 = .ok (.iload_n 1, 1) := by decide +kernel
theorem dX1_split_64 : decode cX1_split 64 = .ok (.iload 4, 2) := by decide +kernel
theorem dX1_split_66 : decode cX1_split 66 = .ok (.invokevirtual 42, 3) := by decide +kernel
theorem dX1_split_69 : decode cX1_split 69 = .ok (.return_, 1) := by decide +kernel
abbrev rmX1_split : Room := { frames := 1, cells := 0, slots := 0, locals := 23 }
theorem cb_X1_split : CBn yX1_split 3 := ⟨by decide +kernel, by decide +kernel, by decide +kernel⟩
def FX1_split_61 (n : Nat) (v_p2_wholeOfAll : Int64) (a_p2_parts : Nat → Int64) (z1 : Int32) (z2 : Int32) (a_held : Nat → Int32) (a_totals : Nat → Int32) (x1 : Int32) (x4 : Int32) : Option (Unit × (Nat → Int32) × (Nat → Int32)) := bd (FX1_put n a_held a_totals (4 : Int32) x1 x4) (fun u_11 => some ((), u_11.2.1, u_11.2.2))
def FX1_split_6 (n : Nat) (v_p2_wholeOfAll : Int64) (a_p2_parts : Nat → Int64) (z1 : Int32) (z2 : Int32) (k6 : (Nat → Int32) → (Nat → Int32) → Int32 → Int32 → Int32 → Int32 → Option (Unit × (Nat → Int32) × (Nat → Int32))) (a_held : Nat → Int32) (a_totals : Nat → Int32) (x1 : Int32) (x2 : Int32) (x4 : Int32) (x5 : Int32) : Option (Unit × (Nat → Int32) × (Nat → Int32)) := if (4 : Int32) ≤ x5 then (FX1_split_61 n v_p2_wholeOfAll a_p2_parts z1 z2 a_held a_totals x1 x4) else (if (lg_cmp v_p2_wholeOfAll (0 : Int64)) ≤ 0 then (FX1_split_61 n v_p2_wholeOfAll a_p2_parts z1 z2 a_held a_totals x1 x4) else (if ¬ (x5 < 0 ∨ 5 ≤ (x5).toNatClampNeg) then (if ¬ v_p2_wholeOfAll = 0 then (lt1 (((((x2).toInt64 * (a_p2_parts (x5).toNatClampNeg)) / v_p2_wholeOfAll)).toInt32) (fun x_5 => bd (FX1_put n a_held a_totals x5 x1 x_5) (fun u_7 => lt1 (x4 - x_5) (fun x_8 => lt1 (x5 + (1 : Int32)) (fun x_9 => k6 u_7.2.1 u_7.2.2 x1 x2 x_8 x_9))))) else none) else none))
def FX1_split_6L (n : Nat) (v_p2_wholeOfAll : Int64) (a_p2_parts : Nat → Int64) (z1 : Int32) (z2 : Int32) (j : Nat) : (Nat → Int32) → (Nat → Int32) → Int32 → Int32 → Int32 → Int32 → Option (Unit × (Nat → Int32) × (Nat → Int32)) := lpR (FX1_split_6 n v_p2_wholeOfAll a_p2_parts z1 z2) (fun _ _ _ _ _ _ => none) j
def FX1_split (n : Nat) (v_p2_wholeOfAll : Int64) (a_p2_parts : Nat → Int64) (a_held : Nat → Int32) (a_totals : Nat → Int32) (z1 : Int32) (z2 : Int32) : Option (Unit × (Nat → Int32) × (Nat → Int32)) := FX1_split_6L n v_p2_wholeOfAll a_p2_parts z1 z2 n a_held a_totals z1 z2 z2 (0 : Int32)
set_option maxHeartbeats 4000000 in
set_option maxRecDepth 100000 in
theorem kX1_split (l : Launch) (D : va_G) (cB cI cJ cZ : ClassId) (rz n sz : Nat) (h_t : Nat) (h_p2 : Nat) (h_p2_parts : Nat) (h_held : Nat) (h_totals : Nat) (h_p2_rows : Nat) (h_p2_outs : Nat) (h_p2_minors : Nat) (v_p2_wholeOfAll : Int64) (a_p2_parts : Nat → Int64) (a_held : Nat → Int32) (a_totals : Nat → Int32) (z1 : Int32) (z2 : Int32) (hN : FX1_split n v_p2_wholeOfAll a_p2_parts a_held a_totals z1 z2 ≠ none) : Met l yX1_split (Cond.code yX1_split cX1_split 7 none :: AL) rmX1_split (PW D cB cI cJ cZ rz [.ref h_t, .int z1, .int z2, .ref h_p2] [(h_t, .inr (1, [.ref h_held, .ref h_totals])), (h_p2, .inr (0, [.long v_p2_wholeOfAll, .ref h_p2_parts, .ref h_p2_rows, .ref h_p2_outs, .ref h_p2_minors])), (h_p2_parts, .inl (cJ, 5, .inr (.inl a_p2_parts))), (h_held, .inl (cI, 25, .inl a_held)), (h_totals, .inl (cI, 5, .inl a_totals))] sz) (QV D (FX1_split n v_p2_wholeOfAll a_p2_parts a_held a_totals z1 z2) (fun u => [(h_t, .inr (1, [.ref h_held, .ref h_totals])), (h_p2, .inr (0, [.long v_p2_wholeOfAll, .ref h_p2_parts, .ref h_p2_rows, .ref h_p2_outs, .ref h_p2_minors])), (h_p2_parts, .inl (cJ, 5, .inr (.inl a_p2_parts))), (h_held, .inl (cI, 25, .inl u.2.1)), (h_totals, .inl (cI, 5, .inl u.2.2))]) (va_A [(h_t, .inr (1, [.ref h_held, .ref h_totals])), (h_p2, .inr (0, [.long v_p2_wholeOfAll, .ref h_p2_parts, .ref h_p2_rows, .ref h_p2_outs, .ref h_p2_minors])), (h_p2_parts, .inl (cJ, 5, .inr (.inl a_p2_parts))), (h_held, .inl (cI, 25, .inl a_held)), (h_totals, .inl (cI, 5, .inl a_totals))] sz)) 0 0 (va_A [(h_t, .inr (1, [.ref h_held, .ref h_totals])), (h_p2, .inr (0, [.long v_p2_wholeOfAll, .ref h_p2_parts, .ref h_p2_rows, .ref h_p2_outs, .ref h_p2_minors])), (h_p2_parts, .inl (cJ, 5, .inr (.inl a_p2_parts))), (h_held, .inl (cI, 25, .inl a_held)), (h_totals, .inl (cI, 5, .inl a_totals))] sz) := by
  obtain ⟨O, hF⟩ : ∃ O, FX1_split n v_p2_wholeOfAll a_p2_parts a_held a_totals z1 z2 = O := ⟨_, rfl⟩
  rw [hF] at hN ⊢
  refine enterV (cc := cX1_split) (nL := 7) (by decide) (Nat.le_of_ble_eq_true rfl) ?_
  intro p e s m below meth c A Q X hA hE hnm hsz hP hD hS hret ls hl
  obtain ⟨hx, hb, hml, hown0, ha⟩ := id X
  have hown : s.vm.findClass RX1 = some m.cls := hown0
  have hK := hE.1
  have hl : lv_has ls 7 [(0, .ref h_t), (1, .int z1), (2, .int z2), (3, .ref h_p2)] := hl
  have hX : CallFix p m c cX1_split 7 s ([.ref h_t, .int z1, .int z2, .ref h_p2] : List Value).toArray AL RX1 := X
  have X := hX
  have L61 : ∀ (a_held : Nat → Int32) (a_totals : Nat → Int32) (x1 : Int32) (x4 : Int32) (H : Heap) (locs : List Loc) (ls : Array Slot), FX1_split_61 n v_p2_wholeOfAll a_p2_parts z1 z2 a_held a_totals x1 x4 = O → va_P D classes [(h_t, .inr (1, [.ref h_held, .ref h_totals])), (h_p2, .inr (0, [.long v_p2_wholeOfAll, .ref h_p2_parts, .ref h_p2_rows, .ref h_p2_outs, .ref h_p2_minors])), (h_p2_parts, .inl (cJ, 5, .inr (.inl a_p2_parts))), (h_held, .inl (cI, 25, .inl a_held)), (h_totals, .inl (cI, 5, .inl a_totals))] H → va_D A [(h_t, .inr (1, [.ref h_held, .ref h_totals])), (h_p2, .inr (0, [.long v_p2_wholeOfAll, .ref h_p2_parts, .ref h_p2_rows, .ref h_p2_outs, .ref h_p2_minors])), (h_p2_parts, .inl (cJ, 5, .inr (.inl a_p2_parts))), (h_held, .inl (cI, 25, .inl a_held)), (h_totals, .inl (cI, 5, .inl a_totals))] → va_S A s.heap H locs → lv_has ls 7 [(0, .ref h_t), (1, .int x1), (4, .int x4)] → W p l e rmX1_split s m ([.ref h_t, .int z1, .int z2, .ref h_p2] : List Value).toArray below meth c H locs 0 0 Q (F0 m 61 ls []) := by
    intro a_held a_totals x1 x4 H locs ls hF hP hD hS hl
    unfold FX1_split_61 at hF
    refine lv_aload_n hx hb dX1_split_61 rfl (lv_at hl 0 rfl) ?_
    refine lv_iconst (v := 4) hx hb dX1_split_62 (by decide) ?_
    refine lv_iload_n hx hb dX1_split_63 rfl (lv_at hl 1 rfl) ?_
    refine lv_iload hx hb dX1_split_64 (lv_at hl 2 rfl) ?_
    have hn_10 := bdN hN hF
    refine callVV (As := [.int (4 : Int32), .int x1, .int x4]) (rest := []) (wr := [(h_p2, .inr (0, [.long v_p2_wholeOfAll, .ref h_p2_parts, .ref h_p2_rows, .ref h_p2_outs, .ref h_p2_minors])), (h_p2_parts, .inl (cJ, 5, .inr (.inl a_p2_parts)))]) (W2 := fun u_11 => [(h_t, .inr (1, [.ref h_held, .ref h_totals])), (h_p2, .inr (0, [.long v_p2_wholeOfAll, .ref h_p2_parts, .ref h_p2_rows, .ref h_p2_outs, .ref h_p2_minors])), (h_p2_parts, .inl (cJ, 5, .inr (.inl a_p2_parts))), (h_held, .inl (cI, 25, .inl u_11.2.1)), (h_totals, .inl (cI, 5, .inl u_11.2.2))]) X hE hP hD hS hA (kX1_put l D cB cI cJ cZ rz n H.size h_t h_held h_totals a_held a_totals (4 : Int32) x1 x4 hn_10) w_3_32 w_3_34 ws_38 w_1_6 w_3_35 cb_X1_put rfl rfl ⟨Nat.le_of_ble_eq_true rfl, Nat.le_of_ble_eq_true rfl⟩ rfl hl.1 rfl (Nat.le_of_ble_eq_true rfl) dX1_split_66 ⟨Nat.le_of_ble_eq_true rfl, Nat.le_of_ble_eq_true rfl⟩ (c2 := 0) (s2 := 0) rfl rfl (k0 := 0) rfl rfl [0, 3, 4] [1, 2] [2, 0, 1, 3, 4] rfl rfl (by decide) (by decide) (by decide) (by decide) (fun _ => rfl) (fun u_11 H locs hG hP hD hS => ?_)
    replace hF := bdQ hG hF
    exact hret ((), u_11.2.1, u_11.2.2) H locs ls _ hF hP hD hS dX1_split_69
  have L6 : ∀ (k6 : (Nat → Int32) → (Nat → Int32) → Int32 → Int32 → Int32 → Int32 → Option (Unit × (Nat → Int32) × (Nat → Int32))) (ih6 : ∀ (a_held : Nat → Int32) (a_totals : Nat → Int32) (x1 : Int32) (x2 : Int32) (x4 : Int32) (x5 : Int32) (H : Heap) (locs : List Loc) (ls : Array Slot), k6 a_held a_totals x1 x2 x4 x5 = O → va_P D classes [(h_t, .inr (1, [.ref h_held, .ref h_totals])), (h_p2, .inr (0, [.long v_p2_wholeOfAll, .ref h_p2_parts, .ref h_p2_rows, .ref h_p2_outs, .ref h_p2_minors])), (h_p2_parts, .inl (cJ, 5, .inr (.inl a_p2_parts))), (h_held, .inl (cI, 25, .inl a_held)), (h_totals, .inl (cI, 5, .inl a_totals))] H → va_D A [(h_t, .inr (1, [.ref h_held, .ref h_totals])), (h_p2, .inr (0, [.long v_p2_wholeOfAll, .ref h_p2_parts, .ref h_p2_rows, .ref h_p2_outs, .ref h_p2_minors])), (h_p2_parts, .inl (cJ, 5, .inr (.inl a_p2_parts))), (h_held, .inl (cI, 25, .inl a_held)), (h_totals, .inl (cI, 5, .inl a_totals))] → va_S A s.heap H locs → lv_has ls 7 [(0, .ref h_t), (1, .int x1), (2, .int x2), (3, .ref h_p2), (4, .int x4), (5, .int x5)] → W p l e rmX1_split s m ([.ref h_t, .int z1, .int z2, .ref h_p2] : List Value).toArray below meth c H locs 0 0 Q (F0 m 6 ls [])), ∀ (a_held : Nat → Int32) (a_totals : Nat → Int32) (x1 : Int32) (x2 : Int32) (x4 : Int32) (x5 : Int32) (H : Heap) (locs : List Loc) (ls : Array Slot), FX1_split_6 n v_p2_wholeOfAll a_p2_parts z1 z2 k6 a_held a_totals x1 x2 x4 x5 = O → va_P D classes [(h_t, .inr (1, [.ref h_held, .ref h_totals])), (h_p2, .inr (0, [.long v_p2_wholeOfAll, .ref h_p2_parts, .ref h_p2_rows, .ref h_p2_outs, .ref h_p2_minors])), (h_p2_parts, .inl (cJ, 5, .inr (.inl a_p2_parts))), (h_held, .inl (cI, 25, .inl a_held)), (h_totals, .inl (cI, 5, .inl a_totals))] H → va_D A [(h_t, .inr (1, [.ref h_held, .ref h_totals])), (h_p2, .inr (0, [.long v_p2_wholeOfAll, .ref h_p2_parts, .ref h_p2_rows, .ref h_p2_outs, .ref h_p2_minors])), (h_p2_parts, .inl (cJ, 5, .inr (.inl a_p2_parts))), (h_held, .inl (cI, 25, .inl a_held)), (h_totals, .inl (cI, 5, .inl a_totals))] → va_S A s.heap H locs → lv_has ls 7 [(0, .ref h_t), (1, .int x1), (2, .int x2), (3, .ref h_p2), (4, .int x4), (5, .int x5)] → W p l e rmX1_split s m ([.ref h_t, .int z1, .int z2, .ref h_p2] : List Value).toArray below meth c H locs 0 0 Q (F0 m 6 ls []) := by
    intro k6 ih6 a_held a_totals x1 x2 x4 x5 H locs ls hF hP hD hS hl
    unfold FX1_split_6 at hF
    refine lv_iload hx hb dX1_split_6 (lv_at hl 5 rfl) ?_
    refine lv_iconst (v := 4) hx hb dX1_split_8 (by decide) ?_
    refine lv_icmp_ge (tgt := 61) hx hb dX1_split_9 (by decide) (fun c_1 => ?_) (fun c_1 => ?_)
    · replace hF := ifT c_1 hF
      exact L61 a_held a_totals x1 x4 H locs ls hF hP hD hS (lv_sub hl [0, 1, 4] rfl)
    · replace hF := ifF c_1 hF
      refine lv_aload_n hx hb dX1_split_12 rfl (lv_at hl 3 rfl) ?_
      refine va_getN (D := D) (ci := 0) (C := RX0) (T := TX0) (N := 5) hx hb ha inAX0 hown hK hP 1 rfl rfl 0 (by decide) (va_Nw.use rfl (hE.2.1 _ w_1_169)) (fun _ h9 => h9) rfl dX1_split_13 ?_
      refine lv_lconst (v := 0) hx hb dX1_split_16 (by decide) ?_
      refine W.lcmp hx hb dX1_split_17 ?_
      refine lv_if_le (tgt := 61) hx hb dX1_split_18 (by decide) (fun c_2 => ?_) (fun c_2 => ?_)
      · replace hF := ifT c_2 hF
        exact L61 a_held a_totals x1 x4 H locs ls hF hP hD hS (lv_sub hl [0, 1, 4] rfl)
      · replace hF := ifF c_2 hF
        refine lv_iload_n hx hb dX1_split_21 rfl (lv_at hl 2 rfl) ?_
        refine lv_i2l hx hb dX1_split_22 rfl ?_
        refine lv_aload_n hx hb dX1_split_23 rfl (lv_at hl 3 rfl) ?_
        refine va_getN (D := D) (ci := 0) (C := RX0) (T := TX0) (N := 5) hx hb ha inAX0 hown hK hP 1 rfl rfl 1 (by decide) (va_Nw.use rfl (hE.2.1 _ w_1_172)) (fun _ h9 => h9) rfl dX1_split_24 ?_
        refine lv_iload hx hb dX1_split_27 (lv_at hl 5 rfl) ?_
        replace hF := ckP hN hF
        obtain ⟨c_3, hF⟩ := hF
        refine ld_l hx hb hK hP 2 rfl c_3 dX1_split_29 ?_
        refine lv_lmul hx hb dX1_split_30 ?_
        refine lv_aload_n hx hb dX1_split_31 rfl (lv_at hl 3 rfl) ?_
        refine va_getN (D := D) (ci := 0) (C := RX0) (T := TX0) (N := 5) hx hb ha inAX0 hown hK hP 1 rfl rfl 0 (by decide) (va_Nw.use rfl (hE.2.1 _ w_1_169)) (fun _ h9 => h9) rfl dX1_split_32 ?_
        replace hF := ckP hN hF
        obtain ⟨c_4, hF⟩ := hF
        refine lv_ldiv hx hb dX1_split_35 c_4 ?_
        refine lv_l2i hx hb dX1_split_36 rfl ?_
        refine lv_topi (fun x_5 ex_5 => ?_)
        replace hF := ltP ex_5 hF
        refine lv_istore (lv' := [(6, .int x_5), (0, .ref h_t), (1, .int x1), (2, .int x2), (3, .ref h_p2), (4, .int x4), (5, .int x5)]) hx hb dX1_split_37 hl (by decide) rfl (fun ls hl => ?_)
        refine lv_aload_n hx hb dX1_split_39 rfl (lv_at hl 1 rfl) ?_
        refine lv_iload hx hb dX1_split_40 (lv_at hl 6 rfl) ?_
        refine lv_iload_n hx hb dX1_split_42 rfl (lv_at hl 2 rfl) ?_
        refine lv_iload hx hb dX1_split_43 (lv_at hl 0 rfl) ?_
        have hn_6 := bdN hN hF
        refine callVV (As := [.int x5, .int x1, .int x_5]) (rest := []) (wr := [(h_p2, .inr (0, [.long v_p2_wholeOfAll, .ref h_p2_parts, .ref h_p2_rows, .ref h_p2_outs, .ref h_p2_minors])), (h_p2_parts, .inl (cJ, 5, .inr (.inl a_p2_parts)))]) (W2 := fun u_7 => [(h_t, .inr (1, [.ref h_held, .ref h_totals])), (h_p2, .inr (0, [.long v_p2_wholeOfAll, .ref h_p2_parts, .ref h_p2_rows, .ref h_p2_outs, .ref h_p2_minors])), (h_p2_parts, .inl (cJ, 5, .inr (.inl a_p2_parts))), (h_held, .inl (cI, 25, .inl u_7.2.1)), (h_totals, .inl (cI, 5, .inl u_7.2.2))]) X hE hP hD hS hA (kX1_put l D cB cI cJ cZ rz n H.size h_t h_held h_totals a_held a_totals x5 x1 x_5 hn_6) w_3_32 w_3_34 ws_38 w_1_6 w_3_35 cb_X1_put rfl rfl ⟨Nat.le_of_ble_eq_true rfl, Nat.le_of_ble_eq_true rfl⟩ rfl hl.1 rfl (Nat.le_of_ble_eq_true rfl) dX1_split_45 ⟨Nat.le_of_ble_eq_true rfl, Nat.le_of_ble_eq_true rfl⟩ (c2 := 0) (s2 := 0) rfl rfl (k0 := 0) rfl rfl [0, 3, 4] [1, 2] [2, 0, 1, 3, 4] rfl rfl (by decide) (by decide) (by decide) (by decide) (fun _ => rfl) (fun u_7 H locs hG hP hD hS => ?_)
        replace hF := bdQ hG hF
        refine lv_iload hx hb dX1_split_48 (lv_at hl 5 rfl) ?_
        refine lv_iload hx hb dX1_split_50 (lv_at hl 0 rfl) ?_
        refine lv_isub hx hb dX1_split_52 ?_
        refine lv_topi (fun x_8 ex_8 => ?_)
        replace hF := ltP ex_8 hF
        refine lv_istore (lv' := [(4, .int x_8), (6, .int x_5), (0, .ref h_t), (1, .int x1), (2, .int x2), (3, .ref h_p2), (5, .int x5)]) hx hb dX1_split_53 hl (by decide) rfl (fun ls hl => ?_)
        obtain ⟨x_9, ex_9⟩ : ∃ y : Int32, y = x5 + (1 : Int32) := ⟨_, rfl⟩
        replace hF := ltP ex_9 hF
        refine lv_iinc (v := x_9) (lv' := [(5, .int x_9), (4, .int x_8), (6, .int x_5), (0, .ref h_t), (1, .int x1), (2, .int x2), (3, .ref h_p2)]) hx hb dX1_split_55 hl (k := 6) rfl (by rw [ex_9]; rfl) (by decide) rfl (fun ls hl => ?_)
        refine lv_goto (tgt := 6) hx hb dX1_split_58 (by decide) ?_
        exact ih6 u_7.2.1 u_7.2.2 x1 x2 x_8 x_9 H locs ls hF hP hD hS (lv_sub hl [3, 4, 5, 6, 1, 0] rfl)
  have Lc6 : ∀ (j : Nat), ∀ (a_held : Nat → Int32) (a_totals : Nat → Int32) (x1 : Int32) (x2 : Int32) (x4 : Int32) (x5 : Int32) (H : Heap) (locs : List Loc) (ls : Array Slot), FX1_split_6L n v_p2_wholeOfAll a_p2_parts z1 z2 j a_held a_totals x1 x2 x4 x5 = O → va_P D classes [(h_t, .inr (1, [.ref h_held, .ref h_totals])), (h_p2, .inr (0, [.long v_p2_wholeOfAll, .ref h_p2_parts, .ref h_p2_rows, .ref h_p2_outs, .ref h_p2_minors])), (h_p2_parts, .inl (cJ, 5, .inr (.inl a_p2_parts))), (h_held, .inl (cI, 25, .inl a_held)), (h_totals, .inl (cI, 5, .inl a_totals))] H → va_D A [(h_t, .inr (1, [.ref h_held, .ref h_totals])), (h_p2, .inr (0, [.long v_p2_wholeOfAll, .ref h_p2_parts, .ref h_p2_rows, .ref h_p2_outs, .ref h_p2_minors])), (h_p2_parts, .inl (cJ, 5, .inr (.inl a_p2_parts))), (h_held, .inl (cI, 25, .inl a_held)), (h_totals, .inl (cI, 5, .inl a_totals))] → va_S A s.heap H locs → lv_has ls 7 [(0, .ref h_t), (1, .int x1), (2, .int x2), (3, .ref h_p2), (4, .int x4), (5, .int x5)] → W p l e rmX1_split s m ([.ref h_t, .int z1, .int z2, .ref h_p2] : List Value).toArray below meth c H locs 0 0 Q (F0 m 6 ls []) := by
    intro j
    induction j with
    | zero => intro _ _ _ _ _ _ H locs ls hF; exact absurd hF.symm hN
    | succ j ih => exact L6 (FX1_split_6L n v_p2_wholeOfAll a_p2_parts z1 z2 j) ih
  unfold FX1_split at hF
  obtain ⟨H, hH⟩ : ∃ H, H = s.heap := ⟨_, rfl⟩
  obtain ⟨locs, hlo⟩ : ∃ locs : List Loc, locs = [] := ⟨_, rfl⟩
  have hS : va_S A s.heap H locs := by rw [hH, hlo]; exact hS
  rw [← hH] at hP
  have goal : W p l e rmX1_split s m ([.ref h_t, .int z1, .int z2, .ref h_p2] : List Value).toArray below meth c H locs 0 0 Q (F0 m 0 ls []) := by
    refine lv_iload_n hx hb dX1_split_0 rfl (lv_at hl 2 rfl) ?_
    refine lv_istore (lv' := [(4, .int z2), (0, .ref h_t), (1, .int z1), (2, .int z2), (3, .ref h_p2)]) hx hb dX1_split_1 hl (by decide) rfl (fun ls hl => ?_)
    refine lv_iconst (v := 0) hx hb dX1_split_3 (by decide) ?_
    refine lv_istore (lv' := [(5, .int (0 : Int32)), (4, .int z2), (0, .ref h_t), (1, .int z1), (2, .int z2), (3, .ref h_p2)]) hx hb dX1_split_4 hl (by decide) rfl (fun ls hl => ?_)
    exact Lc6 n a_held a_totals z1 z2 z2 (0 : Int32) H locs ls hF hP hD hS (lv_sub hl [2, 3, 4, 5, 1, 0] rfl)
  rw [hH, hlo] at goal
  exact goal
theorem dX1_sort_0 : decode cX1_sort 0 = .ok (.aload_n 0, 1) := by decide +kernel
theorem dX1_sort_1 : decode cX1_sort 1 = .ok (.getfield 9, 3) := by decide +kernel
theorem dX1_sort_4 : decode cX1_sort 4 = .ok (.iconst 0, 1) := by decide +kernel
theorem dX1_sort_5 : decode cX1_sort 5 = .ok (.invokestatic 18, 3) := by decide +kernel
theorem dX1_sort_8 : decode cX1_sort 8 = .ok (.aload_n 0, 1) := by decide +kernel
theorem dX1_sort_9 : decode cX1_sort 9 = .ok (.getfield 15, 3) := by decide +kernel
theorem dX1_sort_12 : decode cX1_sort 12 = .ok (.iconst 0, 1) := by decide +kernel
theorem dX1_sort_13 : decode cX1_sort 13 = .ok (.invokestatic 18, 3) := by decide +kernel
theorem dX1_sort_16 : decode cX1_sort 16 = .ok (.iconst 0, 1) := by decide +kernel
theorem dX1_sort_17 : decode cX1_sort 17 = .ok (.istore 5, 2) := by decide +kernel
theorem dX1_sort_19 : decode cX1_sort 19 = .ok (.iload 5, 2) := by decide +kernel
theorem dX1_sort_21 : decode cX1_sort 21 = .ok (.iconst 5, 1) := by decide +kernel
theorem dX1_sort_22 : decode cX1_sort 22 = .ok (.if_icmp .ge 37, 3) := by decide +kernel
theorem dX1_sort_25 : decode cX1_sort 25 = .ok (.aload_n 3, 1) := by decide +kernel
theorem dX1_sort_26 : decode cX1_sort 26 = .ok (.iload 5, 2) := by decide +kernel
theorem dX1_sort_28 : decode cX1_sort 28 = .ok (.iaload, 1) := by decide +kernel
theorem dX1_sort_29 : decode cX1_sort 29 = .ok (.ifCond .le 24, 3) := by decide +kernel
theorem dX1_sort_32 : decode cX1_sort 32 = .ok (.aload 4, 2) := by decide +kernel
theorem dX1_sort_34 : decode cX1_sort 34 = .ok (.aload_n 1, 1) := by decide +kernel
theorem dX1_sort_35 : decode cX1_sort 35 = .ok (.aload_n 2, 1) := by decide +kernel
theorem dX1_sort_36 : decode cX1_sort 36 = .ok (.iload 5, 2) := by decide +kernel
theorem dX1_sort_38 : decode cX1_sort 38 = .ok (.invokevirtual 24, 3) := by decide +kernel
theorem dX1_sort_41 : decode cX1_sort 41 = .ok (.aload_n 0, 1) := by decide +kernel
theorem dX1_sort_42 : decode cX1_sort 42 = .ok (.iload 5, 2) := by decide +kernel
theorem dX1_sort_44 : decode cX1_sort 44 = .ok (.aload_n 3, 1) := by decide +kernel
theorem dX1_sort_45 : decode cX1_sort 45 = .ok (.iload 5, 2) := by decide +kernel
theorem dX1_sort_47 : decode cX1_sort 47 = .ok (.iaload, 1) := by decide +kernel
theorem dX1_sort_48 : decode cX1_sort 48 = .ok (.aload 4, 2) := by decide +kernel
theorem dX1_sort_50 : decode cX1_sort 50 = .ok (.invokevirtual 30, 3) := by decide +kernel
theorem dX1_sort_53 : decode cX1_sort 53 = .ok (.iinc 5 1, 3) := by decide +kernel
theorem dX1_sort_56 : decode cX1_sort 56 = .ok (.goto (-37), 3) := by decide +kernel
theorem dX1_sort_59 : decode cX1_sort 59 = .ok (.return_, 1) := by decide +kernel
abbrev rmX1_sort : Room := { frames := 3, cells := 0, slots := 0, locals := 79 }
theorem cb_X1_sort : CBn yX1_sort 4 := ⟨by decide +kernel, by decide +kernel, by decide +kernel⟩
def FX1_sort_53 (n : Nat) (v_p0_units : Int32) (a_p1 : Nat → Int32) (a_p2 : Nat → Int32) (a_p0_percents : Nat → Int32) (a_p0_yesLeads : Nat → Int32) (a_p0_noLeads : Nat → Int32) (k19 : Int64 → (Nat → Int32) → (Nat → Int32) → (Nat → Int64) → (Nat → Int32) → (Nat → Int32) → (Nat → Int64) → Int32 → Option (Unit × Int64 × (Nat → Int32) × (Nat → Int32) × (Nat → Int64) × (Nat → Int32) × (Nat → Int32) × (Nat → Int64))) (v_p3_wholeOfAll : Int64) (a_held : Nat → Int32) (a_totals : Nat → Int32) (a_p3_parts : Nat → Int64) (a_p3_rows : Nat → Int32) (a_p3_outs : Nat → Int32) (a_p3_minors : Nat → Int64) (x5 : Int32) : Option (Unit × Int64 × (Nat → Int32) × (Nat → Int32) × (Nat → Int64) × (Nat → Int32) × (Nat → Int32) × (Nat → Int64)) := lt1 (x5 + (1 : Int32)) (fun x_13 => k19 v_p3_wholeOfAll a_held a_totals a_p3_parts a_p3_rows a_p3_outs a_p3_minors x_13)
def FX1_sort_19 (n : Nat) (v_p0_units : Int32) (a_p1 : Nat → Int32) (a_p2 : Nat → Int32) (a_p0_percents : Nat → Int32) (a_p0_yesLeads : Nat → Int32) (a_p0_noLeads : Nat → Int32) (k19 : Int64 → (Nat → Int32) → (Nat → Int32) → (Nat → Int64) → (Nat → Int32) → (Nat → Int32) → (Nat → Int64) → Int32 → Option (Unit × Int64 × (Nat → Int32) × (Nat → Int32) × (Nat → Int64) × (Nat → Int32) × (Nat → Int32) × (Nat → Int64))) (v_p3_wholeOfAll : Int64) (a_held : Nat → Int32) (a_totals : Nat → Int32) (a_p3_parts : Nat → Int64) (a_p3_rows : Nat → Int32) (a_p3_outs : Nat → Int32) (a_p3_minors : Nat → Int64) (x5 : Int32) : Option (Unit × Int64 × (Nat → Int32) × (Nat → Int32) × (Nat → Int64) × (Nat → Int32) × (Nat → Int32) × (Nat → Int64)) := if (5 : Int32) ≤ x5 then (some ((), v_p3_wholeOfAll, a_held, a_totals, a_p3_parts, a_p3_rows, a_p3_outs, a_p3_minors)) else (if ¬ (x5 < 0 ∨ 5 ≤ (x5).toNatClampNeg) then (if (a_p2 (x5).toNatClampNeg) ≤ 0 then (FX1_sort_53 n v_p0_units a_p1 a_p2 a_p0_percents a_p0_yesLeads a_p0_noLeads k19 v_p3_wholeOfAll a_held a_totals a_p3_parts a_p3_rows a_p3_outs a_p3_minors x5) else (bd (FX0_solve n v_p3_wholeOfAll v_p0_units a_p1 a_p3_parts a_p3_rows a_p3_outs a_p0_percents a_p0_yesLeads a_p0_noLeads a_p3_minors x5) (fun u_9 => if ¬ (x5 < 0 ∨ 5 ≤ (x5).toNatClampNeg) then (bd (FX1_split n u_9.2.1 u_9.2.2.1 a_held a_totals x5 (a_p2 (x5).toNatClampNeg)) (fun u_12 => FX1_sort_53 n v_p0_units a_p1 a_p2 a_p0_percents a_p0_yesLeads a_p0_noLeads k19 u_9.2.1 u_12.2.1 u_12.2.2 u_9.2.2.1 u_9.2.2.2.1 u_9.2.2.2.2.1 u_9.2.2.2.2.2 x5)) else none))) else none)
def FX1_sort_19L (n : Nat) (v_p0_units : Int32) (a_p1 : Nat → Int32) (a_p2 : Nat → Int32) (a_p0_percents : Nat → Int32) (a_p0_yesLeads : Nat → Int32) (a_p0_noLeads : Nat → Int32) (j : Nat) : Int64 → (Nat → Int32) → (Nat → Int32) → (Nat → Int64) → (Nat → Int32) → (Nat → Int32) → (Nat → Int64) → Int32 → Option (Unit × Int64 × (Nat → Int32) × (Nat → Int32) × (Nat → Int64) × (Nat → Int32) × (Nat → Int32) × (Nat → Int64)) := lpR (FX1_sort_19 n v_p0_units a_p1 a_p2 a_p0_percents a_p0_yesLeads a_p0_noLeads) (fun _ _ _ _ _ _ _ _ => none) j
def FX1_sort (n : Nat) (v_p0_units : Int32) (a_p1 : Nat → Int32) (a_p2 : Nat → Int32) (v_p3_wholeOfAll : Int64) (a_held : Nat → Int32) (a_totals : Nat → Int32) (a_p3_parts : Nat → Int64) (a_p3_rows : Nat → Int32) (a_p3_outs : Nat → Int32) (a_p0_percents : Nat → Int32) (a_p0_yesLeads : Nat → Int32) (a_p0_noLeads : Nat → Int32) (a_p3_minors : Nat → Int64) : Option (Unit × Int64 × (Nat → Int32) × (Nat → Int32) × (Nat → Int64) × (Nat → Int32) × (Nat → Int32) × (Nat → Int64)) := bd (FJ7_fill_53178 n 25 a_held (0 : Int32)) (fun u_2 => bd (FJ7_fill_53178 n 5 a_totals (0 : Int32)) (fun u_4 => FX1_sort_19L n v_p0_units a_p1 a_p2 a_p0_percents a_p0_yesLeads a_p0_noLeads n v_p3_wholeOfAll u_2.2 u_4.2 a_p3_parts a_p3_rows a_p3_outs a_p3_minors (0 : Int32)))
set_option maxHeartbeats 4000000 in
set_option maxRecDepth 100000 in
theorem kX1_sort (l : Launch) (D : va_G) (cB cI cJ cZ : ClassId) (rz n sz : Nat) (h_t : Nat) (h_p0 : Nat) (h_p1 : Nat) (h_p2 : Nat) (h_p3 : Nat) (h_held : Nat) (h_totals : Nat) (h_p3_parts : Nat) (h_p3_rows : Nat) (h_p3_outs : Nat) (h_p0_percents : Nat) (h_p0_yesLeads : Nat) (h_p0_noLeads : Nat) (h_p3_minors : Nat) (h_p0_settings : Nat) (h_p0_grades : Nat) (h_p0_gradeKinds : Nat) (h_p0_gradePurities : Nat) (h_p0_gradePrices : Nat) (v_p0_units : Int32) (v_p3_wholeOfAll : Int64) (a_p1 : Nat → Int32) (a_p2 : Nat → Int32) (a_held : Nat → Int32) (a_totals : Nat → Int32) (a_p3_parts : Nat → Int64) (a_p3_rows : Nat → Int32) (a_p3_outs : Nat → Int32) (a_p0_percents : Nat → Int32) (a_p0_yesLeads : Nat → Int32) (a_p0_noLeads : Nat → Int32) (a_p3_minors : Nat → Int64) (hN : FX1_sort n v_p0_units a_p1 a_p2 v_p3_wholeOfAll a_held a_totals a_p3_parts a_p3_rows a_p3_outs a_p0_percents a_p0_yesLeads a_p0_noLeads a_p3_minors ≠ none) : Met l yX1_sort (Cond.code yX1_sort cX1_sort 6 none :: AL) rmX1_sort (PW D cB cI cJ cZ rz [.ref h_t, .ref h_p0, .ref h_p1, .ref h_p2, .ref h_p3] [(h_t, .inr (1, [.ref h_held, .ref h_totals])), (h_p0, .inr (2, [.int v_p0_units, .ref h_p0_settings, .ref h_p0_yesLeads, .ref h_p0_noLeads, .ref h_p0_percents, .ref h_p0_grades, .ref h_p0_gradeKinds, .ref h_p0_gradePurities, .ref h_p0_gradePrices])), (h_p1, .inl (cI, 5, .inl a_p1)), (h_p2, .inl (cI, 5, .inl a_p2)), (h_p3, .inr (0, [.long v_p3_wholeOfAll, .ref h_p3_parts, .ref h_p3_rows, .ref h_p3_outs, .ref h_p3_minors])), (h_held, .inl (cI, 25, .inl a_held)), (h_totals, .inl (cI, 5, .inl a_totals)), (h_p3_parts, .inl (cJ, 5, .inr (.inl a_p3_parts))), (h_p3_rows, .inl (cI, 25, .inl a_p3_rows)), (h_p3_outs, .inl (cI, 25, .inl a_p3_outs)), (h_p0_percents, .inl (cI, 75, .inl a_p0_percents)), (h_p0_yesLeads, .inl (cI, 5, .inl a_p0_yesLeads)), (h_p0_noLeads, .inl (cI, 5, .inl a_p0_noLeads)), (h_p3_minors, .inl (cJ, 32, .inr (.inl a_p3_minors)))] sz) (QV D (FX1_sort n v_p0_units a_p1 a_p2 v_p3_wholeOfAll a_held a_totals a_p3_parts a_p3_rows a_p3_outs a_p0_percents a_p0_yesLeads a_p0_noLeads a_p3_minors) (fun u => [(h_t, .inr (1, [.ref h_held, .ref h_totals])), (h_p0, .inr (2, [.int v_p0_units, .ref h_p0_settings, .ref h_p0_yesLeads, .ref h_p0_noLeads, .ref h_p0_percents, .ref h_p0_grades, .ref h_p0_gradeKinds, .ref h_p0_gradePurities, .ref h_p0_gradePrices])), (h_p1, .inl (cI, 5, .inl a_p1)), (h_p2, .inl (cI, 5, .inl a_p2)), (h_p3, .inr (0, [.long u.2.1, .ref h_p3_parts, .ref h_p3_rows, .ref h_p3_outs, .ref h_p3_minors])), (h_held, .inl (cI, 25, .inl u.2.2.1)), (h_totals, .inl (cI, 5, .inl u.2.2.2.1)), (h_p3_parts, .inl (cJ, 5, .inr (.inl u.2.2.2.2.1))), (h_p3_rows, .inl (cI, 25, .inl u.2.2.2.2.2.1)), (h_p3_outs, .inl (cI, 25, .inl u.2.2.2.2.2.2.1)), (h_p0_percents, .inl (cI, 75, .inl a_p0_percents)), (h_p0_yesLeads, .inl (cI, 5, .inl a_p0_yesLeads)), (h_p0_noLeads, .inl (cI, 5, .inl a_p0_noLeads)), (h_p3_minors, .inl (cJ, 32, .inr (.inl u.2.2.2.2.2.2.2)))]) (va_A [(h_t, .inr (1, [.ref h_held, .ref h_totals])), (h_p0, .inr (2, [.int v_p0_units, .ref h_p0_settings, .ref h_p0_yesLeads, .ref h_p0_noLeads, .ref h_p0_percents, .ref h_p0_grades, .ref h_p0_gradeKinds, .ref h_p0_gradePurities, .ref h_p0_gradePrices])), (h_p1, .inl (cI, 5, .inl a_p1)), (h_p2, .inl (cI, 5, .inl a_p2)), (h_p3, .inr (0, [.long v_p3_wholeOfAll, .ref h_p3_parts, .ref h_p3_rows, .ref h_p3_outs, .ref h_p3_minors])), (h_held, .inl (cI, 25, .inl a_held)), (h_totals, .inl (cI, 5, .inl a_totals)), (h_p3_parts, .inl (cJ, 5, .inr (.inl a_p3_parts))), (h_p3_rows, .inl (cI, 25, .inl a_p3_rows)), (h_p3_outs, .inl (cI, 25, .inl a_p3_outs)), (h_p0_percents, .inl (cI, 75, .inl a_p0_percents)), (h_p0_yesLeads, .inl (cI, 5, .inl a_p0_yesLeads)), (h_p0_noLeads, .inl (cI, 5, .inl a_p0_noLeads)), (h_p3_minors, .inl (cJ, 32, .inr (.inl a_p3_minors)))] sz)) 0 0 (va_A [(h_t, .inr (1, [.ref h_held, .ref h_totals])), (h_p0, .inr (2, [.int v_p0_units, .ref h_p0_settings, .ref h_p0_yesLeads, .ref h_p0_noLeads, .ref h_p0_percents, .ref h_p0_grades, .ref h_p0_gradeKinds, .ref h_p0_gradePurities, .ref h_p0_gradePrices])), (h_p1, .inl (cI, 5, .inl a_p1)), (h_p2, .inl (cI, 5, .inl a_p2)), (h_p3, .inr (0, [.long v_p3_wholeOfAll, .ref h_p3_parts, .ref h_p3_rows, .ref h_p3_outs, .ref h_p3_minors])), (h_held, .inl (cI, 25, .inl a_held)), (h_totals, .inl (cI, 5, .inl a_totals)), (h_p3_parts, .inl (cJ, 5, .inr (.inl a_p3_parts))), (h_p3_rows, .inl (cI, 25, .inl a_p3_rows)), (h_p3_outs, .inl (cI, 25, .inl a_p3_outs)), (h_p0_percents, .inl (cI, 75, .inl a_p0_percents)), (h_p0_yesLeads, .inl (cI, 5, .inl a_p0_yesLeads)), (h_p0_noLeads, .inl (cI, 5, .inl a_p0_noLeads)), (h_p3_minors, .inl (cJ, 32, .inr (.inl a_p3_minors)))] sz) := by
  obtain ⟨O, hF⟩ : ∃ O, FX1_sort n v_p0_units a_p1 a_p2 v_p3_wholeOfAll a_held a_totals a_p3_parts a_p3_rows a_p3_outs a_p0_percents a_p0_yesLeads a_p0_noLeads a_p3_minors = O := ⟨_, rfl⟩
  rw [hF] at hN ⊢
  refine enterV (cc := cX1_sort) (nL := 6) (by decide) (Nat.le_of_ble_eq_true rfl) ?_
  intro p e s m below meth c A Q X hA hE hnm hsz hP hD hS hret ls hl
  obtain ⟨hx, hb, hml, hown0, ha⟩ := id X
  have hown : s.vm.findClass RX1 = some m.cls := hown0
  have hK := hE.1
  have hl : lv_has ls 6 [(0, .ref h_t), (1, .ref h_p0), (2, .ref h_p1), (3, .ref h_p2), (4, .ref h_p3)] := hl
  have hX : CallFix p m c cX1_sort 6 s ([.ref h_t, .ref h_p0, .ref h_p1, .ref h_p2, .ref h_p3] : List Value).toArray AL RX1 := X
  have X := hX
  have L53 : ∀ (k19 : Int64 → (Nat → Int32) → (Nat → Int32) → (Nat → Int64) → (Nat → Int32) → (Nat → Int32) → (Nat → Int64) → Int32 → Option (Unit × Int64 × (Nat → Int32) × (Nat → Int32) × (Nat → Int64) × (Nat → Int32) × (Nat → Int32) × (Nat → Int64))) (ih19 : ∀ (v_p3_wholeOfAll : Int64) (a_held : Nat → Int32) (a_totals : Nat → Int32) (a_p3_parts : Nat → Int64) (a_p3_rows : Nat → Int32) (a_p3_outs : Nat → Int32) (a_p3_minors : Nat → Int64) (x5 : Int32) (H : Heap) (locs : List Loc) (ls : Array Slot), k19 v_p3_wholeOfAll a_held a_totals a_p3_parts a_p3_rows a_p3_outs a_p3_minors x5 = O → va_P D classes [(h_t, .inr (1, [.ref h_held, .ref h_totals])), (h_p0, .inr (2, [.int v_p0_units, .ref h_p0_settings, .ref h_p0_yesLeads, .ref h_p0_noLeads, .ref h_p0_percents, .ref h_p0_grades, .ref h_p0_gradeKinds, .ref h_p0_gradePurities, .ref h_p0_gradePrices])), (h_p1, .inl (cI, 5, .inl a_p1)), (h_p2, .inl (cI, 5, .inl a_p2)), (h_p3, .inr (0, [.long v_p3_wholeOfAll, .ref h_p3_parts, .ref h_p3_rows, .ref h_p3_outs, .ref h_p3_minors])), (h_held, .inl (cI, 25, .inl a_held)), (h_totals, .inl (cI, 5, .inl a_totals)), (h_p3_parts, .inl (cJ, 5, .inr (.inl a_p3_parts))), (h_p3_rows, .inl (cI, 25, .inl a_p3_rows)), (h_p3_outs, .inl (cI, 25, .inl a_p3_outs)), (h_p0_percents, .inl (cI, 75, .inl a_p0_percents)), (h_p0_yesLeads, .inl (cI, 5, .inl a_p0_yesLeads)), (h_p0_noLeads, .inl (cI, 5, .inl a_p0_noLeads)), (h_p3_minors, .inl (cJ, 32, .inr (.inl a_p3_minors)))] H → va_D A [(h_t, .inr (1, [.ref h_held, .ref h_totals])), (h_p0, .inr (2, [.int v_p0_units, .ref h_p0_settings, .ref h_p0_yesLeads, .ref h_p0_noLeads, .ref h_p0_percents, .ref h_p0_grades, .ref h_p0_gradeKinds, .ref h_p0_gradePurities, .ref h_p0_gradePrices])), (h_p1, .inl (cI, 5, .inl a_p1)), (h_p2, .inl (cI, 5, .inl a_p2)), (h_p3, .inr (0, [.long v_p3_wholeOfAll, .ref h_p3_parts, .ref h_p3_rows, .ref h_p3_outs, .ref h_p3_minors])), (h_held, .inl (cI, 25, .inl a_held)), (h_totals, .inl (cI, 5, .inl a_totals)), (h_p3_parts, .inl (cJ, 5, .inr (.inl a_p3_parts))), (h_p3_rows, .inl (cI, 25, .inl a_p3_rows)), (h_p3_outs, .inl (cI, 25, .inl a_p3_outs)), (h_p0_percents, .inl (cI, 75, .inl a_p0_percents)), (h_p0_yesLeads, .inl (cI, 5, .inl a_p0_yesLeads)), (h_p0_noLeads, .inl (cI, 5, .inl a_p0_noLeads)), (h_p3_minors, .inl (cJ, 32, .inr (.inl a_p3_minors)))] → va_S A s.heap H locs → lv_has ls 6 [(0, .ref h_t), (1, .ref h_p0), (2, .ref h_p1), (3, .ref h_p2), (4, .ref h_p3), (5, .int x5)] → W p l e rmX1_sort s m ([.ref h_t, .ref h_p0, .ref h_p1, .ref h_p2, .ref h_p3] : List Value).toArray below meth c H locs 0 0 Q (F0 m 19 ls [])), ∀ (v_p3_wholeOfAll : Int64) (a_held : Nat → Int32) (a_totals : Nat → Int32) (a_p3_parts : Nat → Int64) (a_p3_rows : Nat → Int32) (a_p3_outs : Nat → Int32) (a_p3_minors : Nat → Int64) (x5 : Int32) (H : Heap) (locs : List Loc) (ls : Array Slot), FX1_sort_53 n v_p0_units a_p1 a_p2 a_p0_percents a_p0_yesLeads a_p0_noLeads k19 v_p3_wholeOfAll a_held a_totals a_p3_parts a_p3_rows a_p3_outs a_p3_minors x5 = O → va_P D classes [(h_t, .inr (1, [.ref h_held, .ref h_totals])), (h_p0, .inr (2, [.int v_p0_units, .ref h_p0_settings, .ref h_p0_yesLeads, .ref h_p0_noLeads, .ref h_p0_percents, .ref h_p0_grades, .ref h_p0_gradeKinds, .ref h_p0_gradePurities, .ref h_p0_gradePrices])), (h_p1, .inl (cI, 5, .inl a_p1)), (h_p2, .inl (cI, 5, .inl a_p2)), (h_p3, .inr (0, [.long v_p3_wholeOfAll, .ref h_p3_parts, .ref h_p3_rows, .ref h_p3_outs, .ref h_p3_minors])), (h_held, .inl (cI, 25, .inl a_held)), (h_totals, .inl (cI, 5, .inl a_totals)), (h_p3_parts, .inl (cJ, 5, .inr (.inl a_p3_parts))), (h_p3_rows, .inl (cI, 25, .inl a_p3_rows)), (h_p3_outs, .inl (cI, 25, .inl a_p3_outs)), (h_p0_percents, .inl (cI, 75, .inl a_p0_percents)), (h_p0_yesLeads, .inl (cI, 5, .inl a_p0_yesLeads)), (h_p0_noLeads, .inl (cI, 5, .inl a_p0_noLeads)), (h_p3_minors, .inl (cJ, 32, .inr (.inl a_p3_minors)))] H → va_D A [(h_t, .inr (1, [.ref h_held, .ref h_totals])), (h_p0, .inr (2, [.int v_p0_units, .ref h_p0_settings, .ref h_p0_yesLeads, .ref h_p0_noLeads, .ref h_p0_percents, .ref h_p0_grades, .ref h_p0_gradeKinds, .ref h_p0_gradePurities, .ref h_p0_gradePrices])), (h_p1, .inl (cI, 5, .inl a_p1)), (h_p2, .inl (cI, 5, .inl a_p2)), (h_p3, .inr (0, [.long v_p3_wholeOfAll, .ref h_p3_parts, .ref h_p3_rows, .ref h_p3_outs, .ref h_p3_minors])), (h_held, .inl (cI, 25, .inl a_held)), (h_totals, .inl (cI, 5, .inl a_totals)), (h_p3_parts, .inl (cJ, 5, .inr (.inl a_p3_parts))), (h_p3_rows, .inl (cI, 25, .inl a_p3_rows)), (h_p3_outs, .inl (cI, 25, .inl a_p3_outs)), (h_p0_percents, .inl (cI, 75, .inl a_p0_percents)), (h_p0_yesLeads, .inl (cI, 5, .inl a_p0_yesLeads)), (h_p0_noLeads, .inl (cI, 5, .inl a_p0_noLeads)), (h_p3_minors, .inl (cJ, 32, .inr (.inl a_p3_minors)))] → va_S A s.heap H locs → lv_has ls 6 [(0, .ref h_t), (1, .ref h_p0), (2, .ref h_p1), (3, .ref h_p2), (4, .ref h_p3), (5, .int x5)] → W p l e rmX1_sort s m ([.ref h_t, .ref h_p0, .ref h_p1, .ref h_p2, .ref h_p3] : List Value).toArray below meth c H locs 0 0 Q (F0 m 53 ls []) := by
    intro k19 ih19 v_p3_wholeOfAll a_held a_totals a_p3_parts a_p3_rows a_p3_outs a_p3_minors x5 H locs ls hF hP hD hS hl
    unfold FX1_sort_53 at hF
    obtain ⟨x_13, ex_13⟩ : ∃ y : Int32, y = x5 + (1 : Int32) := ⟨_, rfl⟩
    replace hF := ltP ex_13 hF
    refine lv_iinc (v := x_13) (lv' := [(5, .int x_13), (0, .ref h_t), (1, .ref h_p0), (2, .ref h_p1), (3, .ref h_p2), (4, .ref h_p3)]) hx hb dX1_sort_53 hl (k := 5) rfl (by rw [ex_13]; rfl) (by decide) rfl (fun ls hl => ?_)
    refine lv_goto (tgt := 19) hx hb dX1_sort_56 (by decide) ?_
    exact ih19 v_p3_wholeOfAll a_held a_totals a_p3_parts a_p3_rows a_p3_outs a_p3_minors x_13 H locs ls hF hP hD hS (lv_sub hl [1, 2, 3, 4, 5, 0] rfl)
  have L19 : ∀ (k19 : Int64 → (Nat → Int32) → (Nat → Int32) → (Nat → Int64) → (Nat → Int32) → (Nat → Int32) → (Nat → Int64) → Int32 → Option (Unit × Int64 × (Nat → Int32) × (Nat → Int32) × (Nat → Int64) × (Nat → Int32) × (Nat → Int32) × (Nat → Int64))) (ih19 : ∀ (v_p3_wholeOfAll : Int64) (a_held : Nat → Int32) (a_totals : Nat → Int32) (a_p3_parts : Nat → Int64) (a_p3_rows : Nat → Int32) (a_p3_outs : Nat → Int32) (a_p3_minors : Nat → Int64) (x5 : Int32) (H : Heap) (locs : List Loc) (ls : Array Slot), k19 v_p3_wholeOfAll a_held a_totals a_p3_parts a_p3_rows a_p3_outs a_p3_minors x5 = O → va_P D classes [(h_t, .inr (1, [.ref h_held, .ref h_totals])), (h_p0, .inr (2, [.int v_p0_units, .ref h_p0_settings, .ref h_p0_yesLeads, .ref h_p0_noLeads, .ref h_p0_percents, .ref h_p0_grades, .ref h_p0_gradeKinds, .ref h_p0_gradePurities, .ref h_p0_gradePrices])), (h_p1, .inl (cI, 5, .inl a_p1)), (h_p2, .inl (cI, 5, .inl a_p2)), (h_p3, .inr (0, [.long v_p3_wholeOfAll, .ref h_p3_parts, .ref h_p3_rows, .ref h_p3_outs, .ref h_p3_minors])), (h_held, .inl (cI, 25, .inl a_held)), (h_totals, .inl (cI, 5, .inl a_totals)), (h_p3_parts, .inl (cJ, 5, .inr (.inl a_p3_parts))), (h_p3_rows, .inl (cI, 25, .inl a_p3_rows)), (h_p3_outs, .inl (cI, 25, .inl a_p3_outs)), (h_p0_percents, .inl (cI, 75, .inl a_p0_percents)), (h_p0_yesLeads, .inl (cI, 5, .inl a_p0_yesLeads)), (h_p0_noLeads, .inl (cI, 5, .inl a_p0_noLeads)), (h_p3_minors, .inl (cJ, 32, .inr (.inl a_p3_minors)))] H → va_D A [(h_t, .inr (1, [.ref h_held, .ref h_totals])), (h_p0, .inr (2, [.int v_p0_units, .ref h_p0_settings, .ref h_p0_yesLeads, .ref h_p0_noLeads, .ref h_p0_percents, .ref h_p0_grades, .ref h_p0_gradeKinds, .ref h_p0_gradePurities, .ref h_p0_gradePrices])), (h_p1, .inl (cI, 5, .inl a_p1)), (h_p2, .inl (cI, 5, .inl a_p2)), (h_p3, .inr (0, [.long v_p3_wholeOfAll, .ref h_p3_parts, .ref h_p3_rows, .ref h_p3_outs, .ref h_p3_minors])), (h_held, .inl (cI, 25, .inl a_held)), (h_totals, .inl (cI, 5, .inl a_totals)), (h_p3_parts, .inl (cJ, 5, .inr (.inl a_p3_parts))), (h_p3_rows, .inl (cI, 25, .inl a_p3_rows)), (h_p3_outs, .inl (cI, 25, .inl a_p3_outs)), (h_p0_percents, .inl (cI, 75, .inl a_p0_percents)), (h_p0_yesLeads, .inl (cI, 5, .inl a_p0_yesLeads)), (h_p0_noLeads, .inl (cI, 5, .inl a_p0_noLeads)), (h_p3_minors, .inl (cJ, 32, .inr (.inl a_p3_minors)))] → va_S A s.heap H locs → lv_has ls 6 [(0, .ref h_t), (1, .ref h_p0), (2, .ref h_p1), (3, .ref h_p2), (4, .ref h_p3), (5, .int x5)] → W p l e rmX1_sort s m ([.ref h_t, .ref h_p0, .ref h_p1, .ref h_p2, .ref h_p3] : List Value).toArray below meth c H locs 0 0 Q (F0 m 19 ls [])), ∀ (v_p3_wholeOfAll : Int64) (a_held : Nat → Int32) (a_totals : Nat → Int32) (a_p3_parts : Nat → Int64) (a_p3_rows : Nat → Int32) (a_p3_outs : Nat → Int32) (a_p3_minors : Nat → Int64) (x5 : Int32) (H : Heap) (locs : List Loc) (ls : Array Slot), FX1_sort_19 n v_p0_units a_p1 a_p2 a_p0_percents a_p0_yesLeads a_p0_noLeads k19 v_p3_wholeOfAll a_held a_totals a_p3_parts a_p3_rows a_p3_outs a_p3_minors x5 = O → va_P D classes [(h_t, .inr (1, [.ref h_held, .ref h_totals])), (h_p0, .inr (2, [.int v_p0_units, .ref h_p0_settings, .ref h_p0_yesLeads, .ref h_p0_noLeads, .ref h_p0_percents, .ref h_p0_grades, .ref h_p0_gradeKinds, .ref h_p0_gradePurities, .ref h_p0_gradePrices])), (h_p1, .inl (cI, 5, .inl a_p1)), (h_p2, .inl (cI, 5, .inl a_p2)), (h_p3, .inr (0, [.long v_p3_wholeOfAll, .ref h_p3_parts, .ref h_p3_rows, .ref h_p3_outs, .ref h_p3_minors])), (h_held, .inl (cI, 25, .inl a_held)), (h_totals, .inl (cI, 5, .inl a_totals)), (h_p3_parts, .inl (cJ, 5, .inr (.inl a_p3_parts))), (h_p3_rows, .inl (cI, 25, .inl a_p3_rows)), (h_p3_outs, .inl (cI, 25, .inl a_p3_outs)), (h_p0_percents, .inl (cI, 75, .inl a_p0_percents)), (h_p0_yesLeads, .inl (cI, 5, .inl a_p0_yesLeads)), (h_p0_noLeads, .inl (cI, 5, .inl a_p0_noLeads)), (h_p3_minors, .inl (cJ, 32, .inr (.inl a_p3_minors)))] H → va_D A [(h_t, .inr (1, [.ref h_held, .ref h_totals])), (h_p0, .inr (2, [.int v_p0_units, .ref h_p0_settings, .ref h_p0_yesLeads, .ref h_p0_noLeads, .ref h_p0_percents, .ref h_p0_grades, .ref h_p0_gradeKinds, .ref h_p0_gradePurities, .ref h_p0_gradePrices])), (h_p1, .inl (cI, 5, .inl a_p1)), (h_p2, .inl (cI, 5, .inl a_p2)), (h_p3, .inr (0, [.long v_p3_wholeOfAll, .ref h_p3_parts, .ref h_p3_rows, .ref h_p3_outs, .ref h_p3_minors])), (h_held, .inl (cI, 25, .inl a_held)), (h_totals, .inl (cI, 5, .inl a_totals)), (h_p3_parts, .inl (cJ, 5, .inr (.inl a_p3_parts))), (h_p3_rows, .inl (cI, 25, .inl a_p3_rows)), (h_p3_outs, .inl (cI, 25, .inl a_p3_outs)), (h_p0_percents, .inl (cI, 75, .inl a_p0_percents)), (h_p0_yesLeads, .inl (cI, 5, .inl a_p0_yesLeads)), (h_p0_noLeads, .inl (cI, 5, .inl a_p0_noLeads)), (h_p3_minors, .inl (cJ, 32, .inr (.inl a_p3_minors)))] → va_S A s.heap H locs → lv_has ls 6 [(0, .ref h_t), (1, .ref h_p0), (2, .ref h_p1), (3, .ref h_p2), (4, .ref h_p3), (5, .int x5)] → W p l e rmX1_sort s m ([.ref h_t, .ref h_p0, .ref h_p1, .ref h_p2, .ref h_p3] : List Value).toArray below meth c H locs 0 0 Q (F0 m 19 ls []) := by
    intro k19 ih19 v_p3_wholeOfAll a_held a_totals a_p3_parts a_p3_rows a_p3_outs a_p3_minors x5 H locs ls hF hP hD hS hl
    unfold FX1_sort_19 at hF
    refine lv_iload hx hb dX1_sort_19 (lv_at hl 5 rfl) ?_
    refine lv_iconst (v := 5) hx hb dX1_sort_21 (by decide) ?_
    refine lv_icmp_ge (tgt := 59) hx hb dX1_sort_22 (by decide) (fun c_5 => ?_) (fun c_5 => ?_)
    · replace hF := ifT c_5 hF
      exact hret ((), v_p3_wholeOfAll, a_held, a_totals, a_p3_parts, a_p3_rows, a_p3_outs, a_p3_minors) H locs ls _ hF hP hD hS dX1_sort_59
    · replace hF := ifF c_5 hF
      refine lv_aload_n hx hb dX1_sort_25 rfl (lv_at hl 3 rfl) ?_
      refine lv_iload hx hb dX1_sort_26 (lv_at hl 5 rfl) ?_
      replace hF := ckP hN hF
      obtain ⟨c_6, hF⟩ := hF
      refine ld_i hx hb hK hP 3 rfl c_6 dX1_sort_28 ?_
      refine lv_if_le (tgt := 53) hx hb dX1_sort_29 (by decide) (fun c_7 => ?_) (fun c_7 => ?_)
      · replace hF := ifT c_7 hF
        exact L53 k19 ih19 v_p3_wholeOfAll a_held a_totals a_p3_parts a_p3_rows a_p3_outs a_p3_minors x5 H locs ls hF hP hD hS (lv_sub hl [0, 1, 2, 3, 4, 5] rfl)
      · replace hF := ifF c_7 hF
        refine lv_aload hx hb dX1_sort_32 (lv_at hl 4 rfl) ?_
        refine lv_aload_n hx hb dX1_sort_34 rfl (lv_at hl 1 rfl) ?_
        refine lv_aload_n hx hb dX1_sort_35 rfl (lv_at hl 2 rfl) ?_
        refine lv_iload hx hb dX1_sort_36 (lv_at hl 5 rfl) ?_
        have hn_8 := bdN hN hF
        refine callVNV (As := [.ref h_p0, .ref h_p1, .int x5]) (rest := []) (wr := [(h_t, .inr (1, [.ref h_held, .ref h_totals])), (h_p2, .inl (cI, 5, .inl a_p2)), (h_held, .inl (cI, 25, .inl a_held)), (h_totals, .inl (cI, 5, .inl a_totals))]) (W2 := fun u_9 => [(h_t, .inr (1, [.ref h_held, .ref h_totals])), (h_p0, .inr (2, [.int v_p0_units, .ref h_p0_settings, .ref h_p0_yesLeads, .ref h_p0_noLeads, .ref h_p0_percents, .ref h_p0_grades, .ref h_p0_gradeKinds, .ref h_p0_gradePurities, .ref h_p0_gradePrices])), (h_p1, .inl (cI, 5, .inl a_p1)), (h_p2, .inl (cI, 5, .inl a_p2)), (h_p3, .inr (0, [.long u_9.2.1, .ref h_p3_parts, .ref h_p3_rows, .ref h_p3_outs, .ref h_p3_minors])), (h_held, .inl (cI, 25, .inl a_held)), (h_totals, .inl (cI, 5, .inl a_totals)), (h_p3_parts, .inl (cJ, 5, .inr (.inl u_9.2.2.1))), (h_p3_rows, .inl (cI, 25, .inl u_9.2.2.2.1)), (h_p3_outs, .inl (cI, 25, .inl u_9.2.2.2.2.1)), (h_p0_percents, .inl (cI, 75, .inl a_p0_percents)), (h_p0_yesLeads, .inl (cI, 5, .inl a_p0_yesLeads)), (h_p0_noLeads, .inl (cI, 5, .inl a_p0_noLeads)), (h_p3_minors, .inl (cJ, 32, .inr (.inl u_9.2.2.2.2.2)))]) X hE hP hD hS hA (kX0_solve l D cB cI cJ cZ rz n H.size h_p3 h_p0 h_p1 h_p3_parts h_p3_rows h_p3_outs h_p0_percents h_p0_yesLeads h_p0_noLeads h_p3_minors h_p0_settings h_p0_grades h_p0_gradeKinds h_p0_gradePurities h_p0_gradePrices v_p3_wholeOfAll v_p0_units a_p1 a_p3_parts a_p3_rows a_p3_outs a_p0_percents a_p0_yesLeads a_p0_noLeads a_p3_minors x5 hn_8) w_3_27 w_2_189 ws_26 w_1_5 w_2_190 cb_X0_solve rfl rfl ⟨Nat.le_of_ble_eq_true rfl, Nat.le_of_ble_eq_true rfl⟩ rfl hl.1 rfl (Nat.le_of_ble_eq_true rfl) dX1_sort_38 ⟨Nat.le_of_ble_eq_true rfl, Nat.le_of_ble_eq_true rfl⟩ (c2 := 0) (s2 := 0) rfl rfl (k0 := 4) rfl rfl [4, 1, 2, 7, 8, 9, 10, 11, 12, 13] [0, 3, 5, 6] [0, 5, 6, 1, 4, 2, 3, 7, 8, 9, 10, 11, 12, 13] rfl rfl (by decide) (by decide) (by decide) (by decide) (fun _ => rfl) (fun u_9 H locs hG hP hD hS => ?_)
        replace hF := bdQ hG hF
        refine lv_aload_n hx hb dX1_sort_41 rfl (lv_at hl 0 rfl) ?_
        refine lv_iload hx hb dX1_sort_42 (lv_at hl 5 rfl) ?_
        refine lv_aload_n hx hb dX1_sort_44 rfl (lv_at hl 3 rfl) ?_
        refine lv_iload hx hb dX1_sort_45 (lv_at hl 5 rfl) ?_
        replace hF := ckP hN hF
        obtain ⟨c_10, hF⟩ := hF
        refine ld_i hx hb hK hP 3 rfl c_10 dX1_sort_47 ?_
        refine lv_aload hx hb dX1_sort_48 (lv_at hl 4 rfl) ?_
        have hn_11 := bdN hN hF
        refine callVV (As := [.int x5, .int (a_p2 (x5).toNatClampNeg), .ref h_p3]) (rest := []) (wr := [(h_p0, .inr (2, [.int v_p0_units, .ref h_p0_settings, .ref h_p0_yesLeads, .ref h_p0_noLeads, .ref h_p0_percents, .ref h_p0_grades, .ref h_p0_gradeKinds, .ref h_p0_gradePurities, .ref h_p0_gradePrices])), (h_p1, .inl (cI, 5, .inl a_p1)), (h_p2, .inl (cI, 5, .inl a_p2)), (h_p3_rows, .inl (cI, 25, .inl u_9.2.2.2.1)), (h_p3_outs, .inl (cI, 25, .inl u_9.2.2.2.2.1)), (h_p0_percents, .inl (cI, 75, .inl a_p0_percents)), (h_p0_yesLeads, .inl (cI, 5, .inl a_p0_yesLeads)), (h_p0_noLeads, .inl (cI, 5, .inl a_p0_noLeads)), (h_p3_minors, .inl (cJ, 32, .inr (.inl u_9.2.2.2.2.2)))]) (W2 := fun u_12 => [(h_t, .inr (1, [.ref h_held, .ref h_totals])), (h_p0, .inr (2, [.int v_p0_units, .ref h_p0_settings, .ref h_p0_yesLeads, .ref h_p0_noLeads, .ref h_p0_percents, .ref h_p0_grades, .ref h_p0_gradeKinds, .ref h_p0_gradePurities, .ref h_p0_gradePrices])), (h_p1, .inl (cI, 5, .inl a_p1)), (h_p2, .inl (cI, 5, .inl a_p2)), (h_p3, .inr (0, [.long u_9.2.1, .ref h_p3_parts, .ref h_p3_rows, .ref h_p3_outs, .ref h_p3_minors])), (h_held, .inl (cI, 25, .inl u_12.2.1)), (h_totals, .inl (cI, 5, .inl u_12.2.2)), (h_p3_parts, .inl (cJ, 5, .inr (.inl u_9.2.2.1))), (h_p3_rows, .inl (cI, 25, .inl u_9.2.2.2.1)), (h_p3_outs, .inl (cI, 25, .inl u_9.2.2.2.2.1)), (h_p0_percents, .inl (cI, 75, .inl a_p0_percents)), (h_p0_yesLeads, .inl (cI, 5, .inl a_p0_yesLeads)), (h_p0_noLeads, .inl (cI, 5, .inl a_p0_noLeads)), (h_p3_minors, .inl (cJ, 32, .inr (.inl u_9.2.2.2.2.2)))]) X hE hP hD hS hA (kX1_split l D cB cI cJ cZ rz n H.size h_t h_p3 h_p3_parts h_held h_totals h_p3_rows h_p3_outs h_p3_minors u_9.2.1 u_9.2.2.1 a_held a_totals x5 (a_p2 (x5).toNatClampNeg) hn_11) w_3_28 w_3_30 ws_37 w_1_6 w_3_31 cb_X1_split rfl rfl ⟨Nat.le_of_ble_eq_true rfl, Nat.le_of_ble_eq_true rfl⟩ rfl hl.1 rfl (Nat.le_of_ble_eq_true rfl) dX1_sort_50 ⟨Nat.le_of_ble_eq_true rfl, Nat.le_of_ble_eq_true rfl⟩ (c2 := 0) (s2 := 0) rfl rfl (k0 := 0) rfl rfl [0, 4, 7, 5, 6] [1, 2, 3, 8, 9, 10, 11, 12, 13] [9, 0, 1, 2, 10, 12, 13, 11, 3, 4, 5, 6, 7, 8] rfl rfl (by decide) (by decide) (by decide) (by decide) (fun _ => rfl) (fun u_12 H locs hG hP hD hS => ?_)
        replace hF := bdQ hG hF
        exact L53 k19 ih19 u_9.2.1 u_12.2.1 u_12.2.2 u_9.2.2.1 u_9.2.2.2.1 u_9.2.2.2.2.1 u_9.2.2.2.2.2 x5 H locs ls hF hP hD hS (lv_sub hl [0, 1, 2, 3, 4, 5] rfl)
  have Lc19 : ∀ (j : Nat), ∀ (v_p3_wholeOfAll : Int64) (a_held : Nat → Int32) (a_totals : Nat → Int32) (a_p3_parts : Nat → Int64) (a_p3_rows : Nat → Int32) (a_p3_outs : Nat → Int32) (a_p3_minors : Nat → Int64) (x5 : Int32) (H : Heap) (locs : List Loc) (ls : Array Slot), FX1_sort_19L n v_p0_units a_p1 a_p2 a_p0_percents a_p0_yesLeads a_p0_noLeads j v_p3_wholeOfAll a_held a_totals a_p3_parts a_p3_rows a_p3_outs a_p3_minors x5 = O → va_P D classes [(h_t, .inr (1, [.ref h_held, .ref h_totals])), (h_p0, .inr (2, [.int v_p0_units, .ref h_p0_settings, .ref h_p0_yesLeads, .ref h_p0_noLeads, .ref h_p0_percents, .ref h_p0_grades, .ref h_p0_gradeKinds, .ref h_p0_gradePurities, .ref h_p0_gradePrices])), (h_p1, .inl (cI, 5, .inl a_p1)), (h_p2, .inl (cI, 5, .inl a_p2)), (h_p3, .inr (0, [.long v_p3_wholeOfAll, .ref h_p3_parts, .ref h_p3_rows, .ref h_p3_outs, .ref h_p3_minors])), (h_held, .inl (cI, 25, .inl a_held)), (h_totals, .inl (cI, 5, .inl a_totals)), (h_p3_parts, .inl (cJ, 5, .inr (.inl a_p3_parts))), (h_p3_rows, .inl (cI, 25, .inl a_p3_rows)), (h_p3_outs, .inl (cI, 25, .inl a_p3_outs)), (h_p0_percents, .inl (cI, 75, .inl a_p0_percents)), (h_p0_yesLeads, .inl (cI, 5, .inl a_p0_yesLeads)), (h_p0_noLeads, .inl (cI, 5, .inl a_p0_noLeads)), (h_p3_minors, .inl (cJ, 32, .inr (.inl a_p3_minors)))] H → va_D A [(h_t, .inr (1, [.ref h_held, .ref h_totals])), (h_p0, .inr (2, [.int v_p0_units, .ref h_p0_settings, .ref h_p0_yesLeads, .ref h_p0_noLeads, .ref h_p0_percents, .ref h_p0_grades, .ref h_p0_gradeKinds, .ref h_p0_gradePurities, .ref h_p0_gradePrices])), (h_p1, .inl (cI, 5, .inl a_p1)), (h_p2, .inl (cI, 5, .inl a_p2)), (h_p3, .inr (0, [.long v_p3_wholeOfAll, .ref h_p3_parts, .ref h_p3_rows, .ref h_p3_outs, .ref h_p3_minors])), (h_held, .inl (cI, 25, .inl a_held)), (h_totals, .inl (cI, 5, .inl a_totals)), (h_p3_parts, .inl (cJ, 5, .inr (.inl a_p3_parts))), (h_p3_rows, .inl (cI, 25, .inl a_p3_rows)), (h_p3_outs, .inl (cI, 25, .inl a_p3_outs)), (h_p0_percents, .inl (cI, 75, .inl a_p0_percents)), (h_p0_yesLeads, .inl (cI, 5, .inl a_p0_yesLeads)), (h_p0_noLeads, .inl (cI, 5, .inl a_p0_noLeads)), (h_p3_minors, .inl (cJ, 32, .inr (.inl a_p3_minors)))] → va_S A s.heap H locs → lv_has ls 6 [(0, .ref h_t), (1, .ref h_p0), (2, .ref h_p1), (3, .ref h_p2), (4, .ref h_p3), (5, .int x5)] → W p l e rmX1_sort s m ([.ref h_t, .ref h_p0, .ref h_p1, .ref h_p2, .ref h_p3] : List Value).toArray below meth c H locs 0 0 Q (F0 m 19 ls []) := by
    intro j
    induction j with
    | zero => intro _ _ _ _ _ _ _ _ H locs ls hF; exact absurd hF.symm hN
    | succ j ih => exact L19 (FX1_sort_19L n v_p0_units a_p1 a_p2 a_p0_percents a_p0_yesLeads a_p0_noLeads j) ih
  unfold FX1_sort at hF
  obtain ⟨H, hH⟩ : ∃ H, H = s.heap := ⟨_, rfl⟩
  obtain ⟨locs, hlo⟩ : ∃ locs : List Loc, locs = [] := ⟨_, rfl⟩
  have hS : va_S A s.heap H locs := by rw [hH, hlo]; exact hS
  rw [← hH] at hP
  have goal : W p l e rmX1_sort s m ([.ref h_t, .ref h_p0, .ref h_p1, .ref h_p2, .ref h_p3] : List Value).toArray below meth c H locs 0 0 Q (F0 m 0 ls []) := by
    refine lv_aload_n hx hb dX1_sort_0 rfl (lv_at hl 0 rfl) ?_
    refine va_get (D := D) (ci := 1) (C := RX1) (T := TX1) (N := 2) hx hb ha inAX1 hown hK hP 0 rfl rfl 0 (by decide) (ha _ w_1_194) (fun _ h9 => h9) rfl dX1_sort_1 ?_
    refine lv_iconst (v := 0) hx hb dX1_sort_4 (by decide) ?_
    have hn_1 := bdN hN hF
    refine callSV (As := [.ref h_held, .int (0 : Int32)]) (rest := []) (wr := [(h_t, .inr (1, [.ref h_held, .ref h_totals])), (h_p0, .inr (2, [.int v_p0_units, .ref h_p0_settings, .ref h_p0_yesLeads, .ref h_p0_noLeads, .ref h_p0_percents, .ref h_p0_grades, .ref h_p0_gradeKinds, .ref h_p0_gradePurities, .ref h_p0_gradePrices])), (h_p1, .inl (cI, 5, .inl a_p1)), (h_p2, .inl (cI, 5, .inl a_p2)), (h_p3, .inr (0, [.long v_p3_wholeOfAll, .ref h_p3_parts, .ref h_p3_rows, .ref h_p3_outs, .ref h_p3_minors])), (h_totals, .inl (cI, 5, .inl a_totals)), (h_p3_parts, .inl (cJ, 5, .inr (.inl a_p3_parts))), (h_p3_rows, .inl (cI, 25, .inl a_p3_rows)), (h_p3_outs, .inl (cI, 25, .inl a_p3_outs)), (h_p0_percents, .inl (cI, 75, .inl a_p0_percents)), (h_p0_yesLeads, .inl (cI, 5, .inl a_p0_yesLeads)), (h_p0_noLeads, .inl (cI, 5, .inl a_p0_noLeads)), (h_p3_minors, .inl (cJ, 32, .inr (.inl a_p3_minors)))]) (W2 := fun u_2 => [(h_t, .inr (1, [.ref h_held, .ref h_totals])), (h_p0, .inr (2, [.int v_p0_units, .ref h_p0_settings, .ref h_p0_yesLeads, .ref h_p0_noLeads, .ref h_p0_percents, .ref h_p0_grades, .ref h_p0_gradeKinds, .ref h_p0_gradePurities, .ref h_p0_gradePrices])), (h_p1, .inl (cI, 5, .inl a_p1)), (h_p2, .inl (cI, 5, .inl a_p2)), (h_p3, .inr (0, [.long v_p3_wholeOfAll, .ref h_p3_parts, .ref h_p3_rows, .ref h_p3_outs, .ref h_p3_minors])), (h_held, .inl (cI, 25, .inl u_2.2)), (h_totals, .inl (cI, 5, .inl a_totals)), (h_p3_parts, .inl (cJ, 5, .inr (.inl a_p3_parts))), (h_p3_rows, .inl (cI, 25, .inl a_p3_rows)), (h_p3_outs, .inl (cI, 25, .inl a_p3_outs)), (h_p0_percents, .inl (cI, 75, .inl a_p0_percents)), (h_p0_yesLeads, .inl (cI, 5, .inl a_p0_yesLeads)), (h_p0_noLeads, .inl (cI, 5, .inl a_p0_noLeads)), (h_p3_minors, .inl (cJ, 32, .inr (.inl a_p3_minors)))]) X hE hP hD hS hA (kJ7_fill_53178 l D cB cI cJ cZ rz n H.size 25 h_held a_held (0 : Int32) hn_1) w_3_26 w_1_232 w_1_8 w_1_233 cb_J7_fill_53178 rfl rfl ⟨Nat.le_of_ble_eq_true rfl, Nat.le_of_ble_eq_true rfl⟩ rfl hl.1 rfl (Nat.le_of_ble_eq_true rfl) dX1_sort_5 ⟨Nat.le_of_ble_eq_true rfl, Nat.le_of_ble_eq_true rfl⟩ (c2 := 0) (s2 := 0) rfl rfl [5] [0, 1, 2, 3, 4, 6, 7, 8, 9, 10, 11, 12, 13] [0, 1, 2, 3, 4, 13, 5, 6, 7, 8, 9, 10, 11, 12] rfl rfl (by decide) (by decide) (by decide) (by decide) (fun _ => rfl) (fun u_2 H locs hG hP hD hS => ?_)
    replace hF := bdQ hG hF
    refine lv_aload_n hx hb dX1_sort_8 rfl (lv_at hl 0 rfl) ?_
    refine va_get (D := D) (ci := 1) (C := RX1) (T := TX1) (N := 2) hx hb ha inAX1 hown hK hP 0 rfl rfl 1 (by decide) (ha _ w_1_196) (fun _ h9 => h9) rfl dX1_sort_9 ?_
    refine lv_iconst (v := 0) hx hb dX1_sort_12 (by decide) ?_
    have hn_3 := bdN hN hF
    refine callSV (As := [.ref h_totals, .int (0 : Int32)]) (rest := []) (wr := [(h_t, .inr (1, [.ref h_held, .ref h_totals])), (h_p0, .inr (2, [.int v_p0_units, .ref h_p0_settings, .ref h_p0_yesLeads, .ref h_p0_noLeads, .ref h_p0_percents, .ref h_p0_grades, .ref h_p0_gradeKinds, .ref h_p0_gradePurities, .ref h_p0_gradePrices])), (h_p1, .inl (cI, 5, .inl a_p1)), (h_p2, .inl (cI, 5, .inl a_p2)), (h_p3, .inr (0, [.long v_p3_wholeOfAll, .ref h_p3_parts, .ref h_p3_rows, .ref h_p3_outs, .ref h_p3_minors])), (h_held, .inl (cI, 25, .inl u_2.2)), (h_p3_parts, .inl (cJ, 5, .inr (.inl a_p3_parts))), (h_p3_rows, .inl (cI, 25, .inl a_p3_rows)), (h_p3_outs, .inl (cI, 25, .inl a_p3_outs)), (h_p0_percents, .inl (cI, 75, .inl a_p0_percents)), (h_p0_yesLeads, .inl (cI, 5, .inl a_p0_yesLeads)), (h_p0_noLeads, .inl (cI, 5, .inl a_p0_noLeads)), (h_p3_minors, .inl (cJ, 32, .inr (.inl a_p3_minors)))]) (W2 := fun u_4 => [(h_t, .inr (1, [.ref h_held, .ref h_totals])), (h_p0, .inr (2, [.int v_p0_units, .ref h_p0_settings, .ref h_p0_yesLeads, .ref h_p0_noLeads, .ref h_p0_percents, .ref h_p0_grades, .ref h_p0_gradeKinds, .ref h_p0_gradePurities, .ref h_p0_gradePrices])), (h_p1, .inl (cI, 5, .inl a_p1)), (h_p2, .inl (cI, 5, .inl a_p2)), (h_p3, .inr (0, [.long v_p3_wholeOfAll, .ref h_p3_parts, .ref h_p3_rows, .ref h_p3_outs, .ref h_p3_minors])), (h_held, .inl (cI, 25, .inl u_2.2)), (h_totals, .inl (cI, 5, .inl u_4.2)), (h_p3_parts, .inl (cJ, 5, .inr (.inl a_p3_parts))), (h_p3_rows, .inl (cI, 25, .inl a_p3_rows)), (h_p3_outs, .inl (cI, 25, .inl a_p3_outs)), (h_p0_percents, .inl (cI, 75, .inl a_p0_percents)), (h_p0_yesLeads, .inl (cI, 5, .inl a_p0_yesLeads)), (h_p0_noLeads, .inl (cI, 5, .inl a_p0_noLeads)), (h_p3_minors, .inl (cJ, 32, .inr (.inl a_p3_minors)))]) X hE hP hD hS hA (kJ7_fill_53178 l D cB cI cJ cZ rz n H.size 5 h_totals a_totals (0 : Int32) hn_3) w_3_26 w_1_232 w_1_8 w_1_233 cb_J7_fill_53178 rfl rfl ⟨Nat.le_of_ble_eq_true rfl, Nat.le_of_ble_eq_true rfl⟩ rfl hl.1 rfl (Nat.le_of_ble_eq_true rfl) dX1_sort_13 ⟨Nat.le_of_ble_eq_true rfl, Nat.le_of_ble_eq_true rfl⟩ (c2 := 0) (s2 := 0) rfl rfl [6] [0, 1, 2, 3, 4, 5, 7, 8, 9, 10, 11, 12, 13] [0, 1, 2, 3, 4, 5, 13, 6, 7, 8, 9, 10, 11, 12] rfl rfl (by decide) (by decide) (by decide) (by decide) (fun _ => rfl) (fun u_4 H locs hG hP hD hS => ?_)
    replace hF := bdQ hG hF
    refine lv_iconst (v := 0) hx hb dX1_sort_16 (by decide) ?_
    refine lv_istore (lv' := [(5, .int (0 : Int32)), (0, .ref h_t), (1, .ref h_p0), (2, .ref h_p1), (3, .ref h_p2), (4, .ref h_p3)]) hx hb dX1_sort_17 hl (by decide) rfl (fun ls hl => ?_)
    exact Lc19 n v_p3_wholeOfAll u_2.2 u_4.2 a_p3_parts a_p3_rows a_p3_outs a_p3_minors (0 : Int32) H locs ls hF hP hD hS (lv_sub hl [1, 2, 3, 4, 5, 0] rfl)
  rw [hH, hlo] at goal
  exact goal
theorem dX1_purityOf_0 : decode cX1_purityOf 0 = .ok (.aload_n 0, 1) := by decide +kernel
theorem dX1_purityOf_1 : decode cX1_purityOf 1 = .ok (.getfield 15, 3) := by decide +kernel
theorem dX1_purityOf_4 : decode cX1_purityOf 4 = .ok (.iload_n 2, 1) := by decide +kernel
theorem dX1_purityOf_5 : decode cX1_purityOf 5 = .ok (.iaload, 1) := by decide +kernel
theorem dX1_purityOf_6 : decode cX1_purityOf 6 = .ok (.iconst 1, 1) := by decide +kernel
theorem dX1_purityOf_7 : decode cX1_purityOf 7 = .ok (.if_icmp .lt 13, 3) := by decide +kernel
theorem dX1_purityOf_10 : decode cX1_purityOf 10 = .ok (.aload_n 1, 1) := by decide +kernel
theorem dX1_purityOf_11 : decode cX1_purityOf 11 = .ok (.getfield 46, 3) := by decide +kernel
theorem dX1_purityOf_14 : decode cX1_purityOf 14 = .ok (.iload_n 2, 1) := by decide +kernel
theorem dX1_purityOf_15 : decode cX1_purityOf 15 = .ok (.iaload, 1) := by decide +kernel
theorem dX1_purityOf_16 : decode cX1_purityOf 16 = .ok (.iconst 1, 1) := by decide +kernel
theorem dX1_purityOf_17 : decode cX1_purityOf 17 = .ok (.if_icmp .ge 5, 3) := by decide +kernel
theorem dX1_purityOf_20 : decode cX1_purityOf 20 = .ok (.iconst 0, 1) := by decide +kernel
theorem dX1_purityOf_21 : decode cX1_purityOf 21 = .ok (.ireturn, 1) := by decide +kernel
theorem dX1_purityOf_22 : decode cX1_purityOf 22 = .ok (.aload_n 0, 1) := by decide +kernel
theorem dX1_purityOf_23 : decode cX1_purityOf 23 = .ok (.getfield 9, 3) := by decide +kernel
theorem dX1_purityOf_26 : decode cX1_purityOf 26 = .ok (.iload_n 2, 1) := by decide +kernel
theorem dX1_purityOf_27 : decode cX1_purityOf 27 = .ok (.iconst 5, 1) := by decide +kernel
theorem dX1_purityOf_28 : decode cX1_purityOf 28 = .ok (.imul, 1) := by decide +kernel
theorem dX1_purityOf_29 : decode cX1_purityOf 29 = .ok (.aload_n 1, 1) := by decide +kernel
theorem dX1_purityOf_30 : decode cX1_purityOf 30 = .ok (.getfield 51, 3) := by decide +kernel
theorem dX1_purityOf_33 : decode cX1_purityOf 33 = .ok (.iload_n 2, 1) := by decide +kernel
theorem dX1_purityOf_34 : decode cX1_purityOf 34 = .ok (.iaload, 1) := by decide +kernel
theorem dX1_purityOf_35 : decode cX1_purityOf 35 = .ok (.iadd, 1) := by decide +kernel
theorem dX1_purityOf_36 : decode cX1_purityOf 36 = .ok (.iaload, 1) := by decide +kernel
theorem dX1_purityOf_37 : decode cX1_purityOf 37 = .ok (.i2l, 1) := by decide +kernel
theorem dX1_purityOf_38 : decode cX1_purityOf 38 = .ok (.lstore_n 3, 1) := by decide +kernel
theorem dX1_purityOf_39 : decode cX1_purityOf 39 = .ok (.lload_n 3, 1) := by decide +kernel
theorem dX1_purityOf_40 : decode cX1_purityOf 40 = .ok (.ldc2_w 54, 3) := by decide +kernel
theorem dX1_purityOf_43 : decode cX1_purityOf 43 = .ok (.lmul, 1) := by decide +kernel
theorem dX1_purityOf_44 : decode cX1_purityOf 44 = .ok (.aload_n 0, 1) := by decide +kernel
theorem dX1_purityOf_45 : decode cX1_purityOf 45 = .ok (.getfield 15, 3) := by decide +kernel
theorem dX1_purityOf_48 : decode cX1_purityOf 48 = .ok (.iload_n 2, 1) := by decide +kernel
theorem dX1_purityOf_49 : decode cX1_purityOf 49 = .ok (.iaload, 1) := by decide +kernel
theorem dX1_purityOf_50 : decode cX1_purityOf 50 = .ok (.i2l, 1) := by decide +kernel
theorem dX1_purityOf_51 : decode cX1_purityOf 51 = .ok (.ldiv, 1) := by decide +kernel
theorem dX1_purityOf_52 : decode cX1_purityOf 52 = .ok (.l2i, 1) := by decide +kernel
theorem dX1_purityOf_53 : decode cX1_purityOf 53 = .ok (.ireturn, 1) := by decide +kernel
abbrev rmX1_purityOf : Room := { frames := 0, cells := 0, slots := 0, locals := 0 }
theorem cb_X1_purityOf : CBn yX1_purityOf 2 := ⟨by decide +kernel, by decide +kernel, by decide +kernel⟩
def FX1_purityOf (n : Nat) (a_totals : Nat → Int32) (a_p0_grades : Nat → Int32) (a_held : Nat → Int32) (a_p0_gradeKinds : Nat → Int32) (z2 : Int32) : Option (Int32 × Unit) := if ¬ (z2 < 0 ∨ 5 ≤ (z2).toNatClampNeg) then (if (a_totals (z2).toNatClampNeg) < (1 : Int32) then (some ((0 : Int32), ())) else (if ¬ (z2 < 0 ∨ 4 ≤ (z2).toNatClampNeg) then (if (1 : Int32) ≤ (a_p0_grades (z2).toNatClampNeg) then (if ¬ (z2 < 0 ∨ 4 ≤ (z2).toNatClampNeg) then (if ¬ (((z2 * (5 : Int32)) + (a_p0_gradeKinds (z2).toNatClampNeg)) < 0 ∨ 25 ≤ (((z2 * (5 : Int32)) + (a_p0_gradeKinds (z2).toNatClampNeg))).toNatClampNeg) then (lt1 (((a_held (((z2 * (5 : Int32)) + (a_p0_gradeKinds (z2).toNatClampNeg))).toNatClampNeg)).toInt64) (fun x_7 => if ¬ (z2 < 0 ∨ 5 ≤ (z2).toNatClampNeg) then (lt1 (((a_totals (z2).toNatClampNeg)).toInt64) (fun x_9 => if ¬ x_9 = 0 then (some ((((x_7 * (100 : Int64)) / x_9)).toInt32, ())) else none)) else none)) else none) else none) else (some ((0 : Int32), ()))) else none)) else none
set_option maxHeartbeats 4000000 in
set_option maxRecDepth 100000 in
theorem kX1_purityOf (l : Launch) (D : va_G) (cB cI cJ cZ : ClassId) (rz n sz : Nat) (h_t : Nat) (h_p0 : Nat) (h_totals : Nat) (h_p0_grades : Nat) (h_held : Nat) (h_p0_gradeKinds : Nat) (h_p0_settings : Nat) (h_p0_yesLeads : Nat) (h_p0_noLeads : Nat) (h_p0_percents : Nat) (h_p0_gradePurities : Nat) (h_p0_gradePrices : Nat) (v_p0_units : Int32) (a_totals : Nat → Int32) (a_p0_grades : Nat → Int32) (a_held : Nat → Int32) (a_p0_gradeKinds : Nat → Int32) (z2 : Int32) (hN : FX1_purityOf n a_totals a_p0_grades a_held a_p0_gradeKinds z2 ≠ none) : Met l yX1_purityOf (Cond.code yX1_purityOf cX1_purityOf 5 (some .int) :: AL) rmX1_purityOf (PW D cB cI cJ cZ rz [.ref h_t, .ref h_p0, .int z2] [(h_t, .inr (1, [.ref h_held, .ref h_totals])), (h_p0, .inr (2, [.int v_p0_units, .ref h_p0_settings, .ref h_p0_yesLeads, .ref h_p0_noLeads, .ref h_p0_percents, .ref h_p0_grades, .ref h_p0_gradeKinds, .ref h_p0_gradePurities, .ref h_p0_gradePrices])), (h_totals, .inl (cI, 5, .inl a_totals)), (h_p0_grades, .inl (cI, 4, .inl a_p0_grades)), (h_held, .inl (cI, 25, .inl a_held)), (h_p0_gradeKinds, .inl (cI, 4, .inl a_p0_gradeKinds))] sz) (QI D (FX1_purityOf n a_totals a_p0_grades a_held a_p0_gradeKinds z2) (fun u => [(h_t, .inr (1, [.ref h_held, .ref h_totals])), (h_p0, .inr (2, [.int v_p0_units, .ref h_p0_settings, .ref h_p0_yesLeads, .ref h_p0_noLeads, .ref h_p0_percents, .ref h_p0_grades, .ref h_p0_gradeKinds, .ref h_p0_gradePurities, .ref h_p0_gradePrices])), (h_totals, .inl (cI, 5, .inl a_totals)), (h_p0_grades, .inl (cI, 4, .inl a_p0_grades)), (h_held, .inl (cI, 25, .inl a_held)), (h_p0_gradeKinds, .inl (cI, 4, .inl a_p0_gradeKinds))]) (va_A [(h_t, .inr (1, [.ref h_held, .ref h_totals])), (h_p0, .inr (2, [.int v_p0_units, .ref h_p0_settings, .ref h_p0_yesLeads, .ref h_p0_noLeads, .ref h_p0_percents, .ref h_p0_grades, .ref h_p0_gradeKinds, .ref h_p0_gradePurities, .ref h_p0_gradePrices])), (h_totals, .inl (cI, 5, .inl a_totals)), (h_p0_grades, .inl (cI, 4, .inl a_p0_grades)), (h_held, .inl (cI, 25, .inl a_held)), (h_p0_gradeKinds, .inl (cI, 4, .inl a_p0_gradeKinds))] sz)) 0 0 (va_A [(h_t, .inr (1, [.ref h_held, .ref h_totals])), (h_p0, .inr (2, [.int v_p0_units, .ref h_p0_settings, .ref h_p0_yesLeads, .ref h_p0_noLeads, .ref h_p0_percents, .ref h_p0_grades, .ref h_p0_gradeKinds, .ref h_p0_gradePurities, .ref h_p0_gradePrices])), (h_totals, .inl (cI, 5, .inl a_totals)), (h_p0_grades, .inl (cI, 4, .inl a_p0_grades)), (h_held, .inl (cI, 25, .inl a_held)), (h_p0_gradeKinds, .inl (cI, 4, .inl a_p0_gradeKinds))] sz) := by
  obtain ⟨O, hF⟩ : ∃ O, FX1_purityOf n a_totals a_p0_grades a_held a_p0_gradeKinds z2 = O := ⟨_, rfl⟩
  rw [hF] at hN ⊢
  refine enterI (cc := cX1_purityOf) (nL := 5) (by decide) (Nat.le_of_ble_eq_true rfl) ?_
  intro p e s m below meth c A Q X hA hE hnm hsz hP hD hS hret ls hl
  obtain ⟨hx, hb, hml, hown0, ha⟩ := id X
  have hown : s.vm.findClass RX1 = some m.cls := hown0
  have hK := hE.1
  have hl : lv_has ls 5 [(0, .ref h_t), (1, .ref h_p0), (2, .int z2)] := hl
  have hX : CallFix p m c cX1_purityOf 5 s ([.ref h_t, .ref h_p0, .int z2] : List Value).toArray AL RX1 := X
  have X := hX
  unfold FX1_purityOf at hF
  obtain ⟨H, hH⟩ : ∃ H, H = s.heap := ⟨_, rfl⟩
  obtain ⟨locs, hlo⟩ : ∃ locs : List Loc, locs = [] := ⟨_, rfl⟩
  have hS : va_S A s.heap H locs := by rw [hH, hlo]; exact hS
  rw [← hH] at hP
  have goal : W p l e rmX1_purityOf s m ([.ref h_t, .ref h_p0, .int z2] : List Value).toArray below meth c H locs 0 0 Q (F0 m 0 ls []) := by
    refine lv_aload_n hx hb dX1_purityOf_0 rfl (lv_at hl 0 rfl) ?_
    refine va_get (D := D) (ci := 1) (C := RX1) (T := TX1) (N := 2) hx hb ha inAX1 hown hK hP 0 rfl rfl 1 (by decide) (ha _ w_1_196) (fun _ h9 => h9) rfl dX1_purityOf_1 ?_
    refine lv_iload_n hx hb dX1_purityOf_4 rfl (lv_at hl 2 rfl) ?_
    replace hF := ckP hN hF
    obtain ⟨c_1, hF⟩ := hF
    refine ld_i hx hb hK hP 2 rfl c_1 dX1_purityOf_5 ?_
    refine lv_iconst (v := 1) hx hb dX1_purityOf_6 (by decide) ?_
    refine lv_icmp_lt (tgt := 20) hx hb dX1_purityOf_7 (by decide) (fun c_2 => ?_) (fun c_2 => ?_)
    · replace hF := ifT c_2 hF
      refine lv_iconst (v := 0) hx hb dX1_purityOf_20 (by decide) ?_
      exact hret ((0 : Int32), ()) H locs ls _ hF hP hD hS dX1_purityOf_21
    · replace hF := ifF c_2 hF
      refine lv_aload_n hx hb dX1_purityOf_10 rfl (lv_at hl 1 rfl) ?_
      refine va_getN (D := D) (ci := 2) (C := RX2) (T := TX2) (N := 9) hx hb ha inAX2 hown hK hP 1 rfl rfl 5 (by decide) (va_Nw.use rfl (hE.2.1 _ w_1_44)) (fun _ h9 => h9) rfl dX1_purityOf_11 ?_
      refine lv_iload_n hx hb dX1_purityOf_14 rfl (lv_at hl 2 rfl) ?_
      replace hF := ckP hN hF
      obtain ⟨c_3, hF⟩ := hF
      refine ld_i hx hb hK hP 3 rfl c_3 dX1_purityOf_15 ?_
      refine lv_iconst (v := 1) hx hb dX1_purityOf_16 (by decide) ?_
      refine lv_icmp_ge (tgt := 22) hx hb dX1_purityOf_17 (by decide) (fun c_4 => ?_) (fun c_4 => ?_)
      · replace hF := ifT c_4 hF
        refine lv_aload_n hx hb dX1_purityOf_22 rfl (lv_at hl 0 rfl) ?_
        refine va_get (D := D) (ci := 1) (C := RX1) (T := TX1) (N := 2) hx hb ha inAX1 hown hK hP 0 rfl rfl 0 (by decide) (ha _ w_1_194) (fun _ h9 => h9) rfl dX1_purityOf_23 ?_
        refine lv_iload_n hx hb dX1_purityOf_26 rfl (lv_at hl 2 rfl) ?_
        refine lv_iconst (v := 5) hx hb dX1_purityOf_27 (by decide) ?_
        refine lv_imul hx hb dX1_purityOf_28 ?_
        refine lv_aload_n hx hb dX1_purityOf_29 rfl (lv_at hl 1 rfl) ?_
        refine va_getN (D := D) (ci := 2) (C := RX2) (T := TX2) (N := 9) hx hb ha inAX2 hown hK hP 1 rfl rfl 6 (by decide) (va_Nw.use rfl (hE.2.1 _ w_1_48)) (fun _ h9 => h9) rfl dX1_purityOf_30 ?_
        refine lv_iload_n hx hb dX1_purityOf_33 rfl (lv_at hl 2 rfl) ?_
        replace hF := ckP hN hF
        obtain ⟨c_5, hF⟩ := hF
        refine ld_i hx hb hK hP 5 rfl c_5 dX1_purityOf_34 ?_
        refine lv_iadd hx hb dX1_purityOf_35 ?_
        replace hF := ckP hN hF
        obtain ⟨c_6, hF⟩ := hF
        refine ld_i hx hb hK hP 4 rfl c_6 dX1_purityOf_36 ?_
        refine lv_i2l hx hb dX1_purityOf_37 rfl ?_
        refine lv_topl (fun x_7 ex_7 => ?_)
        replace hF := ltP ex_7 hF
        refine lv_lstore_n (lv' := [(3, .long x_7), (0, .ref h_t), (1, .ref h_p0), (2, .int z2)]) hx hb dX1_purityOf_38 rfl hl (by decide) rfl (fun ls hl => ?_)
        refine lv_lload_n hx hb dX1_purityOf_39 rfl (lv_at hl 0 rfl) ?_
        refine lv_ldc2 hx hb hown (ha _ w_3_47) dX1_purityOf_40 ?_
        refine lv_lmul hx hb dX1_purityOf_43 ?_
        refine lv_aload_n hx hb dX1_purityOf_44 rfl (lv_at hl 1 rfl) ?_
        refine va_get (D := D) (ci := 1) (C := RX1) (T := TX1) (N := 2) hx hb ha inAX1 hown hK hP 0 rfl rfl 1 (by decide) (ha _ w_1_196) (fun _ h9 => h9) rfl dX1_purityOf_45 ?_
        refine lv_iload_n hx hb dX1_purityOf_48 rfl (lv_at hl 3 rfl) ?_
        replace hF := ckP hN hF
        obtain ⟨c_8, hF⟩ := hF
        refine ld_i hx hb hK hP 2 rfl c_8 dX1_purityOf_49 ?_
        refine lv_i2l hx hb dX1_purityOf_50 rfl ?_
        refine lv_topl (fun x_9 ex_9 => ?_)
        replace hF := ltP ex_9 hF
        replace hF := ckP hN hF
        obtain ⟨c_10, hF⟩ := hF
        refine lv_ldiv hx hb dX1_purityOf_51 c_10 ?_
        refine lv_l2i hx hb dX1_purityOf_52 rfl ?_
        exact hret ((((x_7 * (100 : Int64)) / x_9)).toInt32, ()) H locs ls _ hF hP hD hS dX1_purityOf_53
      · replace hF := ifF c_4 hF
        refine lv_iconst (v := 0) hx hb dX1_purityOf_20 (by decide) ?_
        exact hret ((0 : Int32), ()) H locs ls _ hF hP hD hS dX1_purityOf_21
  rw [hH, hlo] at goal
  exact goal
theorem dX1_earningsOf_0 : decode cX1_earningsOf 0 = .ok (.aload_n 0, 1) := by decide +kernel
theorem dX1_earningsOf_1 : decode cX1_earningsOf 1 = .ok (.aload_n 1, 1) := by decide +kernel
theorem dX1_earningsOf_2 : decode cX1_earningsOf 2 = .ok (.iload_n 2, 1) := by decide +kernel
theorem dX1_earningsOf_3 : decode cX1_earningsOf 3 = .ok (.invokevirtual 56, 3) := by decide +kernel
theorem dX1_earningsOf_6 : decode cX1_earningsOf 6 = .ok (.istore_n 3, 1) := by decide +kernel
theorem dX1_earningsOf_7 : decode cX1_earningsOf 7 = .ok (.iconst (-1), 1) := by decide +kernel
theorem dX1_earningsOf_8 : decode cX1_earningsOf 8 = .ok (.istore 4, 2) := by decide +kernel
theorem dX1_earningsOf_10 : decode cX1_earningsOf 10 = .ok (.lconst 0, 1) := by decide +kernel
theorem dX1_earningsOf_11 : decode cX1_earningsOf 11 = .ok (.lstore 5, 2) := by decide +kernel
theorem dX1_earningsOf_13 : decode cX1_earningsOf 13 = .ok (.iconst 0, 1) := by decide +kernel
theorem dX1_earningsOf_14 : decode cX1_earningsOf 14 = .ok (.istore 7, 2) := by decide +kernel
theorem dX1_earningsOf_16 : decode cX1_earningsOf 16 = .ok (.iload 7, 2) := by decide +kernel
theorem dX1_earningsOf_18 : decode cX1_earningsOf 18 = .ok (.aload_n 1, 1) := by decide +kernel
theorem dX1_earningsOf_19 : decode cX1_earningsOf 19 = .ok (.getfield 46, 3) := by decide +kernel
theorem dX1_earningsOf_22 : decode cX1_earningsOf 22 = .ok (.iload_n 2, 1) := by decide +kernel
theorem dX1_earningsOf_23 : decode cX1_earningsOf 23 = .ok (.iaload, 1) := by decide +kernel
theorem dX1_earningsOf_24 : decode cX1_earningsOf 24 = .ok (.if_icmp .ge 53, 3) := by decide +kernel
theorem dX1_earningsOf_27 : decode cX1_earningsOf 27 = .ok (.aload_n 1, 1) := by decide +kernel
theorem dX1_earningsOf_28 : decode cX1_earningsOf 28 = .ok (.getfield 60, 3) := by decide +kernel
theorem dX1_earningsOf_31 : decode cX1_earningsOf 31 = .ok (.iload_n 2, 1) := by decide +kernel
theorem dX1_earningsOf_32 : decode cX1_earningsOf 32 = .ok (.iconst 4, 1) := by decide +kernel
theorem dX1_earningsOf_33 : decode cX1_earningsOf 33 = .ok (.imul, 1) := by decide +kernel
theorem dX1_earningsOf_34 : decode cX1_earningsOf 34 = .ok (.iload 7, 2) := by decide +kernel
theorem dX1_earningsOf_36 : decode cX1_earningsOf 36 = .ok (.iadd, 1) := by decide +kernel
theorem dX1_earningsOf_37 : decode cX1_earningsOf 37 = .ok (.iaload, 1) := by decide +kernel
theorem dX1_earningsOf_38 : decode cX1_earningsOf 38 = .ok (.istore 8, 2) := by decide +kernel
theorem dX1_earningsOf_40 : decode cX1_earningsOf 40 = .ok (.iload 8, 2) := by decide +kernel
theorem dX1_earningsOf_42 : decode cX1_earningsOf 42 = .ok (.iload_n 3, 1) := by decide +kernel
theorem dX1_earningsOf_43 : decode cX1_earningsOf 43 = .ok (.if_icmp .gt 28, 3) := by decide +kernel
theorem dX1_earningsOf_46 : decode cX1_earningsOf 46 = .ok (.iload 8, 2) := by decide +kernel
theorem dX1_earningsOf_48 : decode cX1_earningsOf 48 = .ok (.iload 4, 2) := by decide +kernel
theorem dX1_earningsOf_50 : decode cX1_earningsOf 50 = .ok (.if_icmp .le 21, 3) := by decide +kernel
theorem dX1_earningsOf_53 : decode cX1_earningsOf 53 = .ok (.iload 8, 2) := by decide +kernel
theorem dX1_earningsOf_55 : decode cX1_earningsOf 55 = .ok (.istore 4, 2) := by decide +kernel
theorem dX1_earningsOf_57 : decode cX1_earningsOf 57 = .ok (.aload_n 1, 1) := by decide +kernel
theorem dX1_earningsOf_58 : decode cX1_earningsOf 58 = .ok (.getfield 63, 3) := by decide +kernel
theorem dX1_earningsOf_61 : decode cX1_earningsOf 61 = .ok (.iload_n 2, 1) := by decide +kernel
theorem dX1_earningsOf_62 : decode cX1_earningsOf 62 = .ok (.iconst 4, 1) := by decide +kernel
theorem dX1_earningsOf_63 : decode cX1_earningsOf 63 = .ok (.imul, 1) := by decide +kernel
theorem dX1_earningsOf_64 : decode cX1_earningsOf 64 = .ok (.iload 7, 2) := by decide +kernel
theorem dX1_earningsOf_66 : decode cX1_earningsOf 66 = .ok (.iadd, 1) := by decide +kernel
theorem dX1_earningsOf_67 : decode cX1_earningsOf 67 = .ok (.iaload, 1) := by decide +kernel
theorem dX1_earningsOf_68 : decode cX1_earningsOf 68 = .ok (.i2l, 1) := by decide +kernel
theorem dX1_earningsOf_69 : decode cX1_earningsOf 69 = .ok (.lstore 5, 2) := by decide +kernel
theorem dX1_earningsOf_71 : decode cX1_earningsOf 71 = .ok (.iinc 7 1, 3) := by decide +kernel
theorem dX1_earningsOf_74 : decode cX1_earningsOf 74 = .ok (.goto (-58), 3) := by decide +kernel
theorem dX1_earningsOf_77 : decode cX1_earningsOf 77 = .ok (.aload_n 0, 1) := by decide +kernel
theorem dX1_earningsOf_78 : decode cX1_earningsOf 78 = .ok (.getfield 15, 3) := by decide +kernel
theorem dX1_earningsOf_81 : decode cX1_earningsOf 81 = .ok (.iload_n 2, 1) := by decide +kernel
theorem dX1_earningsOf_82 : decode cX1_earningsOf 82 = .ok (.iaload, 1) := by decide +kernel
theorem dX1_earningsOf_83 : decode cX1_earningsOf 83 = .ok (.i2l, 1) := by decide +kernel
theorem dX1_earningsOf_84 : decode cX1_earningsOf 84 = .ok (.lload 5, 2) := by decide +kernel
theorem dX1_earningsOf_86 : decode cX1_earningsOf 86 = .ok (.lmul, 1) := by decide +kernel
theorem dX1_earningsOf_87 : decode cX1_earningsOf 87 = .ok (.ldc2_w 66, 3) := by decide +kernel
theorem dX1_earningsOf_90 : decode cX1_earningsOf 90 = .ok (.ldiv, 1) := by decide +kernel
theorem dX1_earningsOf_91 : decode cX1_earningsOf 91 = .ok (.l2i, 1) := by decide +kernel
theorem dX1_earningsOf_92 : decode cX1_earningsOf 92 = .ok (.ireturn, 1) := by decide +kernel
abbrev rmX1_earningsOf : Room := { frames := 1, cells := 0, slots := 0, locals := 24 }
theorem cb_X1_earningsOf : CBn yX1_earningsOf 2 := ⟨by decide +kernel, by decide +kernel, by decide +kernel⟩
def FX1_earningsOf_71 (n : Nat) (a_totals : Nat → Int32) (a_p0_grades : Nat → Int32) (a_held : Nat → Int32) (a_p0_gradeKinds : Nat → Int32) (a_p0_gradePurities : Nat → Int32) (a_p0_gradePrices : Nat → Int32) (z2 : Int32) (k16 : Int32 → Int32 → Int32 → Int64 → Int32 → Option (Int32 × Unit)) (x2 : Int32) (x3 : Int32) (x4 : Int32) (x5 : Int64) (x7 : Int32) : Option (Int32 × Unit) := lt1 (x7 + (1 : Int32)) (fun x_13 => k16 x2 x3 x4 x5 x_13)
def FX1_earningsOf_16 (n : Nat) (a_totals : Nat → Int32) (a_p0_grades : Nat → Int32) (a_held : Nat → Int32) (a_p0_gradeKinds : Nat → Int32) (a_p0_gradePurities : Nat → Int32) (a_p0_gradePrices : Nat → Int32) (z2 : Int32) (k16 : Int32 → Int32 → Int32 → Int64 → Int32 → Option (Int32 × Unit)) (x2 : Int32) (x3 : Int32) (x4 : Int32) (x5 : Int64) (x7 : Int32) : Option (Int32 × Unit) := if ¬ (x2 < 0 ∨ 4 ≤ (x2).toNatClampNeg) then (if (a_p0_grades (x2).toNatClampNeg) ≤ x7 then (if ¬ (x2 < 0 ∨ 5 ≤ (x2).toNatClampNeg) then (if ¬ (1000 : Int64) = 0 then (some ((((((a_totals (x2).toNatClampNeg)).toInt64 * x5) / (1000 : Int64))).toInt32, ())) else none) else none) else (if ¬ (((x2 * (4 : Int32)) + x7) < 0 ∨ 16 ≤ (((x2 * (4 : Int32)) + x7)).toNatClampNeg) then (lt1 (a_p0_gradePurities (((x2 * (4 : Int32)) + x7)).toNatClampNeg) (fun x_8 => if x3 < x_8 then (FX1_earningsOf_71 n a_totals a_p0_grades a_held a_p0_gradeKinds a_p0_gradePurities a_p0_gradePrices z2 k16 x2 x3 x4 x5 x7) else (if x_8 ≤ x4 then (FX1_earningsOf_71 n a_totals a_p0_grades a_held a_p0_gradeKinds a_p0_gradePurities a_p0_gradePrices z2 k16 x2 x3 x4 x5 x7) else (if ¬ (((x2 * (4 : Int32)) + x7) < 0 ∨ 16 ≤ (((x2 * (4 : Int32)) + x7)).toNatClampNeg) then (lt1 (((a_p0_gradePrices (((x2 * (4 : Int32)) + x7)).toNatClampNeg)).toInt64) (fun x_12 => FX1_earningsOf_71 n a_totals a_p0_grades a_held a_p0_gradeKinds a_p0_gradePurities a_p0_gradePrices z2 k16 x2 x3 x_8 x_12 x7)) else none)))) else none)) else none
def FX1_earningsOf_16L (n : Nat) (a_totals : Nat → Int32) (a_p0_grades : Nat → Int32) (a_held : Nat → Int32) (a_p0_gradeKinds : Nat → Int32) (a_p0_gradePurities : Nat → Int32) (a_p0_gradePrices : Nat → Int32) (z2 : Int32) (j : Nat) : Int32 → Int32 → Int32 → Int64 → Int32 → Option (Int32 × Unit) := lpR (FX1_earningsOf_16 n a_totals a_p0_grades a_held a_p0_gradeKinds a_p0_gradePurities a_p0_gradePrices z2) (fun _ _ _ _ _ => none) j
def FX1_earningsOf (n : Nat) (a_totals : Nat → Int32) (a_p0_grades : Nat → Int32) (a_held : Nat → Int32) (a_p0_gradeKinds : Nat → Int32) (a_p0_gradePurities : Nat → Int32) (a_p0_gradePrices : Nat → Int32) (z2 : Int32) : Option (Int32 × Unit) := bd (FX1_purityOf n a_totals a_p0_grades a_held a_p0_gradeKinds z2) (fun u_2 => FX1_earningsOf_16L n a_totals a_p0_grades a_held a_p0_gradeKinds a_p0_gradePurities a_p0_gradePrices z2 n z2 u_2.1 (-1 : Int32) (0 : Int64) (0 : Int32))
set_option maxHeartbeats 4000000 in
set_option maxRecDepth 100000 in
theorem kX1_earningsOf (l : Launch) (D : va_G) (cB cI cJ cZ : ClassId) (rz n sz : Nat) (h_t : Nat) (h_p0 : Nat) (h_totals : Nat) (h_p0_grades : Nat) (h_held : Nat) (h_p0_gradeKinds : Nat) (h_p0_gradePurities : Nat) (h_p0_gradePrices : Nat) (h_p0_settings : Nat) (h_p0_yesLeads : Nat) (h_p0_noLeads : Nat) (h_p0_percents : Nat) (v_p0_units : Int32) (a_totals : Nat → Int32) (a_p0_grades : Nat → Int32) (a_held : Nat → Int32) (a_p0_gradeKinds : Nat → Int32) (a_p0_gradePurities : Nat → Int32) (a_p0_gradePrices : Nat → Int32) (z2 : Int32) (hN : FX1_earningsOf n a_totals a_p0_grades a_held a_p0_gradeKinds a_p0_gradePurities a_p0_gradePrices z2 ≠ none) : Met l yX1_earningsOf (Cond.code yX1_earningsOf cX1_earningsOf 9 (some .int) :: AL) rmX1_earningsOf (PW D cB cI cJ cZ rz [.ref h_t, .ref h_p0, .int z2] [(h_t, .inr (1, [.ref h_held, .ref h_totals])), (h_p0, .inr (2, [.int v_p0_units, .ref h_p0_settings, .ref h_p0_yesLeads, .ref h_p0_noLeads, .ref h_p0_percents, .ref h_p0_grades, .ref h_p0_gradeKinds, .ref h_p0_gradePurities, .ref h_p0_gradePrices])), (h_totals, .inl (cI, 5, .inl a_totals)), (h_p0_grades, .inl (cI, 4, .inl a_p0_grades)), (h_held, .inl (cI, 25, .inl a_held)), (h_p0_gradeKinds, .inl (cI, 4, .inl a_p0_gradeKinds)), (h_p0_gradePurities, .inl (cI, 16, .inl a_p0_gradePurities)), (h_p0_gradePrices, .inl (cI, 16, .inl a_p0_gradePrices))] sz) (QI D (FX1_earningsOf n a_totals a_p0_grades a_held a_p0_gradeKinds a_p0_gradePurities a_p0_gradePrices z2) (fun u => [(h_t, .inr (1, [.ref h_held, .ref h_totals])), (h_p0, .inr (2, [.int v_p0_units, .ref h_p0_settings, .ref h_p0_yesLeads, .ref h_p0_noLeads, .ref h_p0_percents, .ref h_p0_grades, .ref h_p0_gradeKinds, .ref h_p0_gradePurities, .ref h_p0_gradePrices])), (h_totals, .inl (cI, 5, .inl a_totals)), (h_p0_grades, .inl (cI, 4, .inl a_p0_grades)), (h_held, .inl (cI, 25, .inl a_held)), (h_p0_gradeKinds, .inl (cI, 4, .inl a_p0_gradeKinds)), (h_p0_gradePurities, .inl (cI, 16, .inl a_p0_gradePurities)), (h_p0_gradePrices, .inl (cI, 16, .inl a_p0_gradePrices))]) (va_A [(h_t, .inr (1, [.ref h_held, .ref h_totals])), (h_p0, .inr (2, [.int v_p0_units, .ref h_p0_settings, .ref h_p0_yesLeads, .ref h_p0_noLeads, .ref h_p0_percents, .ref h_p0_grades, .ref h_p0_gradeKinds, .ref h_p0_gradePurities, .ref h_p0_gradePrices])), (h_totals, .inl (cI, 5, .inl a_totals)), (h_p0_grades, .inl (cI, 4, .inl a_p0_grades)), (h_held, .inl (cI, 25, .inl a_held)), (h_p0_gradeKinds, .inl (cI, 4, .inl a_p0_gradeKinds)), (h_p0_gradePurities, .inl (cI, 16, .inl a_p0_gradePurities)), (h_p0_gradePrices, .inl (cI, 16, .inl a_p0_gradePrices))] sz)) 0 0 (va_A [(h_t, .inr (1, [.ref h_held, .ref h_totals])), (h_p0, .inr (2, [.int v_p0_units, .ref h_p0_settings, .ref h_p0_yesLeads, .ref h_p0_noLeads, .ref h_p0_percents, .ref h_p0_grades, .ref h_p0_gradeKinds, .ref h_p0_gradePurities, .ref h_p0_gradePrices])), (h_totals, .inl (cI, 5, .inl a_totals)), (h_p0_grades, .inl (cI, 4, .inl a_p0_grades)), (h_held, .inl (cI, 25, .inl a_held)), (h_p0_gradeKinds, .inl (cI, 4, .inl a_p0_gradeKinds)), (h_p0_gradePurities, .inl (cI, 16, .inl a_p0_gradePurities)), (h_p0_gradePrices, .inl (cI, 16, .inl a_p0_gradePrices))] sz) := by
  obtain ⟨O, hF⟩ : ∃ O, FX1_earningsOf n a_totals a_p0_grades a_held a_p0_gradeKinds a_p0_gradePurities a_p0_gradePrices z2 = O := ⟨_, rfl⟩
  rw [hF] at hN ⊢
  refine enterI (cc := cX1_earningsOf) (nL := 9) (by decide) (Nat.le_of_ble_eq_true rfl) ?_
  intro p e s m below meth c A Q X hA hE hnm hsz hP hD hS hret ls hl
  obtain ⟨hx, hb, hml, hown0, ha⟩ := id X
  have hown : s.vm.findClass RX1 = some m.cls := hown0
  have hK := hE.1
  have hl : lv_has ls 9 [(0, .ref h_t), (1, .ref h_p0), (2, .int z2)] := hl
  have hX : CallFix p m c cX1_earningsOf 9 s ([.ref h_t, .ref h_p0, .int z2] : List Value).toArray AL RX1 := X
  have X := hX
  have L71 : ∀ (k16 : Int32 → Int32 → Int32 → Int64 → Int32 → Option (Int32 × Unit)) (ih16 : ∀ (x2 : Int32) (x3 : Int32) (x4 : Int32) (x5 : Int64) (x7 : Int32) (H : Heap) (locs : List Loc) (ls : Array Slot), k16 x2 x3 x4 x5 x7 = O → va_P D classes [(h_t, .inr (1, [.ref h_held, .ref h_totals])), (h_p0, .inr (2, [.int v_p0_units, .ref h_p0_settings, .ref h_p0_yesLeads, .ref h_p0_noLeads, .ref h_p0_percents, .ref h_p0_grades, .ref h_p0_gradeKinds, .ref h_p0_gradePurities, .ref h_p0_gradePrices])), (h_totals, .inl (cI, 5, .inl a_totals)), (h_p0_grades, .inl (cI, 4, .inl a_p0_grades)), (h_held, .inl (cI, 25, .inl a_held)), (h_p0_gradeKinds, .inl (cI, 4, .inl a_p0_gradeKinds)), (h_p0_gradePurities, .inl (cI, 16, .inl a_p0_gradePurities)), (h_p0_gradePrices, .inl (cI, 16, .inl a_p0_gradePrices))] H → va_D A [(h_t, .inr (1, [.ref h_held, .ref h_totals])), (h_p0, .inr (2, [.int v_p0_units, .ref h_p0_settings, .ref h_p0_yesLeads, .ref h_p0_noLeads, .ref h_p0_percents, .ref h_p0_grades, .ref h_p0_gradeKinds, .ref h_p0_gradePurities, .ref h_p0_gradePrices])), (h_totals, .inl (cI, 5, .inl a_totals)), (h_p0_grades, .inl (cI, 4, .inl a_p0_grades)), (h_held, .inl (cI, 25, .inl a_held)), (h_p0_gradeKinds, .inl (cI, 4, .inl a_p0_gradeKinds)), (h_p0_gradePurities, .inl (cI, 16, .inl a_p0_gradePurities)), (h_p0_gradePrices, .inl (cI, 16, .inl a_p0_gradePrices))] → va_S A s.heap H locs → lv_has ls 9 [(0, .ref h_t), (1, .ref h_p0), (2, .int x2), (3, .int x3), (4, .int x4), (5, .long x5), (7, .int x7)] → W p l e rmX1_earningsOf s m ([.ref h_t, .ref h_p0, .int z2] : List Value).toArray below meth c H locs 0 0 Q (F0 m 16 ls [])), ∀ (x2 : Int32) (x3 : Int32) (x4 : Int32) (x5 : Int64) (x7 : Int32) (H : Heap) (locs : List Loc) (ls : Array Slot), FX1_earningsOf_71 n a_totals a_p0_grades a_held a_p0_gradeKinds a_p0_gradePurities a_p0_gradePrices z2 k16 x2 x3 x4 x5 x7 = O → va_P D classes [(h_t, .inr (1, [.ref h_held, .ref h_totals])), (h_p0, .inr (2, [.int v_p0_units, .ref h_p0_settings, .ref h_p0_yesLeads, .ref h_p0_noLeads, .ref h_p0_percents, .ref h_p0_grades, .ref h_p0_gradeKinds, .ref h_p0_gradePurities, .ref h_p0_gradePrices])), (h_totals, .inl (cI, 5, .inl a_totals)), (h_p0_grades, .inl (cI, 4, .inl a_p0_grades)), (h_held, .inl (cI, 25, .inl a_held)), (h_p0_gradeKinds, .inl (cI, 4, .inl a_p0_gradeKinds)), (h_p0_gradePurities, .inl (cI, 16, .inl a_p0_gradePurities)), (h_p0_gradePrices, .inl (cI, 16, .inl a_p0_gradePrices))] H → va_D A [(h_t, .inr (1, [.ref h_held, .ref h_totals])), (h_p0, .inr (2, [.int v_p0_units, .ref h_p0_settings, .ref h_p0_yesLeads, .ref h_p0_noLeads, .ref h_p0_percents, .ref h_p0_grades, .ref h_p0_gradeKinds, .ref h_p0_gradePurities, .ref h_p0_gradePrices])), (h_totals, .inl (cI, 5, .inl a_totals)), (h_p0_grades, .inl (cI, 4, .inl a_p0_grades)), (h_held, .inl (cI, 25, .inl a_held)), (h_p0_gradeKinds, .inl (cI, 4, .inl a_p0_gradeKinds)), (h_p0_gradePurities, .inl (cI, 16, .inl a_p0_gradePurities)), (h_p0_gradePrices, .inl (cI, 16, .inl a_p0_gradePrices))] → va_S A s.heap H locs → lv_has ls 9 [(0, .ref h_t), (1, .ref h_p0), (2, .int x2), (3, .int x3), (4, .int x4), (5, .long x5), (7, .int x7)] → W p l e rmX1_earningsOf s m ([.ref h_t, .ref h_p0, .int z2] : List Value).toArray below meth c H locs 0 0 Q (F0 m 71 ls []) := by
    intro k16 ih16 x2 x3 x4 x5 x7 H locs ls hF hP hD hS hl
    unfold FX1_earningsOf_71 at hF
    obtain ⟨x_13, ex_13⟩ : ∃ y : Int32, y = x7 + (1 : Int32) := ⟨_, rfl⟩
    replace hF := ltP ex_13 hF
    refine lv_iinc (v := x_13) (lv' := [(7, .int x_13), (0, .ref h_t), (1, .ref h_p0), (2, .int x2), (3, .int x3), (4, .int x4), (5, .long x5)]) hx hb dX1_earningsOf_71 hl (k := 6) rfl (by rw [ex_13]; rfl) (by decide) rfl (fun ls hl => ?_)
    refine lv_goto (tgt := 16) hx hb dX1_earningsOf_74 (by decide) ?_
    exact ih16 x2 x3 x4 x5 x_13 H locs ls hF hP hD hS (lv_sub hl [1, 2, 3, 4, 5, 6, 0] rfl)
  have L16 : ∀ (k16 : Int32 → Int32 → Int32 → Int64 → Int32 → Option (Int32 × Unit)) (ih16 : ∀ (x2 : Int32) (x3 : Int32) (x4 : Int32) (x5 : Int64) (x7 : Int32) (H : Heap) (locs : List Loc) (ls : Array Slot), k16 x2 x3 x4 x5 x7 = O → va_P D classes [(h_t, .inr (1, [.ref h_held, .ref h_totals])), (h_p0, .inr (2, [.int v_p0_units, .ref h_p0_settings, .ref h_p0_yesLeads, .ref h_p0_noLeads, .ref h_p0_percents, .ref h_p0_grades, .ref h_p0_gradeKinds, .ref h_p0_gradePurities, .ref h_p0_gradePrices])), (h_totals, .inl (cI, 5, .inl a_totals)), (h_p0_grades, .inl (cI, 4, .inl a_p0_grades)), (h_held, .inl (cI, 25, .inl a_held)), (h_p0_gradeKinds, .inl (cI, 4, .inl a_p0_gradeKinds)), (h_p0_gradePurities, .inl (cI, 16, .inl a_p0_gradePurities)), (h_p0_gradePrices, .inl (cI, 16, .inl a_p0_gradePrices))] H → va_D A [(h_t, .inr (1, [.ref h_held, .ref h_totals])), (h_p0, .inr (2, [.int v_p0_units, .ref h_p0_settings, .ref h_p0_yesLeads, .ref h_p0_noLeads, .ref h_p0_percents, .ref h_p0_grades, .ref h_p0_gradeKinds, .ref h_p0_gradePurities, .ref h_p0_gradePrices])), (h_totals, .inl (cI, 5, .inl a_totals)), (h_p0_grades, .inl (cI, 4, .inl a_p0_grades)), (h_held, .inl (cI, 25, .inl a_held)), (h_p0_gradeKinds, .inl (cI, 4, .inl a_p0_gradeKinds)), (h_p0_gradePurities, .inl (cI, 16, .inl a_p0_gradePurities)), (h_p0_gradePrices, .inl (cI, 16, .inl a_p0_gradePrices))] → va_S A s.heap H locs → lv_has ls 9 [(0, .ref h_t), (1, .ref h_p0), (2, .int x2), (3, .int x3), (4, .int x4), (5, .long x5), (7, .int x7)] → W p l e rmX1_earningsOf s m ([.ref h_t, .ref h_p0, .int z2] : List Value).toArray below meth c H locs 0 0 Q (F0 m 16 ls [])), ∀ (x2 : Int32) (x3 : Int32) (x4 : Int32) (x5 : Int64) (x7 : Int32) (H : Heap) (locs : List Loc) (ls : Array Slot), FX1_earningsOf_16 n a_totals a_p0_grades a_held a_p0_gradeKinds a_p0_gradePurities a_p0_gradePrices z2 k16 x2 x3 x4 x5 x7 = O → va_P D classes [(h_t, .inr (1, [.ref h_held, .ref h_totals])), (h_p0, .inr (2, [.int v_p0_units, .ref h_p0_settings, .ref h_p0_yesLeads, .ref h_p0_noLeads, .ref h_p0_percents, .ref h_p0_grades, .ref h_p0_gradeKinds, .ref h_p0_gradePurities, .ref h_p0_gradePrices])), (h_totals, .inl (cI, 5, .inl a_totals)), (h_p0_grades, .inl (cI, 4, .inl a_p0_grades)), (h_held, .inl (cI, 25, .inl a_held)), (h_p0_gradeKinds, .inl (cI, 4, .inl a_p0_gradeKinds)), (h_p0_gradePurities, .inl (cI, 16, .inl a_p0_gradePurities)), (h_p0_gradePrices, .inl (cI, 16, .inl a_p0_gradePrices))] H → va_D A [(h_t, .inr (1, [.ref h_held, .ref h_totals])), (h_p0, .inr (2, [.int v_p0_units, .ref h_p0_settings, .ref h_p0_yesLeads, .ref h_p0_noLeads, .ref h_p0_percents, .ref h_p0_grades, .ref h_p0_gradeKinds, .ref h_p0_gradePurities, .ref h_p0_gradePrices])), (h_totals, .inl (cI, 5, .inl a_totals)), (h_p0_grades, .inl (cI, 4, .inl a_p0_grades)), (h_held, .inl (cI, 25, .inl a_held)), (h_p0_gradeKinds, .inl (cI, 4, .inl a_p0_gradeKinds)), (h_p0_gradePurities, .inl (cI, 16, .inl a_p0_gradePurities)), (h_p0_gradePrices, .inl (cI, 16, .inl a_p0_gradePrices))] → va_S A s.heap H locs → lv_has ls 9 [(0, .ref h_t), (1, .ref h_p0), (2, .int x2), (3, .int x3), (4, .int x4), (5, .long x5), (7, .int x7)] → W p l e rmX1_earningsOf s m ([.ref h_t, .ref h_p0, .int z2] : List Value).toArray below meth c H locs 0 0 Q (F0 m 16 ls []) := by
    intro k16 ih16 x2 x3 x4 x5 x7 H locs ls hF hP hD hS hl
    unfold FX1_earningsOf_16 at hF
    refine lv_iload hx hb dX1_earningsOf_16 (lv_at hl 6 rfl) ?_
    refine lv_aload_n hx hb dX1_earningsOf_18 rfl (lv_at hl 1 rfl) ?_
    refine va_getN (D := D) (ci := 2) (C := RX2) (T := TX2) (N := 9) hx hb ha inAX2 hown hK hP 1 rfl rfl 5 (by decide) (va_Nw.use rfl (hE.2.1 _ w_1_44)) (fun _ h9 => h9) rfl dX1_earningsOf_19 ?_
    refine lv_iload_n hx hb dX1_earningsOf_22 rfl (lv_at hl 2 rfl) ?_
    replace hF := ckP hN hF
    obtain ⟨c_3, hF⟩ := hF
    refine ld_i hx hb hK hP 3 rfl c_3 dX1_earningsOf_23 ?_
    refine lv_icmp_ge (tgt := 77) hx hb dX1_earningsOf_24 (by decide) (fun c_4 => ?_) (fun c_4 => ?_)
    · replace hF := ifT c_4 hF
      refine lv_aload_n hx hb dX1_earningsOf_77 rfl (lv_at hl 0 rfl) ?_
      refine va_get (D := D) (ci := 1) (C := RX1) (T := TX1) (N := 2) hx hb ha inAX1 hown hK hP 0 rfl rfl 1 (by decide) (ha _ w_1_196) (fun _ h9 => h9) rfl dX1_earningsOf_78 ?_
      refine lv_iload_n hx hb dX1_earningsOf_81 rfl (lv_at hl 2 rfl) ?_
      replace hF := ckP hN hF
      obtain ⟨c_5, hF⟩ := hF
      refine ld_i hx hb hK hP 2 rfl c_5 dX1_earningsOf_82 ?_
      refine lv_i2l hx hb dX1_earningsOf_83 rfl ?_
      refine lv_lload hx hb dX1_earningsOf_84 (lv_at hl 5 rfl) ?_
      refine lv_lmul hx hb dX1_earningsOf_86 ?_
      refine lv_ldc2 hx hb hown (ha _ w_3_57) dX1_earningsOf_87 ?_
      replace hF := ckP hN hF
      obtain ⟨c_6, hF⟩ := hF
      refine lv_ldiv hx hb dX1_earningsOf_90 c_6 ?_
      refine lv_l2i hx hb dX1_earningsOf_91 rfl ?_
      exact hret ((((((a_totals (x2).toNatClampNeg)).toInt64 * x5) / (1000 : Int64))).toInt32, ()) H locs ls _ hF hP hD hS dX1_earningsOf_92
    · replace hF := ifF c_4 hF
      refine lv_aload_n hx hb dX1_earningsOf_27 rfl (lv_at hl 1 rfl) ?_
      refine va_getN (D := D) (ci := 2) (C := RX2) (T := TX2) (N := 9) hx hb ha inAX2 hown hK hP 1 rfl rfl 7 (by decide) (va_Nw.use rfl (hE.2.1 _ w_1_51)) (fun _ h9 => h9) rfl dX1_earningsOf_28 ?_
      refine lv_iload_n hx hb dX1_earningsOf_31 rfl (lv_at hl 2 rfl) ?_
      refine lv_iconst (v := 4) hx hb dX1_earningsOf_32 (by decide) ?_
      refine lv_imul hx hb dX1_earningsOf_33 ?_
      refine lv_iload hx hb dX1_earningsOf_34 (lv_at hl 6 rfl) ?_
      refine lv_iadd hx hb dX1_earningsOf_36 ?_
      replace hF := ckP hN hF
      obtain ⟨c_7, hF⟩ := hF
      refine ld_i hx hb hK hP 6 rfl c_7 dX1_earningsOf_37 ?_
      refine lv_topi (fun x_8 ex_8 => ?_)
      replace hF := ltP ex_8 hF
      refine lv_istore (lv' := [(8, .int x_8), (0, .ref h_t), (1, .ref h_p0), (2, .int x2), (3, .int x3), (4, .int x4), (5, .long x5), (7, .int x7)]) hx hb dX1_earningsOf_38 hl (by decide) rfl (fun ls hl => ?_)
      refine lv_iload hx hb dX1_earningsOf_40 (lv_at hl 0 rfl) ?_
      refine lv_iload_n hx hb dX1_earningsOf_42 rfl (lv_at hl 4 rfl) ?_
      refine lv_icmp_gt (tgt := 71) hx hb dX1_earningsOf_43 (by decide) (fun c_9 => ?_) (fun c_9 => ?_)
      · replace hF := ifT c_9 hF
        exact L71 k16 ih16 x2 x3 x4 x5 x7 H locs ls hF hP hD hS (lv_sub hl [1, 2, 3, 4, 5, 6, 7] rfl)
      · replace hF := ifF c_9 hF
        refine lv_iload hx hb dX1_earningsOf_46 (lv_at hl 0 rfl) ?_
        refine lv_iload hx hb dX1_earningsOf_48 (lv_at hl 5 rfl) ?_
        refine lv_icmp_le (tgt := 71) hx hb dX1_earningsOf_50 (by decide) (fun c_10 => ?_) (fun c_10 => ?_)
        · replace hF := ifT c_10 hF
          exact L71 k16 ih16 x2 x3 x4 x5 x7 H locs ls hF hP hD hS (lv_sub hl [1, 2, 3, 4, 5, 6, 7] rfl)
        · replace hF := ifF c_10 hF
          refine lv_iload hx hb dX1_earningsOf_53 (lv_at hl 0 rfl) ?_
          refine lv_istore (lv' := [(4, .int x_8), (8, .int x_8), (0, .ref h_t), (1, .ref h_p0), (2, .int x2), (3, .int x3), (5, .long x5), (7, .int x7)]) hx hb dX1_earningsOf_55 hl (by decide) rfl (fun ls hl => ?_)
          refine lv_aload_n hx hb dX1_earningsOf_57 rfl (lv_at hl 3 rfl) ?_
          refine va_getN (D := D) (ci := 2) (C := RX2) (T := TX2) (N := 9) hx hb ha inAX2 hown hK hP 1 rfl rfl 8 (by decide) (va_Nw.use rfl (hE.2.1 _ w_1_53)) (fun _ h9 => h9) rfl dX1_earningsOf_58 ?_
          refine lv_iload_n hx hb dX1_earningsOf_61 rfl (lv_at hl 4 rfl) ?_
          refine lv_iconst (v := 4) hx hb dX1_earningsOf_62 (by decide) ?_
          refine lv_imul hx hb dX1_earningsOf_63 ?_
          refine lv_iload hx hb dX1_earningsOf_64 (lv_at hl 7 rfl) ?_
          refine lv_iadd hx hb dX1_earningsOf_66 ?_
          replace hF := ckP hN hF
          obtain ⟨c_11, hF⟩ := hF
          refine ld_i hx hb hK hP 7 rfl c_11 dX1_earningsOf_67 ?_
          refine lv_i2l hx hb dX1_earningsOf_68 rfl ?_
          refine lv_topl (fun x_12 ex_12 => ?_)
          replace hF := ltP ex_12 hF
          refine lv_lstore (lv' := [(5, .long x_12), (4, .int x_8), (8, .int x_8), (0, .ref h_t), (1, .ref h_p0), (2, .int x2), (3, .int x3), (7, .int x7)]) hx hb dX1_earningsOf_69 hl (by decide) rfl (fun ls hl => ?_)
          exact L71 k16 ih16 x2 x3 x_8 x_12 x7 H locs ls hF hP hD hS (lv_sub hl [3, 4, 5, 6, 1, 0, 7] rfl)
  have Lc16 : ∀ (j : Nat), ∀ (x2 : Int32) (x3 : Int32) (x4 : Int32) (x5 : Int64) (x7 : Int32) (H : Heap) (locs : List Loc) (ls : Array Slot), FX1_earningsOf_16L n a_totals a_p0_grades a_held a_p0_gradeKinds a_p0_gradePurities a_p0_gradePrices z2 j x2 x3 x4 x5 x7 = O → va_P D classes [(h_t, .inr (1, [.ref h_held, .ref h_totals])), (h_p0, .inr (2, [.int v_p0_units, .ref h_p0_settings, .ref h_p0_yesLeads, .ref h_p0_noLeads, .ref h_p0_percents, .ref h_p0_grades, .ref h_p0_gradeKinds, .ref h_p0_gradePurities, .ref h_p0_gradePrices])), (h_totals, .inl (cI, 5, .inl a_totals)), (h_p0_grades, .inl (cI, 4, .inl a_p0_grades)), (h_held, .inl (cI, 25, .inl a_held)), (h_p0_gradeKinds, .inl (cI, 4, .inl a_p0_gradeKinds)), (h_p0_gradePurities, .inl (cI, 16, .inl a_p0_gradePurities)), (h_p0_gradePrices, .inl (cI, 16, .inl a_p0_gradePrices))] H → va_D A [(h_t, .inr (1, [.ref h_held, .ref h_totals])), (h_p0, .inr (2, [.int v_p0_units, .ref h_p0_settings, .ref h_p0_yesLeads, .ref h_p0_noLeads, .ref h_p0_percents, .ref h_p0_grades, .ref h_p0_gradeKinds, .ref h_p0_gradePurities, .ref h_p0_gradePrices])), (h_totals, .inl (cI, 5, .inl a_totals)), (h_p0_grades, .inl (cI, 4, .inl a_p0_grades)), (h_held, .inl (cI, 25, .inl a_held)), (h_p0_gradeKinds, .inl (cI, 4, .inl a_p0_gradeKinds)), (h_p0_gradePurities, .inl (cI, 16, .inl a_p0_gradePurities)), (h_p0_gradePrices, .inl (cI, 16, .inl a_p0_gradePrices))] → va_S A s.heap H locs → lv_has ls 9 [(0, .ref h_t), (1, .ref h_p0), (2, .int x2), (3, .int x3), (4, .int x4), (5, .long x5), (7, .int x7)] → W p l e rmX1_earningsOf s m ([.ref h_t, .ref h_p0, .int z2] : List Value).toArray below meth c H locs 0 0 Q (F0 m 16 ls []) := by
    intro j
    induction j with
    | zero => intro _ _ _ _ _ H locs ls hF; exact absurd hF.symm hN
    | succ j ih => exact L16 (FX1_earningsOf_16L n a_totals a_p0_grades a_held a_p0_gradeKinds a_p0_gradePurities a_p0_gradePrices z2 j) ih
  unfold FX1_earningsOf at hF
  obtain ⟨H, hH⟩ : ∃ H, H = s.heap := ⟨_, rfl⟩
  obtain ⟨locs, hlo⟩ : ∃ locs : List Loc, locs = [] := ⟨_, rfl⟩
  have hS : va_S A s.heap H locs := by rw [hH, hlo]; exact hS
  rw [← hH] at hP
  have goal : W p l e rmX1_earningsOf s m ([.ref h_t, .ref h_p0, .int z2] : List Value).toArray below meth c H locs 0 0 Q (F0 m 0 ls []) := by
    refine lv_aload_n hx hb dX1_earningsOf_0 rfl (lv_at hl 0 rfl) ?_
    refine lv_aload_n hx hb dX1_earningsOf_1 rfl (lv_at hl 1 rfl) ?_
    refine lv_iload_n hx hb dX1_earningsOf_2 rfl (lv_at hl 2 rfl) ?_
    have hn_1 := bdN hN hF
    refine callVI (As := [.ref h_p0, .int z2]) (rest := []) (wr := [(h_p0_gradePurities, .inl (cI, 16, .inl a_p0_gradePurities)), (h_p0_gradePrices, .inl (cI, 16, .inl a_p0_gradePrices))]) (W2 := fun u_2 => [(h_t, .inr (1, [.ref h_held, .ref h_totals])), (h_p0, .inr (2, [.int v_p0_units, .ref h_p0_settings, .ref h_p0_yesLeads, .ref h_p0_noLeads, .ref h_p0_percents, .ref h_p0_grades, .ref h_p0_gradeKinds, .ref h_p0_gradePurities, .ref h_p0_gradePrices])), (h_totals, .inl (cI, 5, .inl a_totals)), (h_p0_grades, .inl (cI, 4, .inl a_p0_grades)), (h_held, .inl (cI, 25, .inl a_held)), (h_p0_gradeKinds, .inl (cI, 4, .inl a_p0_gradeKinds)), (h_p0_gradePurities, .inl (cI, 16, .inl a_p0_gradePurities)), (h_p0_gradePrices, .inl (cI, 16, .inl a_p0_gradePrices))]) X hE hP hD hS hA (kX1_purityOf l D cB cI cJ cZ rz n H.size h_t h_p0 h_totals h_p0_grades h_held h_p0_gradeKinds h_p0_settings h_p0_yesLeads h_p0_noLeads h_p0_percents h_p0_gradePurities h_p0_gradePrices v_p0_units a_totals a_p0_grades a_held a_p0_gradeKinds z2 hn_1) w_3_56 w_3_45 ws_39 w_1_6 w_3_46 cb_X1_purityOf rfl rfl ⟨Nat.le_of_ble_eq_true rfl, Nat.le_of_ble_eq_true rfl⟩ rfl hl.1 rfl (Nat.le_of_ble_eq_true rfl) dX1_earningsOf_3 ⟨Nat.le_of_ble_eq_true rfl, Nat.le_of_ble_eq_true rfl⟩ (c2 := 0) (s2 := 0) rfl rfl (k0 := 0) rfl rfl [0, 1, 2, 3, 4, 5] [6, 7] [2, 3, 4, 5, 6, 7, 0, 1] rfl rfl (by decide) (by decide) (by decide) (by decide) (fun _ => rfl) (fun u_2 H locs hG hP hD hS => ?_)
    replace hF := bdQ hG hF
    refine lv_istore_n (lv' := [(3, .int u_2.1), (0, .ref h_t), (1, .ref h_p0), (2, .int z2)]) hx hb dX1_earningsOf_6 rfl hl (by decide) rfl (fun ls hl => ?_)
    refine lv_iconst (v := -1) hx hb dX1_earningsOf_7 (by decide) ?_
    refine lv_istore (lv' := [(4, .int (-1 : Int32)), (3, .int u_2.1), (0, .ref h_t), (1, .ref h_p0), (2, .int z2)]) hx hb dX1_earningsOf_8 hl (by decide) rfl (fun ls hl => ?_)
    refine lv_lconst (v := 0) hx hb dX1_earningsOf_10 (by decide) ?_
    refine lv_lstore (lv' := [(5, .long (0 : Int64)), (4, .int (-1 : Int32)), (3, .int u_2.1), (0, .ref h_t), (1, .ref h_p0), (2, .int z2)]) hx hb dX1_earningsOf_11 hl (by decide) rfl (fun ls hl => ?_)
    refine lv_iconst (v := 0) hx hb dX1_earningsOf_13 (by decide) ?_
    refine lv_istore (lv' := [(7, .int (0 : Int32)), (5, .long (0 : Int64)), (4, .int (-1 : Int32)), (3, .int u_2.1), (0, .ref h_t), (1, .ref h_p0), (2, .int z2)]) hx hb dX1_earningsOf_14 hl (by decide) rfl (fun ls hl => ?_)
    exact Lc16 n z2 u_2.1 (-1 : Int32) (0 : Int64) (0 : Int32) H locs ls hF hP hD hS (lv_sub hl [4, 5, 6, 3, 2, 1, 0] rfl)
  rw [hH, hlo] at goal
  exact goal
theorem dX1_worthOf_0 : decode cX1_worthOf 0 = .ok (.iconst 0, 1) := by decide +kernel
theorem dX1_worthOf_1 : decode cX1_worthOf 1 = .ok (.istore_n 3, 1) := by decide +kernel
theorem dX1_worthOf_2 : decode cX1_worthOf 2 = .ok (.iconst 0, 1) := by decide +kernel
theorem dX1_worthOf_3 : decode cX1_worthOf 3 = .ok (.istore 4, 2) := by decide +kernel
theorem dX1_worthOf_5 : decode cX1_worthOf 5 = .ok (.iload 4, 2) := by decide +kernel
theorem dX1_worthOf_7 : decode cX1_worthOf 7 = .ok (.iconst 4, 1) := by decide +kernel
theorem dX1_worthOf_8 : decode cX1_worthOf 8 = .ok (.if_icmp .ge 19, 3) := by decide +kernel
theorem dX1_worthOf_11 : decode cX1_worthOf 11 = .ok (.iload_n 3, 1) := by decide +kernel
theorem dX1_worthOf_12 : decode cX1_worthOf 12 = .ok (.aload_n 0, 1) := by decide +kernel
theorem dX1_worthOf_13 : decode cX1_worthOf 13 = .ok (.aload_n 1, 1) := by decide +kernel
theorem dX1_worthOf_14 : decode cX1_worthOf 14 = .ok (.iload 4, 2) := by decide +kernel
theorem dX1_worthOf_16 : decode cX1_worthOf 16 = .ok (.invokevirtual 68, 3) := by decide +kernel
theorem dX1_worthOf_19 : decode cX1_worthOf 19 = .ok (.iadd, 1) := by decide +kernel
theorem dX1_worthOf_20 : decode cX1_worthOf 20 = .ok (.istore_n 3, 1) := by decide +kernel
theorem dX1_worthOf_21 : decode cX1_worthOf 21 = .ok (.iinc 4 1, 3) := by decide +kernel
theorem dX1_worthOf_24 : decode cX1_worthOf 24 = .ok (.goto (-19), 3) := by decide +kernel
theorem dX1_worthOf_27 : decode cX1_worthOf 27 = .ok (.iload_n 3, 1) := by decide +kernel
theorem dX1_worthOf_28 : decode cX1_worthOf 28 = .ok (.aload_n 0, 1) := by decide +kernel
theorem dX1_worthOf_29 : decode cX1_worthOf 29 = .ok (.getfield 15, 3) := by decide +kernel
theorem dX1_worthOf_32 : decode cX1_worthOf 32 = .ok (.iconst 4, 1) := by decide +kernel
theorem dX1_worthOf_33 : decode cX1_worthOf 33 = .ok (.iaload, 1) := by decide +kernel
theorem dX1_worthOf_34 : decode cX1_worthOf 34 = .ok (.sipush 1000, 3) := by decide +kernel
theorem dX1_worthOf_37 : decode cX1_worthOf 37 = .ok (.idiv, 1) := by decide +kernel
theorem dX1_worthOf_38 : decode cX1_worthOf 38 = .ok (.iload_n 2, 1) := by decide +kernel
theorem dX1_worthOf_39 : decode cX1_worthOf 39 = .ok (.imul, 1) := by decide +kernel
theorem dX1_worthOf_40 : decode cX1_worthOf 40 = .ok (.isub, 1) := by decide +kernel
theorem dX1_worthOf_41 : decode cX1_worthOf 41 = .ok (.ireturn, 1) := by decide +kernel
abbrev rmX1_worthOf : Room := { frames := 2, cells := 0, slots := 0, locals := 52 }
theorem cb_X1_worthOf : CBn yX1_worthOf 2 := ⟨by decide +kernel, by decide +kernel, by decide +kernel⟩
def FX1_worthOf_5 (n : Nat) (a_totals : Nat → Int32) (a_p0_grades : Nat → Int32) (a_held : Nat → Int32) (a_p0_gradeKinds : Nat → Int32) (a_p0_gradePurities : Nat → Int32) (a_p0_gradePrices : Nat → Int32) (z2 : Int32) (k5 : Int32 → Int32 → Int32 → Option (Int32 × Unit)) (x2 : Int32) (x3 : Int32) (x4 : Int32) : Option (Int32 × Unit) := if (4 : Int32) ≤ x4 then (if ¬ ((4 : Int32) < 0 ∨ 5 ≤ ((4 : Int32)).toNatClampNeg) then (if ¬ (1000 : Int32) = 0 then (some ((x3 - (((a_totals ((4 : Int32)).toNatClampNeg) / (1000 : Int32)) * x2)), ())) else none) else none) else (bd (FX1_earningsOf n a_totals a_p0_grades a_held a_p0_gradeKinds a_p0_gradePurities a_p0_gradePrices x4) (fun u_5 => lt1 (x3 + u_5.1) (fun x_6 => lt1 (x4 + (1 : Int32)) (fun x_7 => k5 x2 x_6 x_7))))
def FX1_worthOf_5L (n : Nat) (a_totals : Nat → Int32) (a_p0_grades : Nat → Int32) (a_held : Nat → Int32) (a_p0_gradeKinds : Nat → Int32) (a_p0_gradePurities : Nat → Int32) (a_p0_gradePrices : Nat → Int32) (z2 : Int32) (j : Nat) : Int32 → Int32 → Int32 → Option (Int32 × Unit) := lpR (FX1_worthOf_5 n a_totals a_p0_grades a_held a_p0_gradeKinds a_p0_gradePurities a_p0_gradePrices z2) (fun _ _ _ => none) j
def FX1_worthOf (n : Nat) (a_totals : Nat → Int32) (a_p0_grades : Nat → Int32) (a_held : Nat → Int32) (a_p0_gradeKinds : Nat → Int32) (a_p0_gradePurities : Nat → Int32) (a_p0_gradePrices : Nat → Int32) (z2 : Int32) : Option (Int32 × Unit) := FX1_worthOf_5L n a_totals a_p0_grades a_held a_p0_gradeKinds a_p0_gradePurities a_p0_gradePrices z2 n z2 (0 : Int32) (0 : Int32)
set_option maxHeartbeats 4000000 in
set_option maxRecDepth 100000 in
theorem kX1_worthOf (l : Launch) (D : va_G) (cB cI cJ cZ : ClassId) (rz n sz : Nat) (h_t : Nat) (h_p0 : Nat) (h_totals : Nat) (h_p0_grades : Nat) (h_held : Nat) (h_p0_gradeKinds : Nat) (h_p0_gradePurities : Nat) (h_p0_gradePrices : Nat) (h_p0_settings : Nat) (h_p0_yesLeads : Nat) (h_p0_noLeads : Nat) (h_p0_percents : Nat) (v_p0_units : Int32) (a_totals : Nat → Int32) (a_p0_grades : Nat → Int32) (a_held : Nat → Int32) (a_p0_gradeKinds : Nat → Int32) (a_p0_gradePurities : Nat → Int32) (a_p0_gradePrices : Nat → Int32) (z2 : Int32) (hN : FX1_worthOf n a_totals a_p0_grades a_held a_p0_gradeKinds a_p0_gradePurities a_p0_gradePrices z2 ≠ none) : Met l yX1_worthOf (Cond.code yX1_worthOf cX1_worthOf 5 (some .int) :: AL) rmX1_worthOf (PW D cB cI cJ cZ rz [.ref h_t, .ref h_p0, .int z2] [(h_t, .inr (1, [.ref h_held, .ref h_totals])), (h_p0, .inr (2, [.int v_p0_units, .ref h_p0_settings, .ref h_p0_yesLeads, .ref h_p0_noLeads, .ref h_p0_percents, .ref h_p0_grades, .ref h_p0_gradeKinds, .ref h_p0_gradePurities, .ref h_p0_gradePrices])), (h_totals, .inl (cI, 5, .inl a_totals)), (h_p0_grades, .inl (cI, 4, .inl a_p0_grades)), (h_held, .inl (cI, 25, .inl a_held)), (h_p0_gradeKinds, .inl (cI, 4, .inl a_p0_gradeKinds)), (h_p0_gradePurities, .inl (cI, 16, .inl a_p0_gradePurities)), (h_p0_gradePrices, .inl (cI, 16, .inl a_p0_gradePrices))] sz) (QI D (FX1_worthOf n a_totals a_p0_grades a_held a_p0_gradeKinds a_p0_gradePurities a_p0_gradePrices z2) (fun u => [(h_t, .inr (1, [.ref h_held, .ref h_totals])), (h_p0, .inr (2, [.int v_p0_units, .ref h_p0_settings, .ref h_p0_yesLeads, .ref h_p0_noLeads, .ref h_p0_percents, .ref h_p0_grades, .ref h_p0_gradeKinds, .ref h_p0_gradePurities, .ref h_p0_gradePrices])), (h_totals, .inl (cI, 5, .inl a_totals)), (h_p0_grades, .inl (cI, 4, .inl a_p0_grades)), (h_held, .inl (cI, 25, .inl a_held)), (h_p0_gradeKinds, .inl (cI, 4, .inl a_p0_gradeKinds)), (h_p0_gradePurities, .inl (cI, 16, .inl a_p0_gradePurities)), (h_p0_gradePrices, .inl (cI, 16, .inl a_p0_gradePrices))]) (va_A [(h_t, .inr (1, [.ref h_held, .ref h_totals])), (h_p0, .inr (2, [.int v_p0_units, .ref h_p0_settings, .ref h_p0_yesLeads, .ref h_p0_noLeads, .ref h_p0_percents, .ref h_p0_grades, .ref h_p0_gradeKinds, .ref h_p0_gradePurities, .ref h_p0_gradePrices])), (h_totals, .inl (cI, 5, .inl a_totals)), (h_p0_grades, .inl (cI, 4, .inl a_p0_grades)), (h_held, .inl (cI, 25, .inl a_held)), (h_p0_gradeKinds, .inl (cI, 4, .inl a_p0_gradeKinds)), (h_p0_gradePurities, .inl (cI, 16, .inl a_p0_gradePurities)), (h_p0_gradePrices, .inl (cI, 16, .inl a_p0_gradePrices))] sz)) 0 0 (va_A [(h_t, .inr (1, [.ref h_held, .ref h_totals])), (h_p0, .inr (2, [.int v_p0_units, .ref h_p0_settings, .ref h_p0_yesLeads, .ref h_p0_noLeads, .ref h_p0_percents, .ref h_p0_grades, .ref h_p0_gradeKinds, .ref h_p0_gradePurities, .ref h_p0_gradePrices])), (h_totals, .inl (cI, 5, .inl a_totals)), (h_p0_grades, .inl (cI, 4, .inl a_p0_grades)), (h_held, .inl (cI, 25, .inl a_held)), (h_p0_gradeKinds, .inl (cI, 4, .inl a_p0_gradeKinds)), (h_p0_gradePurities, .inl (cI, 16, .inl a_p0_gradePurities)), (h_p0_gradePrices, .inl (cI, 16, .inl a_p0_gradePrices))] sz) := by
  obtain ⟨O, hF⟩ : ∃ O, FX1_worthOf n a_totals a_p0_grades a_held a_p0_gradeKinds a_p0_gradePurities a_p0_gradePrices z2 = O := ⟨_, rfl⟩
  rw [hF] at hN ⊢
  refine enterI (cc := cX1_worthOf) (nL := 5) (by decide) (Nat.le_of_ble_eq_true rfl) ?_
  intro p e s m below meth c A Q X hA hE hnm hsz hP hD hS hret ls hl
  obtain ⟨hx, hb, hml, hown0, ha⟩ := id X
  have hown : s.vm.findClass RX1 = some m.cls := hown0
  have hK := hE.1
  have hl : lv_has ls 5 [(0, .ref h_t), (1, .ref h_p0), (2, .int z2)] := hl
  have hX : CallFix p m c cX1_worthOf 5 s ([.ref h_t, .ref h_p0, .int z2] : List Value).toArray AL RX1 := X
  have X := hX
  have L5 : ∀ (k5 : Int32 → Int32 → Int32 → Option (Int32 × Unit)) (ih5 : ∀ (x2 : Int32) (x3 : Int32) (x4 : Int32) (H : Heap) (locs : List Loc) (ls : Array Slot), k5 x2 x3 x4 = O → va_P D classes [(h_t, .inr (1, [.ref h_held, .ref h_totals])), (h_p0, .inr (2, [.int v_p0_units, .ref h_p0_settings, .ref h_p0_yesLeads, .ref h_p0_noLeads, .ref h_p0_percents, .ref h_p0_grades, .ref h_p0_gradeKinds, .ref h_p0_gradePurities, .ref h_p0_gradePrices])), (h_totals, .inl (cI, 5, .inl a_totals)), (h_p0_grades, .inl (cI, 4, .inl a_p0_grades)), (h_held, .inl (cI, 25, .inl a_held)), (h_p0_gradeKinds, .inl (cI, 4, .inl a_p0_gradeKinds)), (h_p0_gradePurities, .inl (cI, 16, .inl a_p0_gradePurities)), (h_p0_gradePrices, .inl (cI, 16, .inl a_p0_gradePrices))] H → va_D A [(h_t, .inr (1, [.ref h_held, .ref h_totals])), (h_p0, .inr (2, [.int v_p0_units, .ref h_p0_settings, .ref h_p0_yesLeads, .ref h_p0_noLeads, .ref h_p0_percents, .ref h_p0_grades, .ref h_p0_gradeKinds, .ref h_p0_gradePurities, .ref h_p0_gradePrices])), (h_totals, .inl (cI, 5, .inl a_totals)), (h_p0_grades, .inl (cI, 4, .inl a_p0_grades)), (h_held, .inl (cI, 25, .inl a_held)), (h_p0_gradeKinds, .inl (cI, 4, .inl a_p0_gradeKinds)), (h_p0_gradePurities, .inl (cI, 16, .inl a_p0_gradePurities)), (h_p0_gradePrices, .inl (cI, 16, .inl a_p0_gradePrices))] → va_S A s.heap H locs → lv_has ls 5 [(0, .ref h_t), (1, .ref h_p0), (2, .int x2), (3, .int x3), (4, .int x4)] → W p l e rmX1_worthOf s m ([.ref h_t, .ref h_p0, .int z2] : List Value).toArray below meth c H locs 0 0 Q (F0 m 5 ls [])), ∀ (x2 : Int32) (x3 : Int32) (x4 : Int32) (H : Heap) (locs : List Loc) (ls : Array Slot), FX1_worthOf_5 n a_totals a_p0_grades a_held a_p0_gradeKinds a_p0_gradePurities a_p0_gradePrices z2 k5 x2 x3 x4 = O → va_P D classes [(h_t, .inr (1, [.ref h_held, .ref h_totals])), (h_p0, .inr (2, [.int v_p0_units, .ref h_p0_settings, .ref h_p0_yesLeads, .ref h_p0_noLeads, .ref h_p0_percents, .ref h_p0_grades, .ref h_p0_gradeKinds, .ref h_p0_gradePurities, .ref h_p0_gradePrices])), (h_totals, .inl (cI, 5, .inl a_totals)), (h_p0_grades, .inl (cI, 4, .inl a_p0_grades)), (h_held, .inl (cI, 25, .inl a_held)), (h_p0_gradeKinds, .inl (cI, 4, .inl a_p0_gradeKinds)), (h_p0_gradePurities, .inl (cI, 16, .inl a_p0_gradePurities)), (h_p0_gradePrices, .inl (cI, 16, .inl a_p0_gradePrices))] H → va_D A [(h_t, .inr (1, [.ref h_held, .ref h_totals])), (h_p0, .inr (2, [.int v_p0_units, .ref h_p0_settings, .ref h_p0_yesLeads, .ref h_p0_noLeads, .ref h_p0_percents, .ref h_p0_grades, .ref h_p0_gradeKinds, .ref h_p0_gradePurities, .ref h_p0_gradePrices])), (h_totals, .inl (cI, 5, .inl a_totals)), (h_p0_grades, .inl (cI, 4, .inl a_p0_grades)), (h_held, .inl (cI, 25, .inl a_held)), (h_p0_gradeKinds, .inl (cI, 4, .inl a_p0_gradeKinds)), (h_p0_gradePurities, .inl (cI, 16, .inl a_p0_gradePurities)), (h_p0_gradePrices, .inl (cI, 16, .inl a_p0_gradePrices))] → va_S A s.heap H locs → lv_has ls 5 [(0, .ref h_t), (1, .ref h_p0), (2, .int x2), (3, .int x3), (4, .int x4)] → W p l e rmX1_worthOf s m ([.ref h_t, .ref h_p0, .int z2] : List Value).toArray below meth c H locs 0 0 Q (F0 m 5 ls []) := by
    intro k5 ih5 x2 x3 x4 H locs ls hF hP hD hS hl
    unfold FX1_worthOf_5 at hF
    refine lv_iload hx hb dX1_worthOf_5 (lv_at hl 4 rfl) ?_
    refine lv_iconst (v := 4) hx hb dX1_worthOf_7 (by decide) ?_
    refine lv_icmp_ge (tgt := 27) hx hb dX1_worthOf_8 (by decide) (fun c_1 => ?_) (fun c_1 => ?_)
    · replace hF := ifT c_1 hF
      refine lv_iload_n hx hb dX1_worthOf_27 rfl (lv_at hl 3 rfl) ?_
      refine lv_aload_n hx hb dX1_worthOf_28 rfl (lv_at hl 0 rfl) ?_
      refine va_get (D := D) (ci := 1) (C := RX1) (T := TX1) (N := 2) hx hb ha inAX1 hown hK hP 0 rfl rfl 1 (by decide) (ha _ w_1_196) (fun _ h9 => h9) rfl dX1_worthOf_29 ?_
      refine lv_iconst (v := 4) hx hb dX1_worthOf_32 (by decide) ?_
      replace hF := ckP hN hF
      obtain ⟨c_2, hF⟩ := hF
      refine ld_i hx hb hK hP 2 rfl c_2 dX1_worthOf_33 ?_
      refine lv_sipush (v := 1000) hx hb dX1_worthOf_34 (by decide) ?_
      replace hF := ckP hN hF
      obtain ⟨c_3, hF⟩ := hF
      refine lv_idiv hx hb dX1_worthOf_37 c_3 ?_
      refine lv_iload_n hx hb dX1_worthOf_38 rfl (lv_at hl 2 rfl) ?_
      refine lv_imul hx hb dX1_worthOf_39 ?_
      refine lv_isub hx hb dX1_worthOf_40 ?_
      exact hret ((x3 - (((a_totals ((4 : Int32)).toNatClampNeg) / (1000 : Int32)) * x2)), ()) H locs ls _ hF hP hD hS dX1_worthOf_41
    · replace hF := ifF c_1 hF
      refine lv_iload_n hx hb dX1_worthOf_11 rfl (lv_at hl 3 rfl) ?_
      refine lv_aload_n hx hb dX1_worthOf_12 rfl (lv_at hl 0 rfl) ?_
      refine lv_aload_n hx hb dX1_worthOf_13 rfl (lv_at hl 1 rfl) ?_
      refine lv_iload hx hb dX1_worthOf_14 (lv_at hl 4 rfl) ?_
      have hn_4 := bdN hN hF
      refine callVI (As := [.ref h_p0, .int x4]) (rest := [.int x3]) (wr := []) (W2 := fun u_5 => [(h_t, .inr (1, [.ref h_held, .ref h_totals])), (h_p0, .inr (2, [.int v_p0_units, .ref h_p0_settings, .ref h_p0_yesLeads, .ref h_p0_noLeads, .ref h_p0_percents, .ref h_p0_grades, .ref h_p0_gradeKinds, .ref h_p0_gradePurities, .ref h_p0_gradePrices])), (h_totals, .inl (cI, 5, .inl a_totals)), (h_p0_grades, .inl (cI, 4, .inl a_p0_grades)), (h_held, .inl (cI, 25, .inl a_held)), (h_p0_gradeKinds, .inl (cI, 4, .inl a_p0_gradeKinds)), (h_p0_gradePurities, .inl (cI, 16, .inl a_p0_gradePurities)), (h_p0_gradePrices, .inl (cI, 16, .inl a_p0_gradePrices))]) X hE hP hD hS hA (kX1_earningsOf l D cB cI cJ cZ rz n H.size h_t h_p0 h_totals h_p0_grades h_held h_p0_gradeKinds h_p0_gradePurities h_p0_gradePrices h_p0_settings h_p0_yesLeads h_p0_noLeads h_p0_percents v_p0_units a_totals a_p0_grades a_held a_p0_gradeKinds a_p0_gradePurities a_p0_gradePrices x4 hn_4) w_3_70 w_3_54 ws_40 w_1_6 w_3_55 cb_X1_earningsOf rfl rfl ⟨Nat.le_of_ble_eq_true rfl, Nat.le_of_ble_eq_true rfl⟩ rfl hl.1 rfl (Nat.le_of_ble_eq_true rfl) dX1_worthOf_16 ⟨Nat.le_of_ble_eq_true rfl, Nat.le_of_ble_eq_true rfl⟩ (c2 := 0) (s2 := 0) rfl rfl (k0 := 0) rfl rfl [0, 1, 2, 3, 4, 5, 6, 7] [] [0, 1, 2, 3, 4, 5, 6, 7] rfl rfl (by decide) (by decide) (by decide) (by decide) (fun _ => rfl) (fun u_5 H locs hG hP hD hS => ?_)
      replace hF := bdQ hG hF
      refine lv_iadd hx hb dX1_worthOf_19 ?_
      refine lv_topi (fun x_6 ex_6 => ?_)
      replace hF := ltP ex_6 hF
      refine lv_istore_n (lv' := [(3, .int x_6), (0, .ref h_t), (1, .ref h_p0), (2, .int x2), (4, .int x4)]) hx hb dX1_worthOf_20 rfl hl (by decide) rfl (fun ls hl => ?_)
      obtain ⟨x_7, ex_7⟩ : ∃ y : Int32, y = x4 + (1 : Int32) := ⟨_, rfl⟩
      replace hF := ltP ex_7 hF
      refine lv_iinc (v := x_7) (lv' := [(4, .int x_7), (3, .int x_6), (0, .ref h_t), (1, .ref h_p0), (2, .int x2)]) hx hb dX1_worthOf_21 hl (k := 4) rfl (by rw [ex_7]; rfl) (by decide) rfl (fun ls hl => ?_)
      refine lv_goto (tgt := 5) hx hb dX1_worthOf_24 (by decide) ?_
      exact ih5 x2 x_6 x_7 H locs ls hF hP hD hS (lv_sub hl [2, 3, 4, 1, 0] rfl)
  have Lc5 : ∀ (j : Nat), ∀ (x2 : Int32) (x3 : Int32) (x4 : Int32) (H : Heap) (locs : List Loc) (ls : Array Slot), FX1_worthOf_5L n a_totals a_p0_grades a_held a_p0_gradeKinds a_p0_gradePurities a_p0_gradePrices z2 j x2 x3 x4 = O → va_P D classes [(h_t, .inr (1, [.ref h_held, .ref h_totals])), (h_p0, .inr (2, [.int v_p0_units, .ref h_p0_settings, .ref h_p0_yesLeads, .ref h_p0_noLeads, .ref h_p0_percents, .ref h_p0_grades, .ref h_p0_gradeKinds, .ref h_p0_gradePurities, .ref h_p0_gradePrices])), (h_totals, .inl (cI, 5, .inl a_totals)), (h_p0_grades, .inl (cI, 4, .inl a_p0_grades)), (h_held, .inl (cI, 25, .inl a_held)), (h_p0_gradeKinds, .inl (cI, 4, .inl a_p0_gradeKinds)), (h_p0_gradePurities, .inl (cI, 16, .inl a_p0_gradePurities)), (h_p0_gradePrices, .inl (cI, 16, .inl a_p0_gradePrices))] H → va_D A [(h_t, .inr (1, [.ref h_held, .ref h_totals])), (h_p0, .inr (2, [.int v_p0_units, .ref h_p0_settings, .ref h_p0_yesLeads, .ref h_p0_noLeads, .ref h_p0_percents, .ref h_p0_grades, .ref h_p0_gradeKinds, .ref h_p0_gradePurities, .ref h_p0_gradePrices])), (h_totals, .inl (cI, 5, .inl a_totals)), (h_p0_grades, .inl (cI, 4, .inl a_p0_grades)), (h_held, .inl (cI, 25, .inl a_held)), (h_p0_gradeKinds, .inl (cI, 4, .inl a_p0_gradeKinds)), (h_p0_gradePurities, .inl (cI, 16, .inl a_p0_gradePurities)), (h_p0_gradePrices, .inl (cI, 16, .inl a_p0_gradePrices))] → va_S A s.heap H locs → lv_has ls 5 [(0, .ref h_t), (1, .ref h_p0), (2, .int x2), (3, .int x3), (4, .int x4)] → W p l e rmX1_worthOf s m ([.ref h_t, .ref h_p0, .int z2] : List Value).toArray below meth c H locs 0 0 Q (F0 m 5 ls []) := by
    intro j
    induction j with
    | zero => intro _ _ _ H locs ls hF; exact absurd hF.symm hN
    | succ j ih => exact L5 (FX1_worthOf_5L n a_totals a_p0_grades a_held a_p0_gradeKinds a_p0_gradePurities a_p0_gradePrices z2 j) ih
  unfold FX1_worthOf at hF
  obtain ⟨H, hH⟩ : ∃ H, H = s.heap := ⟨_, rfl⟩
  obtain ⟨locs, hlo⟩ : ∃ locs : List Loc, locs = [] := ⟨_, rfl⟩
  have hS : va_S A s.heap H locs := by rw [hH, hlo]; exact hS
  rw [← hH] at hP
  have goal : W p l e rmX1_worthOf s m ([.ref h_t, .ref h_p0, .int z2] : List Value).toArray below meth c H locs 0 0 Q (F0 m 0 ls []) := by
    refine lv_iconst (v := 0) hx hb dX1_worthOf_0 (by decide) ?_
    refine lv_istore_n (lv' := [(3, .int (0 : Int32)), (0, .ref h_t), (1, .ref h_p0), (2, .int z2)]) hx hb dX1_worthOf_1 rfl hl (by decide) rfl (fun ls hl => ?_)
    refine lv_iconst (v := 0) hx hb dX1_worthOf_2 (by decide) ?_
    refine lv_istore (lv' := [(4, .int (0 : Int32)), (3, .int (0 : Int32)), (0, .ref h_t), (1, .ref h_p0), (2, .int z2)]) hx hb dX1_worthOf_3 hl (by decide) rfl (fun ls hl => ?_)
    exact Lc5 n z2 (0 : Int32) (0 : Int32) H locs ls hF hP hD hS (lv_sub hl [2, 3, 4, 1, 0] rfl)
  rw [hH, hlo] at goal
  exact goal
