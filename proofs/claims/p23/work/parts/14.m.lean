theorem dX4_scanWord_0 : decode cX4_scanWord 0 = .ok (.aload_n 0, 1) := by decide +kernel
theorem dX4_scanWord_1 : decode cX4_scanWord 1 = .ok (.lconst 0, 1) := by decide +kernel
theorem dX4_scanWord_2 : decode cX4_scanWord 2 = .ok (.putfield 47, 3) := by decide +kernel
theorem dX4_scanWord_5 : decode cX4_scanWord 5 = .ok (.aload_n 0, 1) := by decide +kernel
theorem dX4_scanWord_6 : decode cX4_scanWord 6 = .ok (.getfield 19, 3) := by decide +kernel
theorem dX4_scanWord_9 : decode cX4_scanWord 9 = .ok (.aload_n 0, 1) := by decide +kernel
theorem dX4_scanWord_10 : decode cX4_scanWord 10 = .ok (.getfield 15, 3) := by decide +kernel
theorem dX4_scanWord_13 : decode cX4_scanWord 13 = .ok (.if_icmp .ge 53, 3) := by decide +kernel
theorem dX4_scanWord_16 : decode cX4_scanWord 16 = .ok (.aload_n 0, 1) := by decide +kernel
theorem dX4_scanWord_17 : decode cX4_scanWord 17 = .ok (.getfield 9, 3) := by decide +kernel
theorem dX4_scanWord_20 : decode cX4_scanWord 20 = .ok (.aload_n 0, 1) := by decide +kernel
theorem dX4_scanWord_21 : decode cX4_scanWord 21 = .ok (.getfield 19, 3) := by decide +kernel
theorem dX4_scanWord_24 : decode cX4_scanWord 24 = .ok (.baload, 1) := by decide +kernel
theorem dX4_scanWord_25 : decode cX4_scanWord 25 = .ok (.invokestatic 34, 3) := by decide +kernel
theorem dX4_scanWord_28 : decode cX4_scanWord 28 = .ok (.ifCond .eq 38, 3) := by decide +kernel
theorem dX4_scanWord_31 : decode cX4_scanWord 31 = .ok (.aload_n 0, 1) := by decide +kernel
theorem dX4_scanWord_32 : decode cX4_scanWord 32 = .ok (.aload_n 0, 1) := by decide +kernel
theorem dX4_scanWord_33 : decode cX4_scanWord 33 = .ok (.getfield 47, 3) := by decide +kernel
theorem dX4_scanWord_36 : decode cX4_scanWord 36 = .ok (.bipush 8, 2) := by decide +kernel
theorem dX4_scanWord_38 : decode cX4_scanWord 38 = .ok (.lshl, 1) := by decide +kernel
theorem dX4_scanWord_39 : decode cX4_scanWord 39 = .ok (.aload_n 0, 1) := by decide +kernel
theorem dX4_scanWord_40 : decode cX4_scanWord 40 = .ok (.getfield 9, 3) := by decide +kernel
theorem dX4_scanWord_43 : decode cX4_scanWord 43 = .ok (.aload_n 0, 1) := by decide +kernel
theorem dX4_scanWord_44 : decode cX4_scanWord 44 = .ok (.getfield 19, 3) := by decide +kernel
theorem dX4_scanWord_47 : decode cX4_scanWord 47 = .ok (.baload, 1) := by decide +kernel
theorem dX4_scanWord_48 : decode cX4_scanWord 48 = .ok (.i2l, 1) := by decide +kernel
theorem dX4_scanWord_49 : decode cX4_scanWord 49 = .ok (.lor, 1) := by decide +kernel
theorem dX4_scanWord_50 : decode cX4_scanWord 50 = .ok (.putfield 47, 3) := by decide +kernel
theorem dX4_scanWord_53 : decode cX4_scanWord 53 = .ok (.aload_n 0, 1) := by decide +kernel
theorem dX4_scanWord_54 : decode cX4_scanWord 54 = .ok (.dup, 1) := by decide +kernel
theorem dX4_scanWord_55 : decode cX4_scanWord 55 = .ok (.getfield 19, 3) := by decide +kernel
theorem dX4_scanWord_58 : decode cX4_scanWord 58 = .ok (.iconst 1, 1) := by decide +kernel
theorem dX4_scanWord_59 : decode cX4_scanWord 59 = .ok (.iadd, 1) := by decide +kernel
theorem dX4_scanWord_60 : decode cX4_scanWord 60 = .ok (.putfield 19, 3) := by decide +kernel
theorem dX4_scanWord_63 : decode cX4_scanWord 63 = .ok (.goto (-58), 3) := by decide +kernel
theorem dX4_scanWord_66 : decode cX4_scanWord 66 = .ok (.aload_n 0, 1) := by decide +kernel
theorem dX4_scanWord_67 : decode cX4_scanWord 67 = .ok (.aload_n 0, 1) := by decide +kernel
theorem dX4_scanWord_68 : decode cX4_scanWord 68 = .ok (.getfield 19, 3) := by decide +kernel
theorem dX4_scanWord_71 : decode cX4_scanWord 71 = .ok (.aload_n 0, 1) := by decide +kernel
theorem dX4_scanWord_72 : decode cX4_scanWord 72 = .ok (.getfield 22, 3) := by decide +kernel
theorem dX4_scanWord_75 : decode cX4_scanWord 75 = .ok (.isub, 1) := by decide +kernel
theorem dX4_scanWord_76 : decode cX4_scanWord 76 = .ok (.bipush 8, 2) := by decide +kernel
theorem dX4_scanWord_78 : decode cX4_scanWord 78 = .ok (.if_icmp .le 8, 3) := by decide +kernel
theorem dX4_scanWord_81 : decode cX4_scanWord 81 = .ok (.bipush 11, 2) := by decide +kernel
theorem dX4_scanWord_83 : decode cX4_scanWord 83 = .ok (.goto 5, 3) := by decide +kernel
theorem dX4_scanWord_86 : decode cX4_scanWord 86 = .ok (.bipush 7, 2) := by decide +kernel
theorem dX4_scanWord_88 : decode cX4_scanWord 88 = .ok (.putfield 31, 3) := by decide +kernel
theorem dX4_scanWord_91 : decode cX4_scanWord 91 = .ok (.iconst 0, 1) := by decide +kernel
theorem dX4_scanWord_92 : decode cX4_scanWord 92 = .ok (.istore_n 1, 1) := by decide +kernel
theorem dX4_scanWord_93 : decode cX4_scanWord 93 = .ok (.iload_n 1, 1) := by decide +kernel
theorem dX4_scanWord_94 : decode cX4_scanWord 94 = .ok (.getstatic 51, 3) := by decide +kernel
theorem dX4_scanWord_97 : decode cX4_scanWord 97 = .ok (.arraylength, 1) := by decide +kernel
theorem dX4_scanWord_98 : decode cX4_scanWord 98 = .ok (.if_icmp .ge 36, 3) := by decide +kernel
theorem dX4_scanWord_101 : decode cX4_scanWord 101 = .ok (.aload_n 0, 1) := by decide +kernel
theorem dX4_scanWord_102 : decode cX4_scanWord 102 = .ok (.getfield 31, 3) := by decide +kernel
theorem dX4_scanWord_105 : decode cX4_scanWord 105 = .ok (.bipush 7, 2) := by decide +kernel
theorem dX4_scanWord_107 : decode cX4_scanWord 107 = .ok (.if_icmp .ne 27, 3) := by decide +kernel
theorem dX4_scanWord_110 : decode cX4_scanWord 110 = .ok (.getstatic 51, 3) := by decide +kernel
theorem dX4_scanWord_113 : decode cX4_scanWord 113 = .ok (.iload_n 1, 1) := by decide +kernel
theorem dX4_scanWord_114 : decode cX4_scanWord 114 = .ok (.laload, 1) := by decide +kernel
theorem dX4_scanWord_115 : decode cX4_scanWord 115 = .ok (.aload_n 0, 1) := by decide +kernel
theorem dX4_scanWord_116 : decode cX4_scanWord 116 = .ok (.getfield 47, 3) := by decide +kernel
theorem dX4_scanWord_119 : decode cX4_scanWord 119 = .ok (.lcmp, 1) := by decide +kernel
theorem dX4_scanWord_120 : decode cX4_scanWord 120 = .ok (.ifCond .ne 8, 3) := by decide +kernel
theorem dX4_scanWord_123 : decode cX4_scanWord 123 = .ok (.aload_n 0, 1) := by decide +kernel
theorem dX4_scanWord_124 : decode cX4_scanWord 124 = .ok (.iload_n 1, 1) := by decide +kernel
theorem dX4_scanWord_125 : decode cX4_scanWord 125 = .ok (.putfield 31, 3) := by decide +kernel
theorem dX4_scanWord_128 : decode cX4_scanWord 128 = .ok (.iinc 1 1, 3) := by decide +kernel
theorem dX4_scanWord_131 : decode cX4_scanWord 131 = .ok (.goto (-38), 3) := by decide +kernel
theorem dX4_scanWord_134 : decode cX4_scanWord 134 = .ok (.return_, 1) := by decide +kernel
abbrev rmX4_scanWord : Room := { frames := 1, cells := 0, slots := 0, locals := 20 }
theorem cb_X4_scanWord : CBn yX4_scanWord 0 := ⟨by decide +kernel, by decide +kernel, by decide +kernel⟩
def FX4_scanWord_128 (n : Nat) (v_length : Int32) (v_place : Int32) (a_bytes : Nat → Int32) (k93 : Int32 → Int32 → Int64 → Int32 → Option (Unit × Int32 × Int32 × Int64)) (v_next : Int32) (v_type : Int32) (v_word : Int64) (x1 : Int32) : Option (Unit × Int32 × Int32 × Int64) := lt1 (x1 + (1 : Int32)) (fun x_14 => k93 v_next v_type v_word x_14)
def FX4_scanWord_93 (n : Nat) (v_length : Int32) (v_place : Int32) (a_bytes : Nat → Int32) (k93 : Int32 → Int32 → Int64 → Int32 → Option (Unit × Int32 × Int32 × Int64)) (v_next : Int32) (v_type : Int32) (v_word : Int64) (x1 : Int32) : Option (Unit × Int32 × Int32 × Int64) := if (7 : Int32) ≤ x1 then (some ((), v_next, v_type, v_word)) else (if v_type = (7 : Int32) then (if ¬ (x1 < 0 ∨ 7 ≤ (x1).toNatClampNeg) then (if (lg_cmp (resL (x1).toNatClampNeg) v_word) = 0 then (FX4_scanWord_128 n v_length v_place a_bytes k93 v_next x1 v_word x1) else (FX4_scanWord_128 n v_length v_place a_bytes k93 v_next v_type v_word x1)) else none) else (some ((), v_next, v_type, v_word)))
def FX4_scanWord_93L (n : Nat) (v_length : Int32) (v_place : Int32) (a_bytes : Nat → Int32) (j : Nat) : Int32 → Int32 → Int64 → Int32 → Option (Unit × Int32 × Int32 × Int64) := lpR (FX4_scanWord_93 n v_length v_place a_bytes) (fun _ _ _ _ => none) j
def FX4_scanWord_88 (n : Nat) (v_length : Int32) (v_place : Int32) (a_bytes : Nat → Int32) (v_next : Int32) (v_type : Int32) (v_word : Int64) (y0 : Int32) : Option (Unit × Int32 × Int32 × Int64) := FX4_scanWord_93L n v_length v_place a_bytes n v_next y0 v_word (0 : Int32)
def FX4_scanWord_66 (n : Nat) (v_length : Int32) (v_place : Int32) (a_bytes : Nat → Int32) (v_next : Int32) (v_type : Int32) (v_word : Int64) : Option (Unit × Int32 × Int32 × Int64) := if (v_next - v_place) ≤ (8 : Int32) then (FX4_scanWord_88 n v_length v_place a_bytes v_next v_type v_word (7 : Int32)) else (FX4_scanWord_88 n v_length v_place a_bytes v_next v_type v_word (11 : Int32))
def FX4_scanWord_5 (n : Nat) (v_length : Int32) (v_place : Int32) (a_bytes : Nat → Int32) (k5 : Int32 → Int32 → Int64 → Option (Unit × Int32 × Int32 × Int64)) (v_next : Int32) (v_type : Int32) (v_word : Int64) : Option (Unit × Int32 × Int32 × Int64) := if v_length ≤ v_next then (FX4_scanWord_66 n v_length v_place a_bytes v_next v_type v_word) else (if ¬ (v_next < 0 ∨ 1200 ≤ (v_next).toNatClampNeg) then (bd (FX4_isLetter n (a_bytes (v_next).toNatClampNeg)) (fun u_4 => if u_4.1 = 0 then (FX4_scanWord_66 n v_length v_place a_bytes v_next v_type v_word) else (if ¬ (v_next < 0 ∨ 1200 ≤ (v_next).toNatClampNeg) then (lt1 ((v_word <<< (((8 : Int32)).toInt64 &&& 63)) ||| ((a_bytes (v_next).toNatClampNeg)).toInt64) (fun x_7 => lt1 (v_next + (1 : Int32)) (fun x_8 => k5 x_8 v_type x_7))) else none))) else none)
def FX4_scanWord_5L (n : Nat) (v_length : Int32) (v_place : Int32) (a_bytes : Nat → Int32) (j : Nat) : Int32 → Int32 → Int64 → Option (Unit × Int32 × Int32 × Int64) := lpR (FX4_scanWord_5 n v_length v_place a_bytes) (fun _ _ _ => none) j
def FX4_scanWord (n : Nat) (v_length : Int32) (v_next : Int32) (v_type : Int32) (v_place : Int32) (v_word : Int64) (a_bytes : Nat → Int32) : Option (Unit × Int32 × Int32 × Int64) := FX4_scanWord_5L n v_length v_place a_bytes n v_next v_type (0 : Int64)
set_option maxHeartbeats 4000000 in
set_option maxRecDepth 100000 in
theorem kX4_scanWord (l : Launch) (D : va_G) (cB cI cJ cZ : ClassId) (rz n sz : Nat) (h_t : Nat) (h_bytes : Nat) (v_length : Int32) (v_next : Int32) (v_type : Int32) (v_place : Int32) (v_formerPlace : Int32) (v_word : Int64) (v_number : Int32) (a_bytes : Nat → Int32) (hN : FX4_scanWord n v_length v_next v_type v_place v_word a_bytes ≠ none) : Met l yX4_scanWord (Cond.code yX4_scanWord cX4_scanWord 2 none :: AL) rmX4_scanWord (PW D cB cI cJ cZ rz [.ref h_t] [(h_t, .inr (4, [.ref h_bytes, .int v_length, .int v_next, .int v_type, .int v_place, .int v_formerPlace, .long v_word, .int v_number])), (h_bytes, .inl (cB, 1200, .inl a_bytes))] sz) (QV D (FX4_scanWord n v_length v_next v_type v_place v_word a_bytes) (fun u => [(h_t, .inr (4, [.ref h_bytes, .int v_length, .int u.2.1, .int u.2.2.1, .int v_place, .int v_formerPlace, .long u.2.2.2, .int v_number])), (h_bytes, .inl (cB, 1200, .inl a_bytes))]) (va_A [(h_t, .inr (4, [.ref h_bytes, .int v_length, .int v_next, .int v_type, .int v_place, .int v_formerPlace, .long v_word, .int v_number])), (h_bytes, .inl (cB, 1200, .inl a_bytes))] sz)) 0 0 (va_A [(h_t, .inr (4, [.ref h_bytes, .int v_length, .int v_next, .int v_type, .int v_place, .int v_formerPlace, .long v_word, .int v_number])), (h_bytes, .inl (cB, 1200, .inl a_bytes))] sz) := by
  obtain ⟨O, hF⟩ : ∃ O, FX4_scanWord n v_length v_next v_type v_place v_word a_bytes = O := ⟨_, rfl⟩
  rw [hF] at hN ⊢
  refine enterV (cc := cX4_scanWord) (nL := 2) (by decide) (Nat.le_of_ble_eq_true rfl) ?_
  intro p e s m below meth c A Q X hA hE hnm hsz hP hD hS hret ls hl
  obtain ⟨hx, hb, hml, hown0, ha⟩ := id X
  have hown : s.vm.findClass RX4 = some m.cls := hown0
  have hK := hE.1
  have hl : lv_has ls 2 [(0, .ref h_t)] := hl
  have hX : CallFix p m c cX4_scanWord 2 s ([.ref h_t] : List Value).toArray AL RX4 := X
  have X := hX
  have L128 : ∀ (k93 : Int32 → Int32 → Int64 → Int32 → Option (Unit × Int32 × Int32 × Int64)) (ih93 : ∀ (v_next : Int32) (v_type : Int32) (v_word : Int64) (x1 : Int32) (H : Heap) (locs : List Loc) (ls : Array Slot), k93 v_next v_type v_word x1 = O → va_P D classes [(h_t, .inr (4, [.ref h_bytes, .int v_length, .int v_next, .int v_type, .int v_place, .int v_formerPlace, .long v_word, .int v_number])), (h_bytes, .inl (cB, 1200, .inl a_bytes))] H → va_D A [(h_t, .inr (4, [.ref h_bytes, .int v_length, .int v_next, .int v_type, .int v_place, .int v_formerPlace, .long v_word, .int v_number])), (h_bytes, .inl (cB, 1200, .inl a_bytes))] → va_S A s.heap H locs → lv_has ls 2 [(0, .ref h_t), (1, .int x1)] → W p l e rmX4_scanWord s m ([.ref h_t] : List Value).toArray below meth c H locs 0 0 Q (F0 m 93 ls [])), ∀ (v_next : Int32) (v_type : Int32) (v_word : Int64) (x1 : Int32) (H : Heap) (locs : List Loc) (ls : Array Slot), FX4_scanWord_128 n v_length v_place a_bytes k93 v_next v_type v_word x1 = O → va_P D classes [(h_t, .inr (4, [.ref h_bytes, .int v_length, .int v_next, .int v_type, .int v_place, .int v_formerPlace, .long v_word, .int v_number])), (h_bytes, .inl (cB, 1200, .inl a_bytes))] H → va_D A [(h_t, .inr (4, [.ref h_bytes, .int v_length, .int v_next, .int v_type, .int v_place, .int v_formerPlace, .long v_word, .int v_number])), (h_bytes, .inl (cB, 1200, .inl a_bytes))] → va_S A s.heap H locs → lv_has ls 2 [(0, .ref h_t), (1, .int x1)] → W p l e rmX4_scanWord s m ([.ref h_t] : List Value).toArray below meth c H locs 0 0 Q (F0 m 128 ls []) := by
    intro k93 ih93 v_next v_type v_word x1 H locs ls hF hP hD hS hl
    unfold FX4_scanWord_128 at hF
    obtain ⟨x_14, ex_14⟩ : ∃ y : Int32, y = x1 + (1 : Int32) := ⟨_, rfl⟩
    replace hF := ltP ex_14 hF
    refine lv_iinc (v := x_14) (lv' := [(1, .int x_14), (0, .ref h_t)]) hx hb dX4_scanWord_128 hl (k := 1) rfl (by rw [ex_14]; rfl) (by decide) rfl (fun ls hl => ?_)
    refine lv_goto (tgt := 93) hx hb dX4_scanWord_131 (by decide) ?_
    exact ih93 v_next v_type v_word x_14 H locs ls hF hP hD hS (lv_sub hl [1, 0] rfl)
  have L93 : ∀ (k93 : Int32 → Int32 → Int64 → Int32 → Option (Unit × Int32 × Int32 × Int64)) (ih93 : ∀ (v_next : Int32) (v_type : Int32) (v_word : Int64) (x1 : Int32) (H : Heap) (locs : List Loc) (ls : Array Slot), k93 v_next v_type v_word x1 = O → va_P D classes [(h_t, .inr (4, [.ref h_bytes, .int v_length, .int v_next, .int v_type, .int v_place, .int v_formerPlace, .long v_word, .int v_number])), (h_bytes, .inl (cB, 1200, .inl a_bytes))] H → va_D A [(h_t, .inr (4, [.ref h_bytes, .int v_length, .int v_next, .int v_type, .int v_place, .int v_formerPlace, .long v_word, .int v_number])), (h_bytes, .inl (cB, 1200, .inl a_bytes))] → va_S A s.heap H locs → lv_has ls 2 [(0, .ref h_t), (1, .int x1)] → W p l e rmX4_scanWord s m ([.ref h_t] : List Value).toArray below meth c H locs 0 0 Q (F0 m 93 ls [])), ∀ (v_next : Int32) (v_type : Int32) (v_word : Int64) (x1 : Int32) (H : Heap) (locs : List Loc) (ls : Array Slot), FX4_scanWord_93 n v_length v_place a_bytes k93 v_next v_type v_word x1 = O → va_P D classes [(h_t, .inr (4, [.ref h_bytes, .int v_length, .int v_next, .int v_type, .int v_place, .int v_formerPlace, .long v_word, .int v_number])), (h_bytes, .inl (cB, 1200, .inl a_bytes))] H → va_D A [(h_t, .inr (4, [.ref h_bytes, .int v_length, .int v_next, .int v_type, .int v_place, .int v_formerPlace, .long v_word, .int v_number])), (h_bytes, .inl (cB, 1200, .inl a_bytes))] → va_S A s.heap H locs → lv_has ls 2 [(0, .ref h_t), (1, .int x1)] → W p l e rmX4_scanWord s m ([.ref h_t] : List Value).toArray below meth c H locs 0 0 Q (F0 m 93 ls []) := by
    intro k93 ih93 v_next v_type v_word x1 H locs ls hF hP hD hS hl
    unfold FX4_scanWord_93 at hF
    refine lv_iload_n hx hb dX4_scanWord_93 rfl (lv_at hl 1 rfl) ?_
    refine va_gets hx hb hE.2.2.1 hS hown (ha _ w_2_71) (fun _ h => h) dX4_scanWord_94 ?_
    refine va_tlen (v := 7) hx hb hE.2.2.2 hS rfl dX4_scanWord_97 ?_
    refine lv_icmp_ge (tgt := 134) hx hb dX4_scanWord_98 (by decide) (fun c_10 => ?_) (fun c_10 => ?_)
    · replace hF := ifT c_10 hF
      exact hret ((), v_next, v_type, v_word) H locs ls _ hF hP hD hS dX4_scanWord_134
    · replace hF := ifF c_10 hF
      refine lv_aload_n hx hb dX4_scanWord_101 rfl (lv_at hl 0 rfl) ?_
      refine va_get (D := D) (ci := 4) (C := RX4) (T := TX4) (N := 8) hx hb ha inAX4 hown hK hP 0 rfl rfl 3 (by decide) (ha _ w_1_91) (fun _ h9 => h9) rfl dX4_scanWord_102 ?_
      refine lv_bipush (v := 7) hx hb dX4_scanWord_105 (by decide) ?_
      refine lv_icmp_ne (tgt := 134) hx hb dX4_scanWord_107 (by decide) (fun c_11 => ?_) (fun c_11 => ?_)
      · replace hF := ifF c_11 hF
        exact hret ((), v_next, v_type, v_word) H locs ls _ hF hP hD hS dX4_scanWord_134
      · replace hF := ifT c_11 hF
        refine va_gets hx hb hE.2.2.1 hS hown (ha _ w_2_71) (fun _ h => h) dX4_scanWord_110 ?_
        refine lv_iload_n hx hb dX4_scanWord_113 rfl (lv_at hl 1 rfl) ?_
        replace hF := ckP hN hF
        obtain ⟨c_12, hF⟩ := hF
        refine va_tl hx hb hE.2.2.2 hS (show vp_in (x1) 7 from c_12) (resv_L _) dX4_scanWord_114 ?_
        refine lv_aload_n hx hb dX4_scanWord_115 rfl (lv_at hl 0 rfl) ?_
        refine va_get (D := D) (ci := 4) (C := RX4) (T := TX4) (N := 8) hx hb ha inAX4 hown hK hP 0 rfl rfl 6 (by decide) (ha _ w_1_96) (fun _ h9 => h9) rfl dX4_scanWord_116 ?_
        refine W.lcmp hx hb dX4_scanWord_119 ?_
        refine lv_if_ne (tgt := 128) hx hb dX4_scanWord_120 (by decide) (fun c_13 => ?_) (fun c_13 => ?_)
        · replace hF := ifF c_13 hF
          exact L128 k93 ih93 v_next v_type v_word x1 H locs ls hF hP hD hS (lv_sub hl [0, 1] rfl)
        · replace hF := ifT c_13 hF
          refine lv_aload_n hx hb dX4_scanWord_123 rfl (lv_at hl 0 rfl) ?_
          refine lv_iload_n hx hb dX4_scanWord_124 rfl (lv_at hl 1 rfl) ?_
          refine pt (C := RX4) (T := TX4) (N := 8) (ci := 4) (v := .int x1) (W2 := [(h_t, .inr (4, [.ref h_bytes, .int v_length, .int v_next, .int x1, .int v_place, .int v_formerPlace, .long v_word, .int v_number])), (h_bytes, .inl (cB, 1200, .inl a_bytes))]) hx hb ha inAX4 tyX4 tyX4_ok nmX4 hown hK hP hD hS 0 rfl rfl 3 (by decide) (ha _ w_1_91) rfl rfl rfl rfl (Nat.le_of_ble_eq_true rfl) dX4_scanWord_125 rfl (fun H locs hP hD hS => ?_)
          exact L128 k93 ih93 v_next x1 v_word x1 H locs ls hF hP hD hS (lv_sub hl [0, 1] rfl)
  have Lc93 : ∀ (j : Nat), ∀ (v_next : Int32) (v_type : Int32) (v_word : Int64) (x1 : Int32) (H : Heap) (locs : List Loc) (ls : Array Slot), FX4_scanWord_93L n v_length v_place a_bytes j v_next v_type v_word x1 = O → va_P D classes [(h_t, .inr (4, [.ref h_bytes, .int v_length, .int v_next, .int v_type, .int v_place, .int v_formerPlace, .long v_word, .int v_number])), (h_bytes, .inl (cB, 1200, .inl a_bytes))] H → va_D A [(h_t, .inr (4, [.ref h_bytes, .int v_length, .int v_next, .int v_type, .int v_place, .int v_formerPlace, .long v_word, .int v_number])), (h_bytes, .inl (cB, 1200, .inl a_bytes))] → va_S A s.heap H locs → lv_has ls 2 [(0, .ref h_t), (1, .int x1)] → W p l e rmX4_scanWord s m ([.ref h_t] : List Value).toArray below meth c H locs 0 0 Q (F0 m 93 ls []) := by
    intro j
    induction j with
    | zero => intro _ _ _ _ H locs ls hF; exact absurd hF.symm hN
    | succ j ih => exact L93 (FX4_scanWord_93L n v_length v_place a_bytes j) ih
  have L88 : ∀ (v_next : Int32) (v_type : Int32) (v_word : Int64) (y0 : Int32) (H : Heap) (locs : List Loc) (ls : Array Slot), FX4_scanWord_88 n v_length v_place a_bytes v_next v_type v_word y0 = O → va_P D classes [(h_t, .inr (4, [.ref h_bytes, .int v_length, .int v_next, .int v_type, .int v_place, .int v_formerPlace, .long v_word, .int v_number])), (h_bytes, .inl (cB, 1200, .inl a_bytes))] H → va_D A [(h_t, .inr (4, [.ref h_bytes, .int v_length, .int v_next, .int v_type, .int v_place, .int v_formerPlace, .long v_word, .int v_number])), (h_bytes, .inl (cB, 1200, .inl a_bytes))] → va_S A s.heap H locs → lv_has ls 2 [(0, .ref h_t)] → W p l e rmX4_scanWord s m ([.ref h_t] : List Value).toArray below meth c H locs 0 0 Q (F0 m 88 ls [.int y0, .ref h_t]) := by
    intro v_next v_type v_word y0 H locs ls hF hP hD hS hl
    unfold FX4_scanWord_88 at hF
    refine pt (C := RX4) (T := TX4) (N := 8) (ci := 4) (v := .int y0) (W2 := [(h_t, .inr (4, [.ref h_bytes, .int v_length, .int v_next, .int y0, .int v_place, .int v_formerPlace, .long v_word, .int v_number])), (h_bytes, .inl (cB, 1200, .inl a_bytes))]) hx hb ha inAX4 tyX4 tyX4_ok nmX4 hown hK hP hD hS 0 rfl rfl 3 (by decide) (ha _ w_1_91) rfl rfl rfl rfl (Nat.le_of_ble_eq_true rfl) dX4_scanWord_88 rfl (fun H locs hP hD hS => ?_)
    refine lv_iconst (v := 0) hx hb dX4_scanWord_91 (by decide) ?_
    refine lv_istore_n (lv' := [(1, .int (0 : Int32)), (0, .ref h_t)]) hx hb dX4_scanWord_92 rfl hl (by decide) rfl (fun ls hl => ?_)
    exact Lc93 n v_next y0 v_word (0 : Int32) H locs ls hF hP hD hS (lv_sub hl [1, 0] rfl)
  have L66 : ∀ (v_next : Int32) (v_type : Int32) (v_word : Int64) (H : Heap) (locs : List Loc) (ls : Array Slot), FX4_scanWord_66 n v_length v_place a_bytes v_next v_type v_word = O → va_P D classes [(h_t, .inr (4, [.ref h_bytes, .int v_length, .int v_next, .int v_type, .int v_place, .int v_formerPlace, .long v_word, .int v_number])), (h_bytes, .inl (cB, 1200, .inl a_bytes))] H → va_D A [(h_t, .inr (4, [.ref h_bytes, .int v_length, .int v_next, .int v_type, .int v_place, .int v_formerPlace, .long v_word, .int v_number])), (h_bytes, .inl (cB, 1200, .inl a_bytes))] → va_S A s.heap H locs → lv_has ls 2 [(0, .ref h_t)] → W p l e rmX4_scanWord s m ([.ref h_t] : List Value).toArray below meth c H locs 0 0 Q (F0 m 66 ls []) := by
    intro v_next v_type v_word H locs ls hF hP hD hS hl
    unfold FX4_scanWord_66 at hF
    refine lv_aload_n hx hb dX4_scanWord_66 rfl (lv_at hl 0 rfl) ?_
    refine lv_aload_n hx hb dX4_scanWord_67 rfl (lv_at hl 0 rfl) ?_
    refine va_get (D := D) (ci := 4) (C := RX4) (T := TX4) (N := 8) hx hb ha inAX4 hown hK hP 0 rfl rfl 2 (by decide) (ha _ w_1_89) (fun _ h9 => h9) rfl dX4_scanWord_68 ?_
    refine lv_aload_n hx hb dX4_scanWord_71 rfl (lv_at hl 0 rfl) ?_
    refine va_get (D := D) (ci := 4) (C := RX4) (T := TX4) (N := 8) hx hb ha inAX4 hown hK hP 0 rfl rfl 4 (by decide) (ha _ w_1_92) (fun _ h9 => h9) rfl dX4_scanWord_72 ?_
    refine lv_isub hx hb dX4_scanWord_75 ?_
    refine lv_bipush (v := 8) hx hb dX4_scanWord_76 (by decide) ?_
    refine lv_icmp_le (tgt := 86) hx hb dX4_scanWord_78 (by decide) (fun c_9 => ?_) (fun c_9 => ?_)
    · replace hF := ifT c_9 hF
      refine lv_bipush (v := 7) hx hb dX4_scanWord_86 (by decide) ?_
      exact L88 v_next v_type v_word (7 : Int32) H locs ls hF hP hD hS (lv_sub hl [0] rfl)
    · replace hF := ifF c_9 hF
      refine lv_bipush (v := 11) hx hb dX4_scanWord_81 (by decide) ?_
      refine lv_goto (tgt := 88) hx hb dX4_scanWord_83 (by decide) ?_
      exact L88 v_next v_type v_word (11 : Int32) H locs ls hF hP hD hS (lv_sub hl [0] rfl)
  have L5 : ∀ (k5 : Int32 → Int32 → Int64 → Option (Unit × Int32 × Int32 × Int64)) (ih5 : ∀ (v_next : Int32) (v_type : Int32) (v_word : Int64) (H : Heap) (locs : List Loc) (ls : Array Slot), k5 v_next v_type v_word = O → va_P D classes [(h_t, .inr (4, [.ref h_bytes, .int v_length, .int v_next, .int v_type, .int v_place, .int v_formerPlace, .long v_word, .int v_number])), (h_bytes, .inl (cB, 1200, .inl a_bytes))] H → va_D A [(h_t, .inr (4, [.ref h_bytes, .int v_length, .int v_next, .int v_type, .int v_place, .int v_formerPlace, .long v_word, .int v_number])), (h_bytes, .inl (cB, 1200, .inl a_bytes))] → va_S A s.heap H locs → lv_has ls 2 [(0, .ref h_t)] → W p l e rmX4_scanWord s m ([.ref h_t] : List Value).toArray below meth c H locs 0 0 Q (F0 m 5 ls [])), ∀ (v_next : Int32) (v_type : Int32) (v_word : Int64) (H : Heap) (locs : List Loc) (ls : Array Slot), FX4_scanWord_5 n v_length v_place a_bytes k5 v_next v_type v_word = O → va_P D classes [(h_t, .inr (4, [.ref h_bytes, .int v_length, .int v_next, .int v_type, .int v_place, .int v_formerPlace, .long v_word, .int v_number])), (h_bytes, .inl (cB, 1200, .inl a_bytes))] H → va_D A [(h_t, .inr (4, [.ref h_bytes, .int v_length, .int v_next, .int v_type, .int v_place, .int v_formerPlace, .long v_word, .int v_number])), (h_bytes, .inl (cB, 1200, .inl a_bytes))] → va_S A s.heap H locs → lv_has ls 2 [(0, .ref h_t)] → W p l e rmX4_scanWord s m ([.ref h_t] : List Value).toArray below meth c H locs 0 0 Q (F0 m 5 ls []) := by
    intro k5 ih5 v_next v_type v_word H locs ls hF hP hD hS hl
    unfold FX4_scanWord_5 at hF
    refine lv_aload_n hx hb dX4_scanWord_5 rfl (lv_at hl 0 rfl) ?_
    refine va_get (D := D) (ci := 4) (C := RX4) (T := TX4) (N := 8) hx hb ha inAX4 hown hK hP 0 rfl rfl 2 (by decide) (ha _ w_1_89) (fun _ h9 => h9) rfl dX4_scanWord_6 ?_
    refine lv_aload_n hx hb dX4_scanWord_9 rfl (lv_at hl 0 rfl) ?_
    refine va_get (D := D) (ci := 4) (C := RX4) (T := TX4) (N := 8) hx hb ha inAX4 hown hK hP 0 rfl rfl 1 (by decide) (ha _ w_1_87) (fun _ h9 => h9) rfl dX4_scanWord_10 ?_
    refine lv_icmp_ge (tgt := 66) hx hb dX4_scanWord_13 (by decide) (fun c_1 => ?_) (fun c_1 => ?_)
    · replace hF := ifT c_1 hF
      exact L66 v_next v_type v_word H locs ls hF hP hD hS (lv_sub hl [0] rfl)
    · replace hF := ifF c_1 hF
      refine lv_aload_n hx hb dX4_scanWord_16 rfl (lv_at hl 0 rfl) ?_
      refine va_get (D := D) (ci := 4) (C := RX4) (T := TX4) (N := 8) hx hb ha inAX4 hown hK hP 0 rfl rfl 0 (by decide) (ha _ w_1_86) (fun _ h9 => h9) rfl dX4_scanWord_17 ?_
      refine lv_aload_n hx hb dX4_scanWord_20 rfl (lv_at hl 0 rfl) ?_
      refine va_get (D := D) (ci := 4) (C := RX4) (T := TX4) (N := 8) hx hb ha inAX4 hown hK hP 0 rfl rfl 2 (by decide) (ha _ w_1_89) (fun _ h9 => h9) rfl dX4_scanWord_21 ?_
      replace hF := ckP hN hF
      obtain ⟨c_2, hF⟩ := hF
      refine ld_b hx hb hK hP 1 rfl c_2 dX4_scanWord_24 ?_
      have hn_3 := bdN hN hF
      refine callSZ (As := [.int (a_bytes (v_next).toNatClampNeg)]) (rest := []) (wr := [(h_t, .inr (4, [.ref h_bytes, .int v_length, .int v_next, .int v_type, .int v_place, .int v_formerPlace, .long v_word, .int v_number])), (h_bytes, .inl (cB, 1200, .inl a_bytes))]) (W2 := fun u_4 => [(h_t, .inr (4, [.ref h_bytes, .int v_length, .int v_next, .int v_type, .int v_place, .int v_formerPlace, .long v_word, .int v_number])), (h_bytes, .inl (cB, 1200, .inl a_bytes))]) X hE hP hD hS hA (kX4_isLetter l D cB cI cJ cZ rz n H.size (a_bytes (v_next).toNatClampNeg) hn_3) w_2_64 w_2_65 w_1_4 w_2_66 cb_X4_isLetter rfl rfl ⟨Nat.le_of_ble_eq_true rfl, Nat.le_of_ble_eq_true rfl⟩ rfl hl.1 rfl (Nat.le_of_ble_eq_true rfl) dX4_scanWord_25 ⟨Nat.le_of_ble_eq_true rfl, Nat.le_of_ble_eq_true rfl⟩ (c2 := 0) (s2 := 0) rfl rfl [] [0, 1] [0, 1] rfl rfl (by decide) (by decide) (by decide) (by decide) (fun _ => rfl) (fun u_4 H locs hG hzu_4 hP hD hS => ?_)
      replace hF := bdQ hG hF
      refine lv_if_eq (tgt := 66) hx hb dX4_scanWord_28 (by decide) (fun c_5 => ?_) (fun c_5 => ?_)
      · replace hF := ifT c_5 hF
        exact L66 v_next v_type v_word H locs ls hF hP hD hS (lv_sub hl [0] rfl)
      · replace hF := ifF c_5 hF
        refine lv_aload_n hx hb dX4_scanWord_31 rfl (lv_at hl 0 rfl) ?_
        refine lv_aload_n hx hb dX4_scanWord_32 rfl (lv_at hl 0 rfl) ?_
        refine va_get (D := D) (ci := 4) (C := RX4) (T := TX4) (N := 8) hx hb ha inAX4 hown hK hP 0 rfl rfl 6 (by decide) (ha _ w_1_96) (fun _ h9 => h9) rfl dX4_scanWord_33 ?_
        refine lv_bipush (v := 8) hx hb dX4_scanWord_36 (by decide) ?_
        refine lv_lshl hx hb dX4_scanWord_38 rfl ?_
        refine lv_aload_n hx hb dX4_scanWord_39 rfl (lv_at hl 0 rfl) ?_
        refine va_get (D := D) (ci := 4) (C := RX4) (T := TX4) (N := 8) hx hb ha inAX4 hown hK hP 0 rfl rfl 0 (by decide) (ha _ w_1_86) (fun _ h9 => h9) rfl dX4_scanWord_40 ?_
        refine lv_aload_n hx hb dX4_scanWord_43 rfl (lv_at hl 0 rfl) ?_
        refine va_get (D := D) (ci := 4) (C := RX4) (T := TX4) (N := 8) hx hb ha inAX4 hown hK hP 0 rfl rfl 2 (by decide) (ha _ w_1_89) (fun _ h9 => h9) rfl dX4_scanWord_44 ?_
        replace hF := ckP hN hF
        obtain ⟨c_6, hF⟩ := hF
        refine ld_b hx hb hK hP 1 rfl c_6 dX4_scanWord_47 ?_
        refine lv_i2l hx hb dX4_scanWord_48 rfl ?_
        refine lv_lor hx hb dX4_scanWord_49 ?_
        refine lv_topl (fun x_7 ex_7 => ?_)
        replace hF := ltP ex_7 hF
        refine pt (C := RX4) (T := TX4) (N := 8) (ci := 4) (v := .long x_7) (W2 := [(h_t, .inr (4, [.ref h_bytes, .int v_length, .int v_next, .int v_type, .int v_place, .int v_formerPlace, .long x_7, .int v_number])), (h_bytes, .inl (cB, 1200, .inl a_bytes))]) hx hb ha inAX4 tyX4 tyX4_ok nmX4 hown hK hP hD hS 0 rfl rfl 6 (by decide) (ha _ w_1_96) rfl rfl rfl rfl (Nat.le_of_ble_eq_true rfl) dX4_scanWord_50 rfl (fun H locs hP hD hS => ?_)
        refine lv_aload_n hx hb dX4_scanWord_53 rfl (lv_at hl 0 rfl) ?_
        refine lv_dup hx hb dX4_scanWord_54 rfl ?_
        refine va_get (D := D) (ci := 4) (C := RX4) (T := TX4) (N := 8) hx hb ha inAX4 hown hK hP 0 rfl rfl 2 (by decide) (ha _ w_1_89) (fun _ h9 => h9) rfl dX4_scanWord_55 ?_
        refine lv_iconst (v := 1) hx hb dX4_scanWord_58 (by decide) ?_
        refine lv_iadd hx hb dX4_scanWord_59 ?_
        refine lv_topi (fun x_8 ex_8 => ?_)
        replace hF := ltP ex_8 hF
        refine pt (C := RX4) (T := TX4) (N := 8) (ci := 4) (v := .int x_8) (W2 := [(h_t, .inr (4, [.ref h_bytes, .int v_length, .int x_8, .int v_type, .int v_place, .int v_formerPlace, .long x_7, .int v_number])), (h_bytes, .inl (cB, 1200, .inl a_bytes))]) hx hb ha inAX4 tyX4 tyX4_ok nmX4 hown hK hP hD hS 0 rfl rfl 2 (by decide) (ha _ w_1_89) rfl rfl rfl rfl (Nat.le_of_ble_eq_true rfl) dX4_scanWord_60 rfl (fun H locs hP hD hS => ?_)
        refine lv_goto (tgt := 5) hx hb dX4_scanWord_63 (by decide) ?_
        exact ih5 x_8 v_type x_7 H locs ls hF hP hD hS (lv_sub hl [0] rfl)
  have Lc5 : ∀ (j : Nat), ∀ (v_next : Int32) (v_type : Int32) (v_word : Int64) (H : Heap) (locs : List Loc) (ls : Array Slot), FX4_scanWord_5L n v_length v_place a_bytes j v_next v_type v_word = O → va_P D classes [(h_t, .inr (4, [.ref h_bytes, .int v_length, .int v_next, .int v_type, .int v_place, .int v_formerPlace, .long v_word, .int v_number])), (h_bytes, .inl (cB, 1200, .inl a_bytes))] H → va_D A [(h_t, .inr (4, [.ref h_bytes, .int v_length, .int v_next, .int v_type, .int v_place, .int v_formerPlace, .long v_word, .int v_number])), (h_bytes, .inl (cB, 1200, .inl a_bytes))] → va_S A s.heap H locs → lv_has ls 2 [(0, .ref h_t)] → W p l e rmX4_scanWord s m ([.ref h_t] : List Value).toArray below meth c H locs 0 0 Q (F0 m 5 ls []) := by
    intro j
    induction j with
    | zero => intro _ _ _ H locs ls hF; exact absurd hF.symm hN
    | succ j ih => exact L5 (FX4_scanWord_5L n v_length v_place a_bytes j) ih
  unfold FX4_scanWord at hF
  obtain ⟨H, hH⟩ : ∃ H, H = s.heap := ⟨_, rfl⟩
  obtain ⟨locs, hlo⟩ : ∃ locs : List Loc, locs = [] := ⟨_, rfl⟩
  have hS : va_S A s.heap H locs := by rw [hH, hlo]; exact hS
  rw [← hH] at hP
  have goal : W p l e rmX4_scanWord s m ([.ref h_t] : List Value).toArray below meth c H locs 0 0 Q (F0 m 0 ls []) := by
    refine lv_aload_n hx hb dX4_scanWord_0 rfl (lv_at hl 0 rfl) ?_
    refine lv_lconst (v := 0) hx hb dX4_scanWord_1 (by decide) ?_
    refine pt (C := RX4) (T := TX4) (N := 8) (ci := 4) (v := .long (0 : Int64)) (W2 := [(h_t, .inr (4, [.ref h_bytes, .int v_length, .int v_next, .int v_type, .int v_place, .int v_formerPlace, .long (0 : Int64), .int v_number])), (h_bytes, .inl (cB, 1200, .inl a_bytes))]) hx hb ha inAX4 tyX4 tyX4_ok nmX4 hown hK hP hD hS 0 rfl rfl 6 (by decide) (ha _ w_1_96) rfl rfl rfl rfl (Nat.le_of_ble_eq_true rfl) dX4_scanWord_2 rfl (fun H locs hP hD hS => ?_)
    exact Lc5 n v_next v_type (0 : Int64) H locs ls hF hP hD hS (lv_sub hl [0] rfl)
  rw [hH, hlo] at goal
  exact goal
theorem dX4_isDigit_0 : decode cX4_isDigit 0 = .ok (.iload_n 0, 1) := by decide +kernel
theorem dX4_isDigit_1 : decode cX4_isDigit 1 = .ok (.bipush 48, 2) := by decide +kernel
theorem dX4_isDigit_3 : decode cX4_isDigit 3 = .ok (.if_icmp .lt 13, 3) := by decide +kernel
theorem dX4_isDigit_6 : decode cX4_isDigit 6 = .ok (.iload_n 0, 1) := by decide +kernel
theorem dX4_isDigit_7 : decode cX4_isDigit 7 = .ok (.bipush 57, 2) := by decide +kernel
theorem dX4_isDigit_9 : decode cX4_isDigit 9 = .ok (.if_icmp .gt 7, 3) := by decide +kernel
theorem dX4_isDigit_12 : decode cX4_isDigit 12 = .ok (.iconst 1, 1) := by decide +kernel
theorem dX4_isDigit_13 : decode cX4_isDigit 13 = .ok (.goto 4, 3) := by decide +kernel
theorem dX4_isDigit_16 : decode cX4_isDigit 16 = .ok (.iconst 0, 1) := by decide +kernel
theorem dX4_isDigit_17 : decode cX4_isDigit 17 = .ok (.ireturn, 1) := by decide +kernel
abbrev rmX4_isDigit : Room := { frames := 0, cells := 0, slots := 0, locals := 0 }
theorem cb_X4_isDigit : CBn yX4_isDigit 1 := ⟨by decide +kernel, by decide +kernel, by decide +kernel⟩
def FX4_isDigit (n : Nat) (z0 : Int32) : Option (Int32 × Unit) := if z0 < (48 : Int32) then (some ((0 : Int32), ())) else (if (57 : Int32) < z0 then (some ((0 : Int32), ())) else (some ((1 : Int32), ())))
set_option maxHeartbeats 4000000 in
set_option maxRecDepth 100000 in
theorem kX4_isDigit (l : Launch) (D : va_G) (cB cI cJ cZ : ClassId) (rz n sz : Nat) (z0 : Int32) (hN : FX4_isDigit n z0 ≠ none) : Met l yX4_isDigit (Cond.code yX4_isDigit cX4_isDigit 1 (some .boolean) :: AL) rmX4_isDigit (PW D cB cI cJ cZ rz [.int z0] [] sz) (QZ D (FX4_isDigit n z0) (fun u => []) (va_A [] sz)) 0 0 (va_A [] sz) := by
  obtain ⟨O, hF⟩ : ∃ O, FX4_isDigit n z0 = O := ⟨_, rfl⟩
  rw [hF] at hN ⊢
  refine enterZ (cc := cX4_isDigit) (nL := 1) (by decide) (Nat.le_of_ble_eq_true rfl) ?_
  intro p e s m below meth c A Q X hA hE hnm hsz hP hD hS hret ls hl
  obtain ⟨hx, hb, hml, hown0, ha⟩ := id X
  have hown : s.vm.findClass RX4 = some m.cls := hown0
  have hK := hE.1
  have hl : lv_has ls 1 [(0, .int z0)] := hl
  have hX : CallFix p m c cX4_isDigit 1 s ([.int z0] : List Value).toArray AL RX4 := X
  have X := hX
  unfold FX4_isDigit at hF
  obtain ⟨H, hH⟩ : ∃ H, H = s.heap := ⟨_, rfl⟩
  obtain ⟨locs, hlo⟩ : ∃ locs : List Loc, locs = [] := ⟨_, rfl⟩
  have hS : va_S A s.heap H locs := by rw [hH, hlo]; exact hS
  rw [← hH] at hP
  have goal : W p l e rmX4_isDigit s m ([.int z0] : List Value).toArray below meth c H locs 0 0 Q (F0 m 0 ls []) := by
    refine lv_iload_n hx hb dX4_isDigit_0 rfl (lv_at hl 0 rfl) ?_
    refine lv_bipush (v := 48) hx hb dX4_isDigit_1 (by decide) ?_
    refine lv_icmp_lt (tgt := 16) hx hb dX4_isDigit_3 (by decide) (fun c_1 => ?_) (fun c_1 => ?_)
    · replace hF := ifT c_1 hF
      refine lv_iconst (v := 0) hx hb dX4_isDigit_16 (by decide) ?_
      exact hret ((0 : Int32), ()) H locs ls _ hF nz0 hP hD hS dX4_isDigit_17
    · replace hF := ifF c_1 hF
      refine lv_iload_n hx hb dX4_isDigit_6 rfl (lv_at hl 0 rfl) ?_
      refine lv_bipush (v := 57) hx hb dX4_isDigit_7 (by decide) ?_
      refine lv_icmp_gt (tgt := 16) hx hb dX4_isDigit_9 (by decide) (fun c_2 => ?_) (fun c_2 => ?_)
      · replace hF := ifT c_2 hF
        refine lv_iconst (v := 0) hx hb dX4_isDigit_16 (by decide) ?_
        exact hret ((0 : Int32), ()) H locs ls _ hF nz0 hP hD hS dX4_isDigit_17
      · replace hF := ifF c_2 hF
        refine lv_iconst (v := 1) hx hb dX4_isDigit_12 (by decide) ?_
        refine lv_goto (tgt := 17) hx hb dX4_isDigit_13 (by decide) ?_
        exact hret ((1 : Int32), ()) H locs ls _ hF nz1 hP hD hS dX4_isDigit_17
  rw [hH, hlo] at goal
  exact goal
theorem dX4_scanNumber_0 : decode cX4_scanNumber 0 = .ok (.aload_n 0, 1) := by decide +kernel
theorem dX4_scanNumber_1 : decode cX4_scanNumber 1 = .ok (.iconst 0, 1) := by decide +kernel
theorem dX4_scanNumber_2 : decode cX4_scanNumber 2 = .ok (.putfield 55, 3) := by decide +kernel
theorem dX4_scanNumber_5 : decode cX4_scanNumber 5 = .ok (.aload_n 0, 1) := by decide +kernel
theorem dX4_scanNumber_6 : decode cX4_scanNumber 6 = .ok (.getfield 19, 3) := by decide +kernel
theorem dX4_scanNumber_9 : decode cX4_scanNumber 9 = .ok (.aload_n 0, 1) := by decide +kernel
theorem dX4_scanNumber_10 : decode cX4_scanNumber 10 = .ok (.getfield 15, 3) := by decide +kernel
theorem dX4_scanNumber_13 : decode cX4_scanNumber 13 = .ok (.if_icmp .ge 55, 3) := by decide +kernel
theorem dX4_scanNumber_16 : decode cX4_scanNumber 16 = .ok (.aload_n 0, 1) := by decide +kernel
theorem dX4_scanNumber_17 : decode cX4_scanNumber 17 = .ok (.getfield 9, 3) := by decide +kernel
theorem dX4_scanNumber_20 : decode cX4_scanNumber 20 = .ok (.aload_n 0, 1) := by decide +kernel
theorem dX4_scanNumber_21 : decode cX4_scanNumber 21 = .ok (.getfield 19, 3) := by decide +kernel
theorem dX4_scanNumber_24 : decode cX4_scanNumber 24 = .ok (.baload, 1) := by decide +kernel
theorem dX4_scanNumber_25 : decode cX4_scanNumber 25 = .ok (.invokestatic 41, 3) := by decide +kernel
theorem dX4_scanNumber_28 : decode cX4_scanNumber 28 = .ok (.ifCond .eq 40, 3) := by decide +kernel
theorem dX4_scanNumber_31 : decode cX4_scanNumber 31 = .ok (.aload_n 0, 1) := by decide +kernel
theorem dX4_scanNumber_32 : decode cX4_scanNumber 32 = .ok (.aload_n 0, 1) := by decide +kernel
theorem dX4_scanNumber_33 : decode cX4_scanNumber 33 = .ok (.getfield 55, 3) := by decide +kernel
theorem dX4_scanNumber_36 : decode cX4_scanNumber 36 = .ok (.bipush 10, 2) := by decide +kernel
theorem dX4_scanNumber_38 : decode cX4_scanNumber 38 = .ok (.imul, 1) := by decide +kernel
theorem dX4_scanNumber_39 : decode cX4_scanNumber 39 = .ok (.aload_n 0, 1) := by decide +kernel
theorem dX4_scanNumber_40 : decode cX4_scanNumber 40 = .ok (.getfield 9, 3) := by decide +kernel
theorem dX4_scanNumber_43 : decode cX4_scanNumber 43 = .ok (.aload_n 0, 1) := by decide +kernel
theorem dX4_scanNumber_44 : decode cX4_scanNumber 44 = .ok (.getfield 19, 3) := by decide +kernel
theorem dX4_scanNumber_47 : decode cX4_scanNumber 47 = .ok (.baload, 1) := by decide +kernel
theorem dX4_scanNumber_48 : decode cX4_scanNumber 48 = .ok (.bipush 48, 2) := by decide +kernel
theorem dX4_scanNumber_50 : decode cX4_scanNumber 50 = .ok (.isub, 1) := by decide +kernel
theorem dX4_scanNumber_51 : decode cX4_scanNumber 51 = .ok (.iadd, 1) := by decide +kernel
theorem dX4_scanNumber_52 : decode cX4_scanNumber 52 = .ok (.putfield 55, 3) := by decide +kernel
theorem dX4_scanNumber_55 : decode cX4_scanNumber 55 = .ok (.aload_n 0, 1) := by decide +kernel
theorem dX4_scanNumber_56 : decode cX4_scanNumber 56 = .ok (.dup, 1) := by decide +kernel
theorem dX4_scanNumber_57 : decode cX4_scanNumber 57 = .ok (.getfield 19, 3) := by decide +kernel
theorem dX4_scanNumber_60 : decode cX4_scanNumber 60 = .ok (.iconst 1, 1) := by decide +kernel
theorem dX4_scanNumber_61 : decode cX4_scanNumber 61 = .ok (.iadd, 1) := by decide +kernel
theorem dX4_scanNumber_62 : decode cX4_scanNumber 62 = .ok (.putfield 19, 3) := by decide +kernel
theorem dX4_scanNumber_65 : decode cX4_scanNumber 65 = .ok (.goto (-60), 3) := by decide +kernel
theorem dX4_scanNumber_68 : decode cX4_scanNumber 68 = .ok (.aload_n 0, 1) := by decide +kernel
theorem dX4_scanNumber_69 : decode cX4_scanNumber 69 = .ok (.getfield 19, 3) := by decide +kernel
theorem dX4_scanNumber_72 : decode cX4_scanNumber 72 = .ok (.aload_n 0, 1) := by decide +kernel
theorem dX4_scanNumber_73 : decode cX4_scanNumber 73 = .ok (.getfield 15, 3) := by decide +kernel
theorem dX4_scanNumber_76 : decode cX4_scanNumber 76 = .ok (.if_icmp .ge 22, 3) := by decide +kernel
theorem dX4_scanNumber_79 : decode cX4_scanNumber 79 = .ok (.aload_n 0, 1) := by decide +kernel
theorem dX4_scanNumber_80 : decode cX4_scanNumber 80 = .ok (.getfield 9, 3) := by decide +kernel
theorem dX4_scanNumber_83 : decode cX4_scanNumber 83 = .ok (.aload_n 0, 1) := by decide +kernel
theorem dX4_scanNumber_84 : decode cX4_scanNumber 84 = .ok (.getfield 19, 3) := by decide +kernel
theorem dX4_scanNumber_87 : decode cX4_scanNumber 87 = .ok (.baload, 1) := by decide +kernel
theorem dX4_scanNumber_88 : decode cX4_scanNumber 88 = .ok (.invokestatic 34, 3) := by decide +kernel
theorem dX4_scanNumber_91 : decode cX4_scanNumber 91 = .ok (.ifCond .eq 7, 3) := by decide +kernel
theorem dX4_scanNumber_94 : decode cX4_scanNumber 94 = .ok (.iconst 1, 1) := by decide +kernel
theorem dX4_scanNumber_95 : decode cX4_scanNumber 95 = .ok (.goto 4, 3) := by decide +kernel
theorem dX4_scanNumber_98 : decode cX4_scanNumber 98 = .ok (.iconst 0, 1) := by decide +kernel
theorem dX4_scanNumber_99 : decode cX4_scanNumber 99 = .ok (.istore_n 1, 1) := by decide +kernel
theorem dX4_scanNumber_100 : decode cX4_scanNumber 100 = .ok (.aload_n 0, 1) := by decide +kernel
theorem dX4_scanNumber_101 : decode cX4_scanNumber 101 = .ok (.iload_n 1, 1) := by decide +kernel
theorem dX4_scanNumber_102 : decode cX4_scanNumber 102 = .ok (.ifCond .ne 16, 3) := by decide +kernel
theorem dX4_scanNumber_105 : decode cX4_scanNumber 105 = .ok (.aload_n 0, 1) := by decide +kernel
theorem dX4_scanNumber_106 : decode cX4_scanNumber 106 = .ok (.getfield 19, 3) := by decide +kernel
theorem dX4_scanNumber_109 : decode cX4_scanNumber 109 = .ok (.aload_n 0, 1) := by decide +kernel
theorem dX4_scanNumber_110 : decode cX4_scanNumber 110 = .ok (.getfield 22, 3) := by decide +kernel
theorem dX4_scanNumber_113 : decode cX4_scanNumber 113 = .ok (.isub, 1) := by decide +kernel
theorem dX4_scanNumber_114 : decode cX4_scanNumber 114 = .ok (.iconst 5, 1) := by decide +kernel
theorem dX4_scanNumber_115 : decode cX4_scanNumber 115 = .ok (.if_icmp .le 8, 3) := by decide +kernel
theorem dX4_scanNumber_118 : decode cX4_scanNumber 118 = .ok (.bipush 11, 2) := by decide +kernel
theorem dX4_scanNumber_120 : decode cX4_scanNumber 120 = .ok (.goto 5, 3) := by decide +kernel
theorem dX4_scanNumber_123 : decode cX4_scanNumber 123 = .ok (.bipush 8, 2) := by decide +kernel
theorem dX4_scanNumber_125 : decode cX4_scanNumber 125 = .ok (.putfield 31, 3) := by decide +kernel
theorem dX4_scanNumber_128 : decode cX4_scanNumber 128 = .ok (.return_, 1) := by decide +kernel
abbrev rmX4_scanNumber : Room := { frames := 1, cells := 0, slots := 0, locals := 20 }
theorem cb_X4_scanNumber : CBn yX4_scanNumber 0 := ⟨by decide +kernel, by decide +kernel, by decide +kernel⟩
def FX4_scanNumber_118 (n : Nat) (v_length : Int32) (v_place : Int32) (a_bytes : Nat → Int32) (v_next : Int32) (v_type : Int32) (v_number : Int32) : Option (Unit × Int32 × Int32 × Int32) := some ((), v_next, (11 : Int32), v_number)
def FX4_scanNumber_99 (n : Nat) (v_length : Int32) (v_place : Int32) (a_bytes : Nat → Int32) (v_next : Int32) (v_type : Int32) (v_number : Int32) (y0 : Int32) : Option (Unit × Int32 × Int32 × Int32) := if y0 = 0 then (if (v_next - v_place) ≤ (5 : Int32) then (some ((), v_next, (8 : Int32), v_number)) else (FX4_scanNumber_118 n v_length v_place a_bytes v_next v_type v_number)) else (FX4_scanNumber_118 n v_length v_place a_bytes v_next v_type v_number)
def FX4_scanNumber_98 (n : Nat) (v_length : Int32) (v_place : Int32) (a_bytes : Nat → Int32) (v_next : Int32) (v_type : Int32) (v_number : Int32) : Option (Unit × Int32 × Int32 × Int32) := FX4_scanNumber_99 n v_length v_place a_bytes v_next v_type v_number (0 : Int32)
def FX4_scanNumber_68 (n : Nat) (v_length : Int32) (v_place : Int32) (a_bytes : Nat → Int32) (v_next : Int32) (v_type : Int32) (v_number : Int32) : Option (Unit × Int32 × Int32 × Int32) := if v_length ≤ v_next then (FX4_scanNumber_98 n v_length v_place a_bytes v_next v_type v_number) else (if ¬ (v_next < 0 ∨ 1200 ≤ (v_next).toNatClampNeg) then (bd (FX4_isLetter n (a_bytes (v_next).toNatClampNeg)) (fun u_12 => if u_12.1 = 0 then (FX4_scanNumber_98 n v_length v_place a_bytes v_next v_type v_number) else (FX4_scanNumber_99 n v_length v_place a_bytes v_next v_type v_number (1 : Int32)))) else none)
def FX4_scanNumber_5 (n : Nat) (v_length : Int32) (v_place : Int32) (a_bytes : Nat → Int32) (k5 : Int32 → Int32 → Int32 → Option (Unit × Int32 × Int32 × Int32)) (v_next : Int32) (v_type : Int32) (v_number : Int32) : Option (Unit × Int32 × Int32 × Int32) := if v_length ≤ v_next then (FX4_scanNumber_68 n v_length v_place a_bytes v_next v_type v_number) else (if ¬ (v_next < 0 ∨ 1200 ≤ (v_next).toNatClampNeg) then (bd (FX4_isDigit n (a_bytes (v_next).toNatClampNeg)) (fun u_4 => if u_4.1 = 0 then (FX4_scanNumber_68 n v_length v_place a_bytes v_next v_type v_number) else (if ¬ (v_next < 0 ∨ 1200 ≤ (v_next).toNatClampNeg) then (lt1 ((v_number * (10 : Int32)) + ((a_bytes (v_next).toNatClampNeg) - (48 : Int32))) (fun x_7 => lt1 (v_next + (1 : Int32)) (fun x_8 => k5 x_8 v_type x_7))) else none))) else none)
def FX4_scanNumber_5L (n : Nat) (v_length : Int32) (v_place : Int32) (a_bytes : Nat → Int32) (j : Nat) : Int32 → Int32 → Int32 → Option (Unit × Int32 × Int32 × Int32) := lpR (FX4_scanNumber_5 n v_length v_place a_bytes) (fun _ _ _ => none) j
def FX4_scanNumber (n : Nat) (v_length : Int32) (v_next : Int32) (v_type : Int32) (v_place : Int32) (v_number : Int32) (a_bytes : Nat → Int32) : Option (Unit × Int32 × Int32 × Int32) := FX4_scanNumber_5L n v_length v_place a_bytes n v_next v_type (0 : Int32)
set_option maxHeartbeats 4000000 in
set_option maxRecDepth 100000 in
theorem kX4_scanNumber (l : Launch) (D : va_G) (cB cI cJ cZ : ClassId) (rz n sz : Nat) (h_t : Nat) (h_bytes : Nat) (v_length : Int32) (v_next : Int32) (v_type : Int32) (v_place : Int32) (v_formerPlace : Int32) (v_word : Int64) (v_number : Int32) (a_bytes : Nat → Int32) (hN : FX4_scanNumber n v_length v_next v_type v_place v_number a_bytes ≠ none) : Met l yX4_scanNumber (Cond.code yX4_scanNumber cX4_scanNumber 2 none :: AL) rmX4_scanNumber (PW D cB cI cJ cZ rz [.ref h_t] [(h_t, .inr (4, [.ref h_bytes, .int v_length, .int v_next, .int v_type, .int v_place, .int v_formerPlace, .long v_word, .int v_number])), (h_bytes, .inl (cB, 1200, .inl a_bytes))] sz) (QV D (FX4_scanNumber n v_length v_next v_type v_place v_number a_bytes) (fun u => [(h_t, .inr (4, [.ref h_bytes, .int v_length, .int u.2.1, .int u.2.2.1, .int v_place, .int v_formerPlace, .long v_word, .int u.2.2.2])), (h_bytes, .inl (cB, 1200, .inl a_bytes))]) (va_A [(h_t, .inr (4, [.ref h_bytes, .int v_length, .int v_next, .int v_type, .int v_place, .int v_formerPlace, .long v_word, .int v_number])), (h_bytes, .inl (cB, 1200, .inl a_bytes))] sz)) 0 0 (va_A [(h_t, .inr (4, [.ref h_bytes, .int v_length, .int v_next, .int v_type, .int v_place, .int v_formerPlace, .long v_word, .int v_number])), (h_bytes, .inl (cB, 1200, .inl a_bytes))] sz) := by
  obtain ⟨O, hF⟩ : ∃ O, FX4_scanNumber n v_length v_next v_type v_place v_number a_bytes = O := ⟨_, rfl⟩
  rw [hF] at hN ⊢
  refine enterV (cc := cX4_scanNumber) (nL := 2) (by decide) (Nat.le_of_ble_eq_true rfl) ?_
  intro p e s m below meth c A Q X hA hE hnm hsz hP hD hS hret ls hl
  obtain ⟨hx, hb, hml, hown0, ha⟩ := id X
  have hown : s.vm.findClass RX4 = some m.cls := hown0
  have hK := hE.1
  have hl : lv_has ls 2 [(0, .ref h_t)] := hl
  have hX : CallFix p m c cX4_scanNumber 2 s ([.ref h_t] : List Value).toArray AL RX4 := X
  have X := hX
  have L118 : ∀ (v_next : Int32) (v_type : Int32) (v_number : Int32) (H : Heap) (locs : List Loc) (ls : Array Slot), FX4_scanNumber_118 n v_length v_place a_bytes v_next v_type v_number = O → va_P D classes [(h_t, .inr (4, [.ref h_bytes, .int v_length, .int v_next, .int v_type, .int v_place, .int v_formerPlace, .long v_word, .int v_number])), (h_bytes, .inl (cB, 1200, .inl a_bytes))] H → va_D A [(h_t, .inr (4, [.ref h_bytes, .int v_length, .int v_next, .int v_type, .int v_place, .int v_formerPlace, .long v_word, .int v_number])), (h_bytes, .inl (cB, 1200, .inl a_bytes))] → va_S A s.heap H locs → lv_has ls 2 [] → W p l e rmX4_scanNumber s m ([.ref h_t] : List Value).toArray below meth c H locs 0 0 Q (F0 m 118 ls [.ref h_t]) := by
    intro v_next v_type v_number H locs ls hF hP hD hS hl
    unfold FX4_scanNumber_118 at hF
    refine lv_bipush (v := 11) hx hb dX4_scanNumber_118 (by decide) ?_
    refine lv_goto (tgt := 125) hx hb dX4_scanNumber_120 (by decide) ?_
    refine pt (C := RX4) (T := TX4) (N := 8) (ci := 4) (v := .int (11 : Int32)) (W2 := [(h_t, .inr (4, [.ref h_bytes, .int v_length, .int v_next, .int (11 : Int32), .int v_place, .int v_formerPlace, .long v_word, .int v_number])), (h_bytes, .inl (cB, 1200, .inl a_bytes))]) hx hb ha inAX4 tyX4 tyX4_ok nmX4 hown hK hP hD hS 0 rfl rfl 3 (by decide) (ha _ w_1_91) rfl rfl rfl rfl (Nat.le_of_ble_eq_true rfl) dX4_scanNumber_125 rfl (fun H locs hP hD hS => ?_)
    exact hret ((), v_next, (11 : Int32), v_number) H locs ls _ hF hP hD hS dX4_scanNumber_128
  have L99 : ∀ (v_next : Int32) (v_type : Int32) (v_number : Int32) (y0 : Int32) (H : Heap) (locs : List Loc) (ls : Array Slot), FX4_scanNumber_99 n v_length v_place a_bytes v_next v_type v_number y0 = O → va_P D classes [(h_t, .inr (4, [.ref h_bytes, .int v_length, .int v_next, .int v_type, .int v_place, .int v_formerPlace, .long v_word, .int v_number])), (h_bytes, .inl (cB, 1200, .inl a_bytes))] H → va_D A [(h_t, .inr (4, [.ref h_bytes, .int v_length, .int v_next, .int v_type, .int v_place, .int v_formerPlace, .long v_word, .int v_number])), (h_bytes, .inl (cB, 1200, .inl a_bytes))] → va_S A s.heap H locs → lv_has ls 2 [(0, .ref h_t)] → W p l e rmX4_scanNumber s m ([.ref h_t] : List Value).toArray below meth c H locs 0 0 Q (F0 m 99 ls [.int y0]) := by
    intro v_next v_type v_number y0 H locs ls hF hP hD hS hl
    unfold FX4_scanNumber_99 at hF
    refine lv_istore_n (lv' := [(1, .int y0), (0, .ref h_t)]) hx hb dX4_scanNumber_99 rfl hl (by decide) rfl (fun ls hl => ?_)
    refine lv_aload_n hx hb dX4_scanNumber_100 rfl (lv_at hl 1 rfl) ?_
    refine lv_iload_n hx hb dX4_scanNumber_101 rfl (lv_at hl 0 rfl) ?_
    refine lv_if_ne (tgt := 118) hx hb dX4_scanNumber_102 (by decide) (fun c_14 => ?_) (fun c_14 => ?_)
    · replace hF := ifF c_14 hF
      exact L118 v_next v_type v_number H locs ls hF hP hD hS (lv_sub hl [] rfl)
    · replace hF := ifT c_14 hF
      refine lv_aload_n hx hb dX4_scanNumber_105 rfl (lv_at hl 1 rfl) ?_
      refine va_get (D := D) (ci := 4) (C := RX4) (T := TX4) (N := 8) hx hb ha inAX4 hown hK hP 0 rfl rfl 2 (by decide) (ha _ w_1_89) (fun _ h9 => h9) rfl dX4_scanNumber_106 ?_
      refine lv_aload_n hx hb dX4_scanNumber_109 rfl (lv_at hl 1 rfl) ?_
      refine va_get (D := D) (ci := 4) (C := RX4) (T := TX4) (N := 8) hx hb ha inAX4 hown hK hP 0 rfl rfl 4 (by decide) (ha _ w_1_92) (fun _ h9 => h9) rfl dX4_scanNumber_110 ?_
      refine lv_isub hx hb dX4_scanNumber_113 ?_
      refine lv_iconst (v := 5) hx hb dX4_scanNumber_114 (by decide) ?_
      refine lv_icmp_le (tgt := 123) hx hb dX4_scanNumber_115 (by decide) (fun c_15 => ?_) (fun c_15 => ?_)
      · replace hF := ifT c_15 hF
        refine lv_bipush (v := 8) hx hb dX4_scanNumber_123 (by decide) ?_
        refine pt (C := RX4) (T := TX4) (N := 8) (ci := 4) (v := .int (8 : Int32)) (W2 := [(h_t, .inr (4, [.ref h_bytes, .int v_length, .int v_next, .int (8 : Int32), .int v_place, .int v_formerPlace, .long v_word, .int v_number])), (h_bytes, .inl (cB, 1200, .inl a_bytes))]) hx hb ha inAX4 tyX4 tyX4_ok nmX4 hown hK hP hD hS 0 rfl rfl 3 (by decide) (ha _ w_1_91) rfl rfl rfl rfl (Nat.le_of_ble_eq_true rfl) dX4_scanNumber_125 rfl (fun H locs hP hD hS => ?_)
        exact hret ((), v_next, (8 : Int32), v_number) H locs ls _ hF hP hD hS dX4_scanNumber_128
      · replace hF := ifF c_15 hF
        exact L118 v_next v_type v_number H locs ls hF hP hD hS (lv_sub hl [] rfl)
  have L98 : ∀ (v_next : Int32) (v_type : Int32) (v_number : Int32) (H : Heap) (locs : List Loc) (ls : Array Slot), FX4_scanNumber_98 n v_length v_place a_bytes v_next v_type v_number = O → va_P D classes [(h_t, .inr (4, [.ref h_bytes, .int v_length, .int v_next, .int v_type, .int v_place, .int v_formerPlace, .long v_word, .int v_number])), (h_bytes, .inl (cB, 1200, .inl a_bytes))] H → va_D A [(h_t, .inr (4, [.ref h_bytes, .int v_length, .int v_next, .int v_type, .int v_place, .int v_formerPlace, .long v_word, .int v_number])), (h_bytes, .inl (cB, 1200, .inl a_bytes))] → va_S A s.heap H locs → lv_has ls 2 [(0, .ref h_t)] → W p l e rmX4_scanNumber s m ([.ref h_t] : List Value).toArray below meth c H locs 0 0 Q (F0 m 98 ls []) := by
    intro v_next v_type v_number H locs ls hF hP hD hS hl
    unfold FX4_scanNumber_98 at hF
    refine lv_iconst (v := 0) hx hb dX4_scanNumber_98 (by decide) ?_
    exact L99 v_next v_type v_number (0 : Int32) H locs ls hF hP hD hS (lv_sub hl [0] rfl)
  have L68 : ∀ (v_next : Int32) (v_type : Int32) (v_number : Int32) (H : Heap) (locs : List Loc) (ls : Array Slot), FX4_scanNumber_68 n v_length v_place a_bytes v_next v_type v_number = O → va_P D classes [(h_t, .inr (4, [.ref h_bytes, .int v_length, .int v_next, .int v_type, .int v_place, .int v_formerPlace, .long v_word, .int v_number])), (h_bytes, .inl (cB, 1200, .inl a_bytes))] H → va_D A [(h_t, .inr (4, [.ref h_bytes, .int v_length, .int v_next, .int v_type, .int v_place, .int v_formerPlace, .long v_word, .int v_number])), (h_bytes, .inl (cB, 1200, .inl a_bytes))] → va_S A s.heap H locs → lv_has ls 2 [(0, .ref h_t)] → W p l e rmX4_scanNumber s m ([.ref h_t] : List Value).toArray below meth c H locs 0 0 Q (F0 m 68 ls []) := by
    intro v_next v_type v_number H locs ls hF hP hD hS hl
    unfold FX4_scanNumber_68 at hF
    refine lv_aload_n hx hb dX4_scanNumber_68 rfl (lv_at hl 0 rfl) ?_
    refine va_get (D := D) (ci := 4) (C := RX4) (T := TX4) (N := 8) hx hb ha inAX4 hown hK hP 0 rfl rfl 2 (by decide) (ha _ w_1_89) (fun _ h9 => h9) rfl dX4_scanNumber_69 ?_
    refine lv_aload_n hx hb dX4_scanNumber_72 rfl (lv_at hl 0 rfl) ?_
    refine va_get (D := D) (ci := 4) (C := RX4) (T := TX4) (N := 8) hx hb ha inAX4 hown hK hP 0 rfl rfl 1 (by decide) (ha _ w_1_87) (fun _ h9 => h9) rfl dX4_scanNumber_73 ?_
    refine lv_icmp_ge (tgt := 98) hx hb dX4_scanNumber_76 (by decide) (fun c_9 => ?_) (fun c_9 => ?_)
    · replace hF := ifT c_9 hF
      exact L98 v_next v_type v_number H locs ls hF hP hD hS (lv_sub hl [0] rfl)
    · replace hF := ifF c_9 hF
      refine lv_aload_n hx hb dX4_scanNumber_79 rfl (lv_at hl 0 rfl) ?_
      refine va_get (D := D) (ci := 4) (C := RX4) (T := TX4) (N := 8) hx hb ha inAX4 hown hK hP 0 rfl rfl 0 (by decide) (ha _ w_1_86) (fun _ h9 => h9) rfl dX4_scanNumber_80 ?_
      refine lv_aload_n hx hb dX4_scanNumber_83 rfl (lv_at hl 0 rfl) ?_
      refine va_get (D := D) (ci := 4) (C := RX4) (T := TX4) (N := 8) hx hb ha inAX4 hown hK hP 0 rfl rfl 2 (by decide) (ha _ w_1_89) (fun _ h9 => h9) rfl dX4_scanNumber_84 ?_
      replace hF := ckP hN hF
      obtain ⟨c_10, hF⟩ := hF
      refine ld_b hx hb hK hP 1 rfl c_10 dX4_scanNumber_87 ?_
      have hn_11 := bdN hN hF
      refine callSZ (As := [.int (a_bytes (v_next).toNatClampNeg)]) (rest := []) (wr := [(h_t, .inr (4, [.ref h_bytes, .int v_length, .int v_next, .int v_type, .int v_place, .int v_formerPlace, .long v_word, .int v_number])), (h_bytes, .inl (cB, 1200, .inl a_bytes))]) (W2 := fun u_12 => [(h_t, .inr (4, [.ref h_bytes, .int v_length, .int v_next, .int v_type, .int v_place, .int v_formerPlace, .long v_word, .int v_number])), (h_bytes, .inl (cB, 1200, .inl a_bytes))]) X hE hP hD hS hA (kX4_isLetter l D cB cI cJ cZ rz n H.size (a_bytes (v_next).toNatClampNeg) hn_11) w_2_64 w_2_65 w_1_4 w_2_66 cb_X4_isLetter rfl rfl ⟨Nat.le_of_ble_eq_true rfl, Nat.le_of_ble_eq_true rfl⟩ rfl hl.1 rfl (Nat.le_of_ble_eq_true rfl) dX4_scanNumber_88 ⟨Nat.le_of_ble_eq_true rfl, Nat.le_of_ble_eq_true rfl⟩ (c2 := 0) (s2 := 0) rfl rfl [] [0, 1] [0, 1] rfl rfl (by decide) (by decide) (by decide) (by decide) (fun _ => rfl) (fun u_12 H locs hG hzu_12 hP hD hS => ?_)
      replace hF := bdQ hG hF
      refine lv_if_eq (tgt := 98) hx hb dX4_scanNumber_91 (by decide) (fun c_13 => ?_) (fun c_13 => ?_)
      · replace hF := ifT c_13 hF
        exact L98 v_next v_type v_number H locs ls hF hP hD hS (lv_sub hl [0] rfl)
      · replace hF := ifF c_13 hF
        refine lv_iconst (v := 1) hx hb dX4_scanNumber_94 (by decide) ?_
        refine lv_goto (tgt := 99) hx hb dX4_scanNumber_95 (by decide) ?_
        exact L99 v_next v_type v_number (1 : Int32) H locs ls hF hP hD hS (lv_sub hl [0] rfl)
  have L5 : ∀ (k5 : Int32 → Int32 → Int32 → Option (Unit × Int32 × Int32 × Int32)) (ih5 : ∀ (v_next : Int32) (v_type : Int32) (v_number : Int32) (H : Heap) (locs : List Loc) (ls : Array Slot), k5 v_next v_type v_number = O → va_P D classes [(h_t, .inr (4, [.ref h_bytes, .int v_length, .int v_next, .int v_type, .int v_place, .int v_formerPlace, .long v_word, .int v_number])), (h_bytes, .inl (cB, 1200, .inl a_bytes))] H → va_D A [(h_t, .inr (4, [.ref h_bytes, .int v_length, .int v_next, .int v_type, .int v_place, .int v_formerPlace, .long v_word, .int v_number])), (h_bytes, .inl (cB, 1200, .inl a_bytes))] → va_S A s.heap H locs → lv_has ls 2 [(0, .ref h_t)] → W p l e rmX4_scanNumber s m ([.ref h_t] : List Value).toArray below meth c H locs 0 0 Q (F0 m 5 ls [])), ∀ (v_next : Int32) (v_type : Int32) (v_number : Int32) (H : Heap) (locs : List Loc) (ls : Array Slot), FX4_scanNumber_5 n v_length v_place a_bytes k5 v_next v_type v_number = O → va_P D classes [(h_t, .inr (4, [.ref h_bytes, .int v_length, .int v_next, .int v_type, .int v_place, .int v_formerPlace, .long v_word, .int v_number])), (h_bytes, .inl (cB, 1200, .inl a_bytes))] H → va_D A [(h_t, .inr (4, [.ref h_bytes, .int v_length, .int v_next, .int v_type, .int v_place, .int v_formerPlace, .long v_word, .int v_number])), (h_bytes, .inl (cB, 1200, .inl a_bytes))] → va_S A s.heap H locs → lv_has ls 2 [(0, .ref h_t)] → W p l e rmX4_scanNumber s m ([.ref h_t] : List Value).toArray below meth c H locs 0 0 Q (F0 m 5 ls []) := by
    intro k5 ih5 v_next v_type v_number H locs ls hF hP hD hS hl
    unfold FX4_scanNumber_5 at hF
    refine lv_aload_n hx hb dX4_scanNumber_5 rfl (lv_at hl 0 rfl) ?_
    refine va_get (D := D) (ci := 4) (C := RX4) (T := TX4) (N := 8) hx hb ha inAX4 hown hK hP 0 rfl rfl 2 (by decide) (ha _ w_1_89) (fun _ h9 => h9) rfl dX4_scanNumber_6 ?_
    refine lv_aload_n hx hb dX4_scanNumber_9 rfl (lv_at hl 0 rfl) ?_
    refine va_get (D := D) (ci := 4) (C := RX4) (T := TX4) (N := 8) hx hb ha inAX4 hown hK hP 0 rfl rfl 1 (by decide) (ha _ w_1_87) (fun _ h9 => h9) rfl dX4_scanNumber_10 ?_
    refine lv_icmp_ge (tgt := 68) hx hb dX4_scanNumber_13 (by decide) (fun c_1 => ?_) (fun c_1 => ?_)
    · replace hF := ifT c_1 hF
      exact L68 v_next v_type v_number H locs ls hF hP hD hS (lv_sub hl [0] rfl)
    · replace hF := ifF c_1 hF
      refine lv_aload_n hx hb dX4_scanNumber_16 rfl (lv_at hl 0 rfl) ?_
      refine va_get (D := D) (ci := 4) (C := RX4) (T := TX4) (N := 8) hx hb ha inAX4 hown hK hP 0 rfl rfl 0 (by decide) (ha _ w_1_86) (fun _ h9 => h9) rfl dX4_scanNumber_17 ?_
      refine lv_aload_n hx hb dX4_scanNumber_20 rfl (lv_at hl 0 rfl) ?_
      refine va_get (D := D) (ci := 4) (C := RX4) (T := TX4) (N := 8) hx hb ha inAX4 hown hK hP 0 rfl rfl 2 (by decide) (ha _ w_1_89) (fun _ h9 => h9) rfl dX4_scanNumber_21 ?_
      replace hF := ckP hN hF
      obtain ⟨c_2, hF⟩ := hF
      refine ld_b hx hb hK hP 1 rfl c_2 dX4_scanNumber_24 ?_
      have hn_3 := bdN hN hF
      refine callSZ (As := [.int (a_bytes (v_next).toNatClampNeg)]) (rest := []) (wr := [(h_t, .inr (4, [.ref h_bytes, .int v_length, .int v_next, .int v_type, .int v_place, .int v_formerPlace, .long v_word, .int v_number])), (h_bytes, .inl (cB, 1200, .inl a_bytes))]) (W2 := fun u_4 => [(h_t, .inr (4, [.ref h_bytes, .int v_length, .int v_next, .int v_type, .int v_place, .int v_formerPlace, .long v_word, .int v_number])), (h_bytes, .inl (cB, 1200, .inl a_bytes))]) X hE hP hD hS hA (kX4_isDigit l D cB cI cJ cZ rz n H.size (a_bytes (v_next).toNatClampNeg) hn_3) w_2_73 w_2_74 w_1_4 w_2_75 cb_X4_isDigit rfl rfl ⟨Nat.le_of_ble_eq_true rfl, Nat.le_of_ble_eq_true rfl⟩ rfl hl.1 rfl (Nat.le_of_ble_eq_true rfl) dX4_scanNumber_25 ⟨Nat.le_of_ble_eq_true rfl, Nat.le_of_ble_eq_true rfl⟩ (c2 := 0) (s2 := 0) rfl rfl [] [0, 1] [0, 1] rfl rfl (by decide) (by decide) (by decide) (by decide) (fun _ => rfl) (fun u_4 H locs hG hzu_4 hP hD hS => ?_)
      replace hF := bdQ hG hF
      refine lv_if_eq (tgt := 68) hx hb dX4_scanNumber_28 (by decide) (fun c_5 => ?_) (fun c_5 => ?_)
      · replace hF := ifT c_5 hF
        exact L68 v_next v_type v_number H locs ls hF hP hD hS (lv_sub hl [0] rfl)
      · replace hF := ifF c_5 hF
        refine lv_aload_n hx hb dX4_scanNumber_31 rfl (lv_at hl 0 rfl) ?_
        refine lv_aload_n hx hb dX4_scanNumber_32 rfl (lv_at hl 0 rfl) ?_
        refine va_get (D := D) (ci := 4) (C := RX4) (T := TX4) (N := 8) hx hb ha inAX4 hown hK hP 0 rfl rfl 7 (by decide) (ha _ w_1_98) (fun _ h9 => h9) rfl dX4_scanNumber_33 ?_
        refine lv_bipush (v := 10) hx hb dX4_scanNumber_36 (by decide) ?_
        refine lv_imul hx hb dX4_scanNumber_38 ?_
        refine lv_aload_n hx hb dX4_scanNumber_39 rfl (lv_at hl 0 rfl) ?_
        refine va_get (D := D) (ci := 4) (C := RX4) (T := TX4) (N := 8) hx hb ha inAX4 hown hK hP 0 rfl rfl 0 (by decide) (ha _ w_1_86) (fun _ h9 => h9) rfl dX4_scanNumber_40 ?_
        refine lv_aload_n hx hb dX4_scanNumber_43 rfl (lv_at hl 0 rfl) ?_
        refine va_get (D := D) (ci := 4) (C := RX4) (T := TX4) (N := 8) hx hb ha inAX4 hown hK hP 0 rfl rfl 2 (by decide) (ha _ w_1_89) (fun _ h9 => h9) rfl dX4_scanNumber_44 ?_
        replace hF := ckP hN hF
        obtain ⟨c_6, hF⟩ := hF
        refine ld_b hx hb hK hP 1 rfl c_6 dX4_scanNumber_47 ?_
        refine lv_bipush (v := 48) hx hb dX4_scanNumber_48 (by decide) ?_
        refine lv_isub hx hb dX4_scanNumber_50 ?_
        refine lv_iadd hx hb dX4_scanNumber_51 ?_
        refine lv_topi (fun x_7 ex_7 => ?_)
        replace hF := ltP ex_7 hF
        refine pt (C := RX4) (T := TX4) (N := 8) (ci := 4) (v := .int x_7) (W2 := [(h_t, .inr (4, [.ref h_bytes, .int v_length, .int v_next, .int v_type, .int v_place, .int v_formerPlace, .long v_word, .int x_7])), (h_bytes, .inl (cB, 1200, .inl a_bytes))]) hx hb ha inAX4 tyX4 tyX4_ok nmX4 hown hK hP hD hS 0 rfl rfl 7 (by decide) (ha _ w_1_98) rfl rfl rfl rfl (Nat.le_of_ble_eq_true rfl) dX4_scanNumber_52 rfl (fun H locs hP hD hS => ?_)
        refine lv_aload_n hx hb dX4_scanNumber_55 rfl (lv_at hl 0 rfl) ?_
        refine lv_dup hx hb dX4_scanNumber_56 rfl ?_
        refine va_get (D := D) (ci := 4) (C := RX4) (T := TX4) (N := 8) hx hb ha inAX4 hown hK hP 0 rfl rfl 2 (by decide) (ha _ w_1_89) (fun _ h9 => h9) rfl dX4_scanNumber_57 ?_
        refine lv_iconst (v := 1) hx hb dX4_scanNumber_60 (by decide) ?_
        refine lv_iadd hx hb dX4_scanNumber_61 ?_
        refine lv_topi (fun x_8 ex_8 => ?_)
        replace hF := ltP ex_8 hF
        refine pt (C := RX4) (T := TX4) (N := 8) (ci := 4) (v := .int x_8) (W2 := [(h_t, .inr (4, [.ref h_bytes, .int v_length, .int x_8, .int v_type, .int v_place, .int v_formerPlace, .long v_word, .int x_7])), (h_bytes, .inl (cB, 1200, .inl a_bytes))]) hx hb ha inAX4 tyX4 tyX4_ok nmX4 hown hK hP hD hS 0 rfl rfl 2 (by decide) (ha _ w_1_89) rfl rfl rfl rfl (Nat.le_of_ble_eq_true rfl) dX4_scanNumber_62 rfl (fun H locs hP hD hS => ?_)
        refine lv_goto (tgt := 5) hx hb dX4_scanNumber_65 (by decide) ?_
        exact ih5 x_8 v_type x_7 H locs ls hF hP hD hS (lv_sub hl [0] rfl)
  have Lc5 : ∀ (j : Nat), ∀ (v_next : Int32) (v_type : Int32) (v_number : Int32) (H : Heap) (locs : List Loc) (ls : Array Slot), FX4_scanNumber_5L n v_length v_place a_bytes j v_next v_type v_number = O → va_P D classes [(h_t, .inr (4, [.ref h_bytes, .int v_length, .int v_next, .int v_type, .int v_place, .int v_formerPlace, .long v_word, .int v_number])), (h_bytes, .inl (cB, 1200, .inl a_bytes))] H → va_D A [(h_t, .inr (4, [.ref h_bytes, .int v_length, .int v_next, .int v_type, .int v_place, .int v_formerPlace, .long v_word, .int v_number])), (h_bytes, .inl (cB, 1200, .inl a_bytes))] → va_S A s.heap H locs → lv_has ls 2 [(0, .ref h_t)] → W p l e rmX4_scanNumber s m ([.ref h_t] : List Value).toArray below meth c H locs 0 0 Q (F0 m 5 ls []) := by
    intro j
    induction j with
    | zero => intro _ _ _ H locs ls hF; exact absurd hF.symm hN
    | succ j ih => exact L5 (FX4_scanNumber_5L n v_length v_place a_bytes j) ih
  unfold FX4_scanNumber at hF
  obtain ⟨H, hH⟩ : ∃ H, H = s.heap := ⟨_, rfl⟩
  obtain ⟨locs, hlo⟩ : ∃ locs : List Loc, locs = [] := ⟨_, rfl⟩
  have hS : va_S A s.heap H locs := by rw [hH, hlo]; exact hS
  rw [← hH] at hP
  have goal : W p l e rmX4_scanNumber s m ([.ref h_t] : List Value).toArray below meth c H locs 0 0 Q (F0 m 0 ls []) := by
    refine lv_aload_n hx hb dX4_scanNumber_0 rfl (lv_at hl 0 rfl) ?_
    refine lv_iconst (v := 0) hx hb dX4_scanNumber_1 (by decide) ?_
    refine pt (C := RX4) (T := TX4) (N := 8) (ci := 4) (v := .int (0 : Int32)) (W2 := [(h_t, .inr (4, [.ref h_bytes, .int v_length, .int v_next, .int v_type, .int v_place, .int v_formerPlace, .long v_word, .int (0 : Int32)])), (h_bytes, .inl (cB, 1200, .inl a_bytes))]) hx hb ha inAX4 tyX4 tyX4_ok nmX4 hown hK hP hD hS 0 rfl rfl 7 (by decide) (ha _ w_1_98) rfl rfl rfl rfl (Nat.le_of_ble_eq_true rfl) dX4_scanNumber_2 rfl (fun H locs hP hD hS => ?_)
    exact Lc5 n v_next v_type (0 : Int32) H locs ls hF hP hD hS (lv_sub hl [0] rfl)
  rw [hH, hlo] at goal
  exact goal
