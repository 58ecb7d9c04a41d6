theorem dX4_advance_0 : decode cX4_advance 0 = .ok (.aload_n 0, 1) := by decide +kernel
theorem dX4_advance_1 : decode cX4_advance 1 = .ok (.aload_n 0, 1) := by decide +kernel
theorem dX4_advance_2 : decode cX4_advance 2 = .ok (.getfield 22, 3) := by decide +kernel
theorem dX4_advance_5 : decode cX4_advance 5 = .ok (.putfield 28, 3) := by decide +kernel
theorem dX4_advance_8 : decode cX4_advance 8 = .ok (.aload_n 0, 1) := by decide +kernel
theorem dX4_advance_9 : decode cX4_advance 9 = .ok (.getfield 19, 3) := by decide +kernel
theorem dX4_advance_12 : decode cX4_advance 12 = .ok (.aload_n 0, 1) := by decide +kernel
theorem dX4_advance_13 : decode cX4_advance 13 = .ok (.getfield 15, 3) := by decide +kernel
theorem dX4_advance_16 : decode cX4_advance 16 = .ok (.if_icmp .ge 44, 3) := by decide +kernel
theorem dX4_advance_19 : decode cX4_advance 19 = .ok (.aload_n 0, 1) := by decide +kernel
theorem dX4_advance_20 : decode cX4_advance 20 = .ok (.getfield 9, 3) := by decide +kernel
theorem dX4_advance_23 : decode cX4_advance 23 = .ok (.aload_n 0, 1) := by decide +kernel
theorem dX4_advance_24 : decode cX4_advance 24 = .ok (.getfield 19, 3) := by decide +kernel
theorem dX4_advance_27 : decode cX4_advance 27 = .ok (.baload, 1) := by decide +kernel
theorem dX4_advance_28 : decode cX4_advance 28 = .ok (.bipush 32, 2) := by decide +kernel
theorem dX4_advance_30 : decode cX4_advance 30 = .ok (.if_icmp .eq 17, 3) := by decide +kernel
theorem dX4_advance_33 : decode cX4_advance 33 = .ok (.aload_n 0, 1) := by decide +kernel
theorem dX4_advance_34 : decode cX4_advance 34 = .ok (.getfield 9, 3) := by decide +kernel
theorem dX4_advance_37 : decode cX4_advance 37 = .ok (.aload_n 0, 1) := by decide +kernel
theorem dX4_advance_38 : decode cX4_advance 38 = .ok (.getfield 19, 3) := by decide +kernel
theorem dX4_advance_41 : decode cX4_advance 41 = .ok (.baload, 1) := by decide +kernel
theorem dX4_advance_42 : decode cX4_advance 42 = .ok (.bipush 10, 2) := by decide +kernel
theorem dX4_advance_44 : decode cX4_advance 44 = .ok (.if_icmp .ne 16, 3) := by decide +kernel
theorem dX4_advance_47 : decode cX4_advance 47 = .ok (.aload_n 0, 1) := by decide +kernel
theorem dX4_advance_48 : decode cX4_advance 48 = .ok (.dup, 1) := by decide +kernel
theorem dX4_advance_49 : decode cX4_advance 49 = .ok (.getfield 19, 3) := by decide +kernel
theorem dX4_advance_52 : decode cX4_advance 52 = .ok (.iconst 1, 1) := by decide +kernel
theorem dX4_advance_53 : decode cX4_advance 53 = .ok (.iadd, 1) := by decide +kernel
theorem dX4_advance_54 : decode cX4_advance 54 = .ok (.putfield 19, 3) := by decide +kernel
theorem dX4_advance_57 : decode cX4_advance 57 = .ok (.goto (-49), 3) := by decide +kernel
theorem dX4_advance_60 : decode cX4_advance 60 = .ok (.aload_n 0, 1) := by decide +kernel
theorem dX4_advance_61 : decode cX4_advance 61 = .ok (.aload_n 0, 1) := by decide +kernel
theorem dX4_advance_62 : decode cX4_advance 62 = .ok (.getfield 19, 3) := by decide +kernel
theorem dX4_advance_65 : decode cX4_advance 65 = .ok (.putfield 22, 3) := by decide +kernel
theorem dX4_advance_68 : decode cX4_advance 68 = .ok (.aload_n 0, 1) := by decide +kernel
theorem dX4_advance_69 : decode cX4_advance 69 = .ok (.getfield 19, 3) := by decide +kernel
theorem dX4_advance_72 : decode cX4_advance 72 = .ok (.aload_n 0, 1) := by decide +kernel
theorem dX4_advance_73 : decode cX4_advance 73 = .ok (.getfield 15, 3) := by decide +kernel
theorem dX4_advance_76 : decode cX4_advance 76 = .ok (.if_icmp .lt 12, 3) := by decide +kernel
theorem dX4_advance_79 : decode cX4_advance 79 = .ok (.aload_n 0, 1) := by decide +kernel
theorem dX4_advance_80 : decode cX4_advance 80 = .ok (.bipush 10, 2) := by decide +kernel
theorem dX4_advance_82 : decode cX4_advance 82 = .ok (.putfield 31, 3) := by decide +kernel
theorem dX4_advance_85 : decode cX4_advance 85 = .ok (.goto 82, 3) := by decide +kernel
theorem dX4_advance_88 : decode cX4_advance 88 = .ok (.aload_n 0, 1) := by decide +kernel
theorem dX4_advance_89 : decode cX4_advance 89 = .ok (.getfield 9, 3) := by decide +kernel
theorem dX4_advance_92 : decode cX4_advance 92 = .ok (.aload_n 0, 1) := by decide +kernel
theorem dX4_advance_93 : decode cX4_advance 93 = .ok (.getfield 19, 3) := by decide +kernel
theorem dX4_advance_96 : decode cX4_advance 96 = .ok (.baload, 1) := by decide +kernel
theorem dX4_advance_97 : decode cX4_advance 97 = .ok (.invokestatic 34, 3) := by decide +kernel
theorem dX4_advance_100 : decode cX4_advance 100 = .ok (.ifCond .eq 10, 3) := by decide +kernel
theorem dX4_advance_103 : decode cX4_advance 103 = .ok (.aload_n 0, 1) := by decide +kernel
theorem dX4_advance_104 : decode cX4_advance 104 = .ok (.invokevirtual 38, 3) := by decide +kernel
theorem dX4_advance_107 : decode cX4_advance 107 = .ok (.goto 60, 3) := by decide +kernel
theorem dX4_advance_110 : decode cX4_advance 110 = .ok (.aload_n 0, 1) := by decide +kernel
theorem dX4_advance_111 : decode cX4_advance 111 = .ok (.getfield 9, 3) := by decide +kernel
theorem dX4_advance_114 : decode cX4_advance 114 = .ok (.aload_n 0, 1) := by decide +kernel
theorem dX4_advance_115 : decode cX4_advance 115 = .ok (.getfield 19, 3) := by decide +kernel
theorem dX4_advance_118 : decode cX4_advance 118 = .ok (.baload, 1) := by decide +kernel
theorem dX4_advance_119 : decode cX4_advance 119 = .ok (.invokestatic 41, 3) := by decide +kernel
theorem dX4_advance_122 : decode cX4_advance 122 = .ok (.ifCond .eq 10, 3) := by decide +kernel
theorem dX4_advance_125 : decode cX4_advance 125 = .ok (.aload_n 0, 1) := by decide +kernel
theorem dX4_advance_126 : decode cX4_advance 126 = .ok (.invokevirtual 44, 3) := by decide +kernel
theorem dX4_advance_129 : decode cX4_advance 129 = .ok (.goto 38, 3) := by decide +kernel
theorem dX4_advance_132 : decode cX4_advance 132 = .ok (.aload_n 0, 1) := by decide +kernel
theorem dX4_advance_133 : decode cX4_advance 133 = .ok (.aload_n 0, 1) := by decide +kernel
theorem dX4_advance_134 : decode cX4_advance 134 = .ok (.getfield 9, 3) := by decide +kernel
theorem dX4_advance_137 : decode cX4_advance 137 = .ok (.aload_n 0, 1) := by decide +kernel
theorem dX4_advance_138 : decode cX4_advance 138 = .ok (.getfield 19, 3) := by decide +kernel
theorem dX4_advance_141 : decode cX4_advance 141 = .ok (.baload, 1) := by decide +kernel
theorem dX4_advance_142 : decode cX4_advance 142 = .ok (.bipush 59, 2) := by decide +kernel
theorem dX4_advance_144 : decode cX4_advance 144 = .ok (.if_icmp .ne 8, 3) := by decide +kernel
theorem dX4_advance_147 : decode cX4_advance 147 = .ok (.bipush 9, 2) := by decide +kernel
theorem dX4_advance_149 : decode cX4_advance 149 = .ok (.goto 5, 3) := by decide +kernel
theorem dX4_advance_152 : decode cX4_advance 152 = .ok (.bipush 11, 2) := by decide +kernel
theorem dX4_advance_154 : decode cX4_advance 154 = .ok (.putfield 31, 3) := by decide +kernel
theorem dX4_advance_157 : decode cX4_advance 157 = .ok (.aload_n 0, 1) := by decide +kernel
theorem dX4_advance_158 : decode cX4_advance 158 = .ok (.dup, 1) := by decide +kernel
theorem dX4_advance_159 : decode cX4_advance 159 = .ok (.getfield 19, 3) := by decide +kernel
theorem dX4_advance_162 : decode cX4_advance 162 = .ok (.iconst 1, 1) := by decide +kernel
theorem dX4_advance_163 : decode cX4_advance 163 = .ok (.iadd, 1) := by decide +kernel
theorem dX4_advance_164 : decode cX4_advance 164 = .ok (.putfield 19, 3) := by decide +kernel
theorem dX4_advance_167 : decode cX4_advance 167 = .ok (.return_, 1) := by decide +kernel
abbrev rmX4_advance : Room := { frames := 2, cells := 0, slots := 0, locals := 41 }
theorem cb_X4_advance : CBn yX4_advance 0 := ⟨by decide +kernel, by decide +kernel, by decide +kernel⟩
def FX4_advance_47 (n : Nat) (v_length : Int32) (a_bytes : Nat → Int32) (k8 : Int32 → Int32 → Int32 → Int32 → Int64 → Int32 → Option (Unit × Int32 × Int32 × Int32 × Int32 × Int64 × Int32)) (v_next : Int32) (v_type : Int32) (v_place : Int32) (v_formerPlace : Int32) (v_word : Int64) (v_number : Int32) : Option (Unit × Int32 × Int32 × Int32 × Int32 × Int64 × Int32) := lt1 (v_next + (1 : Int32)) (fun x_21 => k8 x_21 v_type v_place v_formerPlace v_word v_number)
def FX4_advance_154 (n : Nat) (v_length : Int32) (a_bytes : Nat → Int32) (v_next : Int32) (v_type : Int32) (v_place : Int32) (v_formerPlace : Int32) (v_word : Int64) (v_number : Int32) (y0 : Int32) : Option (Unit × Int32 × Int32 × Int32 × Int32 × Int64 × Int32) := lt1 (v_next + (1 : Int32)) (fun x_22 => some ((), x_22, y0, v_place, v_formerPlace, v_word, v_number))
def FX4_advance_60 (n : Nat) (v_length : Int32) (a_bytes : Nat → Int32) (v_next : Int32) (v_type : Int32) (v_place : Int32) (v_formerPlace : Int32) (v_word : Int64) (v_number : Int32) : Option (Unit × Int32 × Int32 × Int32 × Int32 × Int64 × Int32) := if v_next < v_length then (if ¬ (v_next < 0 ∨ 1200 ≤ (v_next).toNatClampNeg) then (bd (FX4_isLetter n (a_bytes (v_next).toNatClampNeg)) (fun u_9 => if u_9.1 = 0 then (if ¬ (v_next < 0 ∨ 1200 ≤ (v_next).toNatClampNeg) then (bd (FX4_isDigit n (a_bytes (v_next).toNatClampNeg)) (fun u_13 => if u_13.1 = 0 then (if ¬ (v_next < 0 ∨ 1200 ≤ (v_next).toNatClampNeg) then (if (a_bytes (v_next).toNatClampNeg) = (59 : Int32) then (FX4_advance_154 n v_length a_bytes v_next v_type v_next v_formerPlace v_word v_number (9 : Int32)) else (FX4_advance_154 n v_length a_bytes v_next v_type v_next v_formerPlace v_word v_number (11 : Int32))) else none) else (bd (FX4_scanNumber n v_length v_next v_type v_next v_number a_bytes) (fun u_18 => some ((), u_18.2.1, u_18.2.2.1, v_next, v_formerPlace, v_word, u_18.2.2.2))))) else none) else (bd (FX4_scanWord n v_length v_next v_type v_next v_word a_bytes) (fun u_20 => some ((), u_20.2.1, u_20.2.2.1, v_next, v_formerPlace, u_20.2.2.2, v_number))))) else none) else (some ((), v_next, (10 : Int32), v_next, v_formerPlace, v_word, v_number))
def FX4_advance_8 (n : Nat) (v_length : Int32) (a_bytes : Nat → Int32) (k8 : Int32 → Int32 → Int32 → Int32 → Int64 → Int32 → Option (Unit × Int32 × Int32 × Int32 × Int32 × Int64 × Int32)) (v_next : Int32) (v_type : Int32) (v_place : Int32) (v_formerPlace : Int32) (v_word : Int64) (v_number : Int32) : Option (Unit × Int32 × Int32 × Int32 × Int32 × Int64 × Int32) := if v_length ≤ v_next then (FX4_advance_60 n v_length a_bytes v_next v_type v_place v_formerPlace v_word v_number) else (if ¬ (v_next < 0 ∨ 1200 ≤ (v_next).toNatClampNeg) then (if (a_bytes (v_next).toNatClampNeg) = (32 : Int32) then (FX4_advance_47 n v_length a_bytes k8 v_next v_type v_place v_formerPlace v_word v_number) else (if ¬ (v_next < 0 ∨ 1200 ≤ (v_next).toNatClampNeg) then (if (a_bytes (v_next).toNatClampNeg) = (10 : Int32) then (FX4_advance_47 n v_length a_bytes k8 v_next v_type v_place v_formerPlace v_word v_number) else (FX4_advance_60 n v_length a_bytes v_next v_type v_place v_formerPlace v_word v_number)) else none)) else none)
def FX4_advance_8L (n : Nat) (v_length : Int32) (a_bytes : Nat → Int32) (j : Nat) : Int32 → Int32 → Int32 → Int32 → Int64 → Int32 → Option (Unit × Int32 × Int32 × Int32 × Int32 × Int64 × Int32) := lpR (FX4_advance_8 n v_length a_bytes) (fun _ _ _ _ _ _ => none) j
def FX4_advance (n : Nat) (v_length : Int32) (v_next : Int32) (v_type : Int32) (v_place : Int32) (v_formerPlace : Int32) (v_word : Int64) (v_number : Int32) (a_bytes : Nat → Int32) : Option (Unit × Int32 × Int32 × Int32 × Int32 × Int64 × Int32) := FX4_advance_8L n v_length a_bytes n v_next v_type v_place v_place v_word v_number
set_option maxHeartbeats 4000000 in
set_option maxRecDepth 100000 in
theorem kX4_advance (l : Launch) (D : va_G) (cB cI cJ cZ : ClassId) (rz n sz : Nat) (h_t : Nat) (h_bytes : Nat) (v_length : Int32) (v_next : Int32) (v_type : Int32) (v_place : Int32) (v_formerPlace : Int32) (v_word : Int64) (v_number : Int32) (a_bytes : Nat → Int32) (hN : FX4_advance n v_length v_next v_type v_place v_formerPlace v_word v_number a_bytes ≠ none) : Met l yX4_advance (Cond.code yX4_advance cX4_advance 1 none :: AL) rmX4_advance (PW D cB cI cJ cZ rz [.ref h_t] [(h_t, .inr (4, [.ref h_bytes, .int v_length, .int v_next, .int v_type, .int v_place, .int v_formerPlace, .long v_word, .int v_number])), (h_bytes, .inl (cB, 1200, .inl a_bytes))] sz) (QV D (FX4_advance n v_length v_next v_type v_place v_formerPlace v_word v_number a_bytes) (fun u => [(h_t, .inr (4, [.ref h_bytes, .int v_length, .int u.2.1, .int u.2.2.1, .int u.2.2.2.1, .int u.2.2.2.2.1, .long u.2.2.2.2.2.1, .int u.2.2.2.2.2.2])), (h_bytes, .inl (cB, 1200, .inl a_bytes))]) (va_A [(h_t, .inr (4, [.ref h_bytes, .int v_length, .int v_next, .int v_type, .int v_place, .int v_formerPlace, .long v_word, .int v_number])), (h_bytes, .inl (cB, 1200, .inl a_bytes))] sz)) 0 0 (va_A [(h_t, .inr (4, [.ref h_bytes, .int v_length, .int v_next, .int v_type, .int v_place, .int v_formerPlace, .long v_word, .int v_number])), (h_bytes, .inl (cB, 1200, .inl a_bytes))] sz) := by
  obtain ⟨O, hF⟩ : ∃ O, FX4_advance n v_length v_next v_type v_place v_formerPlace v_word v_number a_bytes = O := ⟨_, rfl⟩
  rw [hF] at hN ⊢
  refine enterV (cc := cX4_advance) (nL := 1) (by decide) (Nat.le_of_ble_eq_true rfl) ?_
  intro p e s m below meth c A Q X hA hE hnm hsz hP hD hS hret ls hl
  obtain ⟨hx, hb, hml, hown0, ha⟩ := id X
  have hown : s.vm.findClass RX4 = some m.cls := hown0
  have hK := hE.1
  have hl : lv_has ls 1 [(0, .ref h_t)] := hl
  have hX : CallFix p m c cX4_advance 1 s ([.ref h_t] : List Value).toArray AL RX4 := X
  have X := hX
  have L47 : ∀ (k8 : Int32 → Int32 → Int32 → Int32 → Int64 → Int32 → Option (Unit × Int32 × Int32 × Int32 × Int32 × Int64 × Int32)) (ih8 : ∀ (v_next : Int32) (v_type : Int32) (v_place : Int32) (v_formerPlace : Int32) (v_word : Int64) (v_number : Int32) (H : Heap) (locs : List Loc) (ls : Array Slot), k8 v_next v_type v_place v_formerPlace v_word v_number = O → va_P D classes [(h_t, .inr (4, [.ref h_bytes, .int v_length, .int v_next, .int v_type, .int v_place, .int v_formerPlace, .long v_word, .int v_number])), (h_bytes, .inl (cB, 1200, .inl a_bytes))] H → va_D A [(h_t, .inr (4, [.ref h_bytes, .int v_length, .int v_next, .int v_type, .int v_place, .int v_formerPlace, .long v_word, .int v_number])), (h_bytes, .inl (cB, 1200, .inl a_bytes))] → va_S A s.heap H locs → lv_has ls 1 [(0, .ref h_t)] → W p l e rmX4_advance s m ([.ref h_t] : List Value).toArray below meth c H locs 0 0 Q (F0 m 8 ls [])), ∀ (v_next : Int32) (v_type : Int32) (v_place : Int32) (v_formerPlace : Int32) (v_word : Int64) (v_number : Int32) (H : Heap) (locs : List Loc) (ls : Array Slot), FX4_advance_47 n v_length a_bytes k8 v_next v_type v_place v_formerPlace v_word v_number = O → va_P D classes [(h_t, .inr (4, [.ref h_bytes, .int v_length, .int v_next, .int v_type, .int v_place, .int v_formerPlace, .long v_word, .int v_number])), (h_bytes, .inl (cB, 1200, .inl a_bytes))] H → va_D A [(h_t, .inr (4, [.ref h_bytes, .int v_length, .int v_next, .int v_type, .int v_place, .int v_formerPlace, .long v_word, .int v_number])), (h_bytes, .inl (cB, 1200, .inl a_bytes))] → va_S A s.heap H locs → lv_has ls 1 [(0, .ref h_t)] → W p l e rmX4_advance s m ([.ref h_t] : List Value).toArray below meth c H locs 0 0 Q (F0 m 47 ls []) := by
    intro k8 ih8 v_next v_type v_place v_formerPlace v_word v_number H locs ls hF hP hD hS hl
    unfold FX4_advance_47 at hF
    refine lv_aload_n hx hb dX4_advance_47 rfl (lv_at hl 0 rfl) ?_
    refine lv_dup hx hb dX4_advance_48 rfl ?_
    refine va_get (D := D) (ci := 4) (C := RX4) (T := TX4) (N := 8) hx hb ha inAX4 hown hK hP 0 rfl rfl 2 (by decide) (ha _ w_1_89) (fun _ h9 => h9) rfl dX4_advance_49 ?_
    refine lv_iconst (v := 1) hx hb dX4_advance_52 (by decide) ?_
    refine lv_iadd hx hb dX4_advance_53 ?_
    refine lv_topi (fun x_21 ex_21 => ?_)
    replace hF := ltP ex_21 hF
    refine pt (C := RX4) (T := TX4) (N := 8) (ci := 4) (v := .int x_21) (W2 := [(h_t, .inr (4, [.ref h_bytes, .int v_length, .int x_21, .int v_type, .int v_place, .int v_formerPlace, .long v_word, .int v_number])), (h_bytes, .inl (cB, 1200, .inl a_bytes))]) hx hb ha inAX4 tyX4 tyX4_ok nmX4 hown hK hP hD hS 0 rfl rfl 2 (by decide) (ha _ w_1_89) rfl rfl rfl rfl (Nat.le_of_ble_eq_true rfl) dX4_advance_54 rfl (fun H locs hP hD hS => ?_)
    refine lv_goto (tgt := 8) hx hb dX4_advance_57 (by decide) ?_
    exact ih8 x_21 v_type v_place v_formerPlace v_word v_number H locs ls hF hP hD hS (lv_sub hl [0] rfl)
  have L154 : ∀ (v_next : Int32) (v_type : Int32) (v_place : Int32) (v_formerPlace : Int32) (v_word : Int64) (v_number : Int32) (y0 : Int32) (H : Heap) (locs : List Loc) (ls : Array Slot), FX4_advance_154 n v_length a_bytes v_next v_type v_place v_formerPlace v_word v_number y0 = O → va_P D classes [(h_t, .inr (4, [.ref h_bytes, .int v_length, .int v_next, .int v_type, .int v_place, .int v_formerPlace, .long v_word, .int v_number])), (h_bytes, .inl (cB, 1200, .inl a_bytes))] H → va_D A [(h_t, .inr (4, [.ref h_bytes, .int v_length, .int v_next, .int v_type, .int v_place, .int v_formerPlace, .long v_word, .int v_number])), (h_bytes, .inl (cB, 1200, .inl a_bytes))] → va_S A s.heap H locs → lv_has ls 1 [(0, .ref h_t)] → W p l e rmX4_advance s m ([.ref h_t] : List Value).toArray below meth c H locs 0 0 Q (F0 m 154 ls [.int y0, .ref h_t]) := by
    intro v_next v_type v_place v_formerPlace v_word v_number y0 H locs ls hF hP hD hS hl
    unfold FX4_advance_154 at hF
    refine pt (C := RX4) (T := TX4) (N := 8) (ci := 4) (v := .int y0) (W2 := [(h_t, .inr (4, [.ref h_bytes, .int v_length, .int v_next, .int y0, .int v_place, .int v_formerPlace, .long v_word, .int v_number])), (h_bytes, .inl (cB, 1200, .inl a_bytes))]) hx hb ha inAX4 tyX4 tyX4_ok nmX4 hown hK hP hD hS 0 rfl rfl 3 (by decide) (ha _ w_1_91) rfl rfl rfl rfl (Nat.le_of_ble_eq_true rfl) dX4_advance_154 rfl (fun H locs hP hD hS => ?_)
    refine lv_aload_n hx hb dX4_advance_157 rfl (lv_at hl 0 rfl) ?_
    refine lv_dup hx hb dX4_advance_158 rfl ?_
    refine va_get (D := D) (ci := 4) (C := RX4) (T := TX4) (N := 8) hx hb ha inAX4 hown hK hP 0 rfl rfl 2 (by decide) (ha _ w_1_89) (fun _ h9 => h9) rfl dX4_advance_159 ?_
    refine lv_iconst (v := 1) hx hb dX4_advance_162 (by decide) ?_
    refine lv_iadd hx hb dX4_advance_163 ?_
    refine lv_topi (fun x_22 ex_22 => ?_)
    replace hF := ltP ex_22 hF
    refine pt (C := RX4) (T := TX4) (N := 8) (ci := 4) (v := .int x_22) (W2 := [(h_t, .inr (4, [.ref h_bytes, .int v_length, .int x_22, .int y0, .int v_place, .int v_formerPlace, .long v_word, .int v_number])), (h_bytes, .inl (cB, 1200, .inl a_bytes))]) hx hb ha inAX4 tyX4 tyX4_ok nmX4 hown hK hP hD hS 0 rfl rfl 2 (by decide) (ha _ w_1_89) rfl rfl rfl rfl (Nat.le_of_ble_eq_true rfl) dX4_advance_164 rfl (fun H locs hP hD hS => ?_)
    exact hret ((), x_22, y0, v_place, v_formerPlace, v_word, v_number) H locs ls _ hF hP hD hS dX4_advance_167
  have L60 : ∀ (v_next : Int32) (v_type : Int32) (v_place : Int32) (v_formerPlace : Int32) (v_word : Int64) (v_number : Int32) (H : Heap) (locs : List Loc) (ls : Array Slot), FX4_advance_60 n v_length a_bytes v_next v_type v_place v_formerPlace v_word v_number = O → va_P D classes [(h_t, .inr (4, [.ref h_bytes, .int v_length, .int v_next, .int v_type, .int v_place, .int v_formerPlace, .long v_word, .int v_number])), (h_bytes, .inl (cB, 1200, .inl a_bytes))] H → va_D A [(h_t, .inr (4, [.ref h_bytes, .int v_length, .int v_next, .int v_type, .int v_place, .int v_formerPlace, .long v_word, .int v_number])), (h_bytes, .inl (cB, 1200, .inl a_bytes))] → va_S A s.heap H locs → lv_has ls 1 [(0, .ref h_t)] → W p l e rmX4_advance s m ([.ref h_t] : List Value).toArray below meth c H locs 0 0 Q (F0 m 60 ls []) := by
    intro v_next v_type v_place v_formerPlace v_word v_number H locs ls hF hP hD hS hl
    unfold FX4_advance_60 at hF
    refine lv_aload_n hx hb dX4_advance_60 rfl (lv_at hl 0 rfl) ?_
    refine lv_aload_n hx hb dX4_advance_61 rfl (lv_at hl 0 rfl) ?_
    refine va_get (D := D) (ci := 4) (C := RX4) (T := TX4) (N := 8) hx hb ha inAX4 hown hK hP 0 rfl rfl 2 (by decide) (ha _ w_1_89) (fun _ h9 => h9) rfl dX4_advance_62 ?_
    refine pt (C := RX4) (T := TX4) (N := 8) (ci := 4) (v := .int v_next) (W2 := [(h_t, .inr (4, [.ref h_bytes, .int v_length, .int v_next, .int v_type, .int v_next, .int v_formerPlace, .long v_word, .int v_number])), (h_bytes, .inl (cB, 1200, .inl a_bytes))]) hx hb ha inAX4 tyX4 tyX4_ok nmX4 hown hK hP hD hS 0 rfl rfl 4 (by decide) (ha _ w_1_92) rfl rfl rfl rfl (Nat.le_of_ble_eq_true rfl) dX4_advance_65 rfl (fun H locs hP hD hS => ?_)
    refine lv_aload_n hx hb dX4_advance_68 rfl (lv_at hl 0 rfl) ?_
    refine va_get (D := D) (ci := 4) (C := RX4) (T := TX4) (N := 8) hx hb ha inAX4 hown hK hP 0 rfl rfl 2 (by decide) (ha _ w_1_89) (fun _ h9 => h9) rfl dX4_advance_69 ?_
    refine lv_aload_n hx hb dX4_advance_72 rfl (lv_at hl 0 rfl) ?_
    refine va_get (D := D) (ci := 4) (C := RX4) (T := TX4) (N := 8) hx hb ha inAX4 hown hK hP 0 rfl rfl 1 (by decide) (ha _ w_1_87) (fun _ h9 => h9) rfl dX4_advance_73 ?_
    refine lv_icmp_lt (tgt := 88) hx hb dX4_advance_76 (by decide) (fun c_6 => ?_) (fun c_6 => ?_)
    · replace hF := ifT c_6 hF
      refine lv_aload_n hx hb dX4_advance_88 rfl (lv_at hl 0 rfl) ?_
      refine va_get (D := D) (ci := 4) (C := RX4) (T := TX4) (N := 8) hx hb ha inAX4 hown hK hP 0 rfl rfl 0 (by decide) (ha _ w_1_86) (fun _ h9 => h9) rfl dX4_advance_89 ?_
      refine lv_aload_n hx hb dX4_advance_92 rfl (lv_at hl 0 rfl) ?_
      refine va_get (D := D) (ci := 4) (C := RX4) (T := TX4) (N := 8) hx hb ha inAX4 hown hK hP 0 rfl rfl 2 (by decide) (ha _ w_1_89) (fun _ h9 => h9) rfl dX4_advance_93 ?_
      replace hF := ckP hN hF
      obtain ⟨c_7, hF⟩ := hF
      refine ld_b hx hb hK hP 1 rfl c_7 dX4_advance_96 ?_
      have hn_8 := bdN hN hF
      refine callSZ (As := [.int (a_bytes (v_next).toNatClampNeg)]) (rest := []) (wr := [(h_t, .inr (4, [.ref h_bytes, .int v_length, .int v_next, .int v_type, .int v_next, .int v_formerPlace, .long v_word, .int v_number])), (h_bytes, .inl (cB, 1200, .inl a_bytes))]) (W2 := fun u_9 => [(h_t, .inr (4, [.ref h_bytes, .int v_length, .int v_next, .int v_type, .int v_next, .int v_formerPlace, .long v_word, .int v_number])), (h_bytes, .inl (cB, 1200, .inl a_bytes))]) X hE hP hD hS hA (kX4_isLetter l D cB cI cJ cZ rz n H.size (a_bytes (v_next).toNatClampNeg) hn_8) w_2_64 w_2_65 w_1_4 w_2_66 cb_X4_isLetter rfl rfl ⟨Nat.le_of_ble_eq_true rfl, Nat.le_of_ble_eq_true rfl⟩ rfl hl.1 rfl (Nat.le_of_ble_eq_true rfl) dX4_advance_97 ⟨Nat.le_of_ble_eq_true rfl, Nat.le_of_ble_eq_true rfl⟩ (c2 := 0) (s2 := 0) rfl rfl [] [0, 1] [0, 1] rfl rfl (by decide) (by decide) (by decide) (by decide) (fun _ => rfl) (fun u_9 H locs hG hzu_9 hP hD hS => ?_)
      replace hF := bdQ hG hF
      refine lv_if_eq (tgt := 110) hx hb dX4_advance_100 (by decide) (fun c_10 => ?_) (fun c_10 => ?_)
      · replace hF := ifT c_10 hF
        refine lv_aload_n hx hb dX4_advance_110 rfl (lv_at hl 0 rfl) ?_
        refine va_get (D := D) (ci := 4) (C := RX4) (T := TX4) (N := 8) hx hb ha inAX4 hown hK hP 0 rfl rfl 0 (by decide) (ha _ w_1_86) (fun _ h9 => h9) rfl dX4_advance_111 ?_
        refine lv_aload_n hx hb dX4_advance_114 rfl (lv_at hl 0 rfl) ?_
        refine va_get (D := D) (ci := 4) (C := RX4) (T := TX4) (N := 8) hx hb ha inAX4 hown hK hP 0 rfl rfl 2 (by decide) (ha _ w_1_89) (fun _ h9 => h9) rfl dX4_advance_115 ?_
        replace hF := ckP hN hF
        obtain ⟨c_11, hF⟩ := hF
        refine ld_b hx hb hK hP 1 rfl c_11 dX4_advance_118 ?_
        have hn_12 := bdN hN hF
        refine callSZ (As := [.int (a_bytes (v_next).toNatClampNeg)]) (rest := []) (wr := [(h_t, .inr (4, [.ref h_bytes, .int v_length, .int v_next, .int v_type, .int v_next, .int v_formerPlace, .long v_word, .int v_number])), (h_bytes, .inl (cB, 1200, .inl a_bytes))]) (W2 := fun u_13 => [(h_t, .inr (4, [.ref h_bytes, .int v_length, .int v_next, .int v_type, .int v_next, .int v_formerPlace, .long v_word, .int v_number])), (h_bytes, .inl (cB, 1200, .inl a_bytes))]) X hE hP hD hS hA (kX4_isDigit l D cB cI cJ cZ rz n H.size (a_bytes (v_next).toNatClampNeg) hn_12) w_2_73 w_2_74 w_1_4 w_2_75 cb_X4_isDigit rfl rfl ⟨Nat.le_of_ble_eq_true rfl, Nat.le_of_ble_eq_true rfl⟩ rfl hl.1 rfl (Nat.le_of_ble_eq_true rfl) dX4_advance_119 ⟨Nat.le_of_ble_eq_true rfl, Nat.le_of_ble_eq_true rfl⟩ (c2 := 0) (s2 := 0) rfl rfl [] [0, 1] [0, 1] rfl rfl (by decide) (by decide) (by decide) (by decide) (fun _ => rfl) (fun u_13 H locs hG hzu_13 hP hD hS => ?_)
        replace hF := bdQ hG hF
        refine lv_if_eq (tgt := 132) hx hb dX4_advance_122 (by decide) (fun c_14 => ?_) (fun c_14 => ?_)
        · replace hF := ifT c_14 hF
          refine lv_aload_n hx hb dX4_advance_132 rfl (lv_at hl 0 rfl) ?_
          refine lv_aload_n hx hb dX4_advance_133 rfl (lv_at hl 0 rfl) ?_
          refine va_get (D := D) (ci := 4) (C := RX4) (T := TX4) (N := 8) hx hb ha inAX4 hown hK hP 0 rfl rfl 0 (by decide) (ha _ w_1_86) (fun _ h9 => h9) rfl dX4_advance_134 ?_
          refine lv_aload_n hx hb dX4_advance_137 rfl (lv_at hl 0 rfl) ?_
          refine va_get (D := D) (ci := 4) (C := RX4) (T := TX4) (N := 8) hx hb ha inAX4 hown hK hP 0 rfl rfl 2 (by decide) (ha _ w_1_89) (fun _ h9 => h9) rfl dX4_advance_138 ?_
          replace hF := ckP hN hF
          obtain ⟨c_15, hF⟩ := hF
          refine ld_b hx hb hK hP 1 rfl c_15 dX4_advance_141 ?_
          refine lv_bipush (v := 59) hx hb dX4_advance_142 (by decide) ?_
          refine lv_icmp_ne (tgt := 152) hx hb dX4_advance_144 (by decide) (fun c_16 => ?_) (fun c_16 => ?_)
          · replace hF := ifF c_16 hF
            refine lv_bipush (v := 11) hx hb dX4_advance_152 (by decide) ?_
            exact L154 v_next v_type v_next v_formerPlace v_word v_number (11 : Int32) H locs ls hF hP hD hS (lv_sub hl [0] rfl)
          · replace hF := ifT c_16 hF
            refine lv_bipush (v := 9) hx hb dX4_advance_147 (by decide) ?_
            refine lv_goto (tgt := 154) hx hb dX4_advance_149 (by decide) ?_
            exact L154 v_next v_type v_next v_formerPlace v_word v_number (9 : Int32) H locs ls hF hP hD hS (lv_sub hl [0] rfl)
        · replace hF := ifF c_14 hF
          refine lv_aload_n hx hb dX4_advance_125 rfl (lv_at hl 0 rfl) ?_
          have hn_17 := bdN hN hF
          refine callVV (As := []) (rest := []) (wr := []) (W2 := fun u_18 => [(h_t, .inr (4, [.ref h_bytes, .int v_length, .int u_18.2.1, .int u_18.2.2.1, .int v_next, .int v_formerPlace, .long v_word, .int u_18.2.2.2])), (h_bytes, .inl (cB, 1200, .inl a_bytes))]) X hE hP hD hS hA (kX4_scanNumber l D cB cI cJ cZ rz n H.size h_t h_bytes v_length v_next v_type v_next v_formerPlace v_word v_number a_bytes hn_17) w_2_76 w_2_78 ws_6 w_1_4 w_2_79 cb_X4_scanNumber rfl rfl ⟨Nat.le_of_ble_eq_true rfl, Nat.le_of_ble_eq_true rfl⟩ rfl hl.1 rfl (Nat.le_of_ble_eq_true rfl) dX4_advance_126 ⟨Nat.le_of_ble_eq_true rfl, Nat.le_of_ble_eq_true rfl⟩ (c2 := 0) (s2 := 0) rfl rfl (k0 := 0) rfl rfl [0, 1] [] [0, 1] rfl rfl (by decide) (by decide) (by decide) (by decide) (fun _ => rfl) (fun u_18 H locs hG hP hD hS => ?_)
          replace hF := bdQ hG hF
          refine lv_goto (tgt := 167) hx hb dX4_advance_129 (by decide) ?_
          exact hret ((), u_18.2.1, u_18.2.2.1, v_next, v_formerPlace, v_word, u_18.2.2.2) H locs ls _ hF hP hD hS dX4_advance_167
      · replace hF := ifF c_10 hF
        refine lv_aload_n hx hb dX4_advance_103 rfl (lv_at hl 0 rfl) ?_
        have hn_19 := bdN hN hF
        refine callVV (As := []) (rest := []) (wr := []) (W2 := fun u_20 => [(h_t, .inr (4, [.ref h_bytes, .int v_length, .int u_20.2.1, .int u_20.2.2.1, .int v_next, .int v_formerPlace, .long u_20.2.2.2, .int v_number])), (h_bytes, .inl (cB, 1200, .inl a_bytes))]) X hE hP hD hS hA (kX4_scanWord l D cB cI cJ cZ rz n H.size h_t h_bytes v_length v_next v_type v_next v_formerPlace v_word v_number a_bytes hn_19) w_2_67 w_2_69 ws_5 w_1_4 w_2_70 cb_X4_scanWord rfl rfl ⟨Nat.le_of_ble_eq_true rfl, Nat.le_of_ble_eq_true rfl⟩ rfl hl.1 rfl (Nat.le_of_ble_eq_true rfl) dX4_advance_104 ⟨Nat.le_of_ble_eq_true rfl, Nat.le_of_ble_eq_true rfl⟩ (c2 := 0) (s2 := 0) rfl rfl (k0 := 0) rfl rfl [0, 1] [] [0, 1] rfl rfl (by decide) (by decide) (by decide) (by decide) (fun _ => rfl) (fun u_20 H locs hG hP hD hS => ?_)
        replace hF := bdQ hG hF
        refine lv_goto (tgt := 167) hx hb dX4_advance_107 (by decide) ?_
        exact hret ((), u_20.2.1, u_20.2.2.1, v_next, v_formerPlace, u_20.2.2.2, v_number) H locs ls _ hF hP hD hS dX4_advance_167
    · replace hF := ifF c_6 hF
      refine lv_aload_n hx hb dX4_advance_79 rfl (lv_at hl 0 rfl) ?_
      refine lv_bipush (v := 10) hx hb dX4_advance_80 (by decide) ?_
      refine pt (C := RX4) (T := TX4) (N := 8) (ci := 4) (v := .int (10 : Int32)) (W2 := [(h_t, .inr (4, [.ref h_bytes, .int v_length, .int v_next, .int (10 : Int32), .int v_next, .int v_formerPlace, .long v_word, .int v_number])), (h_bytes, .inl (cB, 1200, .inl a_bytes))]) hx hb ha inAX4 tyX4 tyX4_ok nmX4 hown hK hP hD hS 0 rfl rfl 3 (by decide) (ha _ w_1_91) rfl rfl rfl rfl (Nat.le_of_ble_eq_true rfl) dX4_advance_82 rfl (fun H locs hP hD hS => ?_)
      refine lv_goto (tgt := 167) hx hb dX4_advance_85 (by decide) ?_
      exact hret ((), v_next, (10 : Int32), v_next, v_formerPlace, v_word, v_number) H locs ls _ hF hP hD hS dX4_advance_167
  have L8 : ∀ (k8 : Int32 → Int32 → Int32 → Int32 → Int64 → Int32 → Option (Unit × Int32 × Int32 × Int32 × Int32 × Int64 × Int32)) (ih8 : ∀ (v_next : Int32) (v_type : Int32) (v_place : Int32) (v_formerPlace : Int32) (v_word : Int64) (v_number : Int32) (H : Heap) (locs : List Loc) (ls : Array Slot), k8 v_next v_type v_place v_formerPlace v_word v_number = O → va_P D classes [(h_t, .inr (4, [.ref h_bytes, .int v_length, .int v_next, .int v_type, .int v_place, .int v_formerPlace, .long v_word, .int v_number])), (h_bytes, .inl (cB, 1200, .inl a_bytes))] H → va_D A [(h_t, .inr (4, [.ref h_bytes, .int v_length, .int v_next, .int v_type, .int v_place, .int v_formerPlace, .long v_word, .int v_number])), (h_bytes, .inl (cB, 1200, .inl a_bytes))] → va_S A s.heap H locs → lv_has ls 1 [(0, .ref h_t)] → W p l e rmX4_advance s m ([.ref h_t] : List Value).toArray below meth c H locs 0 0 Q (F0 m 8 ls [])), ∀ (v_next : Int32) (v_type : Int32) (v_place : Int32) (v_formerPlace : Int32) (v_word : Int64) (v_number : Int32) (H : Heap) (locs : List Loc) (ls : Array Slot), FX4_advance_8 n v_length a_bytes k8 v_next v_type v_place v_formerPlace v_word v_number = O → va_P D classes [(h_t, .inr (4, [.ref h_bytes, .int v_length, .int v_next, .int v_type, .int v_place, .int v_formerPlace, .long v_word, .int v_number])), (h_bytes, .inl (cB, 1200, .inl a_bytes))] H → va_D A [(h_t, .inr (4, [.ref h_bytes, .int v_length, .int v_next, .int v_type, .int v_place, .int v_formerPlace, .long v_word, .int v_number])), (h_bytes, .inl (cB, 1200, .inl a_bytes))] → va_S A s.heap H locs → lv_has ls 1 [(0, .ref h_t)] → W p l e rmX4_advance s m ([.ref h_t] : List Value).toArray below meth c H locs 0 0 Q (F0 m 8 ls []) := by
    intro k8 ih8 v_next v_type v_place v_formerPlace v_word v_number H locs ls hF hP hD hS hl
    unfold FX4_advance_8 at hF
    refine lv_aload_n hx hb dX4_advance_8 rfl (lv_at hl 0 rfl) ?_
    refine va_get (D := D) (ci := 4) (C := RX4) (T := TX4) (N := 8) hx hb ha inAX4 hown hK hP 0 rfl rfl 2 (by decide) (ha _ w_1_89) (fun _ h9 => h9) rfl dX4_advance_9 ?_
    refine lv_aload_n hx hb dX4_advance_12 rfl (lv_at hl 0 rfl) ?_
    refine va_get (D := D) (ci := 4) (C := RX4) (T := TX4) (N := 8) hx hb ha inAX4 hown hK hP 0 rfl rfl 1 (by decide) (ha _ w_1_87) (fun _ h9 => h9) rfl dX4_advance_13 ?_
    refine lv_icmp_ge (tgt := 60) hx hb dX4_advance_16 (by decide) (fun c_1 => ?_) (fun c_1 => ?_)
    · replace hF := ifT c_1 hF
      exact L60 v_next v_type v_place v_formerPlace v_word v_number H locs ls hF hP hD hS (lv_sub hl [0] rfl)
    · replace hF := ifF c_1 hF
      refine lv_aload_n hx hb dX4_advance_19 rfl (lv_at hl 0 rfl) ?_
      refine va_get (D := D) (ci := 4) (C := RX4) (T := TX4) (N := 8) hx hb ha inAX4 hown hK hP 0 rfl rfl 0 (by decide) (ha _ w_1_86) (fun _ h9 => h9) rfl dX4_advance_20 ?_
      refine lv_aload_n hx hb dX4_advance_23 rfl (lv_at hl 0 rfl) ?_
      refine va_get (D := D) (ci := 4) (C := RX4) (T := TX4) (N := 8) hx hb ha inAX4 hown hK hP 0 rfl rfl 2 (by decide) (ha _ w_1_89) (fun _ h9 => h9) rfl dX4_advance_24 ?_
      replace hF := ckP hN hF
      obtain ⟨c_2, hF⟩ := hF
      refine ld_b hx hb hK hP 1 rfl c_2 dX4_advance_27 ?_
      refine lv_bipush (v := 32) hx hb dX4_advance_28 (by decide) ?_
      refine lv_icmp_eq (tgt := 47) hx hb dX4_advance_30 (by decide) (fun c_3 => ?_) (fun c_3 => ?_)
      · replace hF := ifT c_3 hF
        exact L47 k8 ih8 v_next v_type v_place v_formerPlace v_word v_number H locs ls hF hP hD hS (lv_sub hl [0] rfl)
      · replace hF := ifF c_3 hF
        refine lv_aload_n hx hb dX4_advance_33 rfl (lv_at hl 0 rfl) ?_
        refine va_get (D := D) (ci := 4) (C := RX4) (T := TX4) (N := 8) hx hb ha inAX4 hown hK hP 0 rfl rfl 0 (by decide) (ha _ w_1_86) (fun _ h9 => h9) rfl dX4_advance_34 ?_
        refine lv_aload_n hx hb dX4_advance_37 rfl (lv_at hl 0 rfl) ?_
        refine va_get (D := D) (ci := 4) (C := RX4) (T := TX4) (N := 8) hx hb ha inAX4 hown hK hP 0 rfl rfl 2 (by decide) (ha _ w_1_89) (fun _ h9 => h9) rfl dX4_advance_38 ?_
        replace hF := ckP hN hF
        obtain ⟨c_4, hF⟩ := hF
        refine ld_b hx hb hK hP 1 rfl c_4 dX4_advance_41 ?_
        refine lv_bipush (v := 10) hx hb dX4_advance_42 (by decide) ?_
        refine lv_icmp_ne (tgt := 60) hx hb dX4_advance_44 (by decide) (fun c_5 => ?_) (fun c_5 => ?_)
        · replace hF := ifF c_5 hF
          exact L60 v_next v_type v_place v_formerPlace v_word v_number H locs ls hF hP hD hS (lv_sub hl [0] rfl)
        · replace hF := ifT c_5 hF
          exact L47 k8 ih8 v_next v_type v_place v_formerPlace v_word v_number H locs ls hF hP hD hS (lv_sub hl [0] rfl)
  have Lc8 : ∀ (j : Nat), ∀ (v_next : Int32) (v_type : Int32) (v_place : Int32) (v_formerPlace : Int32) (v_word : Int64) (v_number : Int32) (H : Heap) (locs : List Loc) (ls : Array Slot), FX4_advance_8L n v_length a_bytes j v_next v_type v_place v_formerPlace v_word v_number = O → va_P D classes [(h_t, .inr (4, [.ref h_bytes, .int v_length, .int v_next, .int v_type, .int v_place, .int v_formerPlace, .long v_word, .int v_number])), (h_bytes, .inl (cB, 1200, .inl a_bytes))] H → va_D A [(h_t, .inr (4, [.ref h_bytes, .int v_length, .int v_next, .int v_type, .int v_place, .int v_formerPlace, .long v_word, .int v_number])), (h_bytes, .inl (cB, 1200, .inl a_bytes))] → va_S A s.heap H locs → lv_has ls 1 [(0, .ref h_t)] → W p l e rmX4_advance s m ([.ref h_t] : List Value).toArray below meth c H locs 0 0 Q (F0 m 8 ls []) := by
    intro j
    induction j with
    | zero => intro _ _ _ _ _ _ H locs ls hF; exact absurd hF.symm hN
    | succ j ih => exact L8 (FX4_advance_8L n v_length a_bytes j) ih
  unfold FX4_advance at hF
  obtain ⟨H, hH⟩ : ∃ H, H = s.heap := ⟨_, rfl⟩
  obtain ⟨locs, hlo⟩ : ∃ locs : List Loc, locs = [] := ⟨_, rfl⟩
  have hS : va_S A s.heap H locs := by rw [hH, hlo]; exact hS
  rw [← hH] at hP
  have goal : W p l e rmX4_advance s m ([.ref h_t] : List Value).toArray below meth c H locs 0 0 Q (F0 m 0 ls []) := by
    refine lv_aload_n hx hb dX4_advance_0 rfl (lv_at hl 0 rfl) ?_
    refine lv_aload_n hx hb dX4_advance_1 rfl (lv_at hl 0 rfl) ?_
    refine va_get (D := D) (ci := 4) (C := RX4) (T := TX4) (N := 8) hx hb ha inAX4 hown hK hP 0 rfl rfl 4 (by decide) (ha _ w_1_92) (fun _ h9 => h9) rfl dX4_advance_2 ?_
    refine pt (C := RX4) (T := TX4) (N := 8) (ci := 4) (v := .int v_place) (W2 := [(h_t, .inr (4, [.ref h_bytes, .int v_length, .int v_next, .int v_type, .int v_place, .int v_place, .long v_word, .int v_number])), (h_bytes, .inl (cB, 1200, .inl a_bytes))]) hx hb ha inAX4 tyX4 tyX4_ok nmX4 hown hK hP hD hS 0 rfl rfl 5 (by decide) (ha _ w_1_95) rfl rfl rfl rfl (Nat.le_of_ble_eq_true rfl) dX4_advance_5 rfl (fun H locs hP hD hS => ?_)
    exact Lc8 n v_next v_type v_place v_place v_word v_number H locs ls hF hP hD hS (lv_sub hl [0] rfl)
  rw [hH, hlo] at goal
  exact goal
theorem dX4_start_0 : decode cX4_start 0 = .ok (.aload_n 0, 1) := by decide +kernel
theorem dX4_start_1 : decode cX4_start 1 = .ok (.iconst 0, 1) := by decide +kernel
theorem dX4_start_2 : decode cX4_start 2 = .ok (.putfield 19, 3) := by decide +kernel
theorem dX4_start_5 : decode cX4_start 5 = .ok (.aload_n 0, 1) := by decide +kernel
theorem dX4_start_6 : decode cX4_start 6 = .ok (.iconst 0, 1) := by decide +kernel
theorem dX4_start_7 : decode cX4_start 7 = .ok (.putfield 22, 3) := by decide +kernel
theorem dX4_start_10 : decode cX4_start 10 = .ok (.aload_n 0, 1) := by decide +kernel
theorem dX4_start_11 : decode cX4_start 11 = .ok (.invokevirtual 25, 3) := by decide +kernel
theorem dX4_start_14 : decode cX4_start 14 = .ok (.return_, 1) := by decide +kernel
abbrev rmX4_start : Room := { frames := 3, cells := 0, slots := 0, locals := 61 }
theorem cb_X4_start : CBn yX4_start 0 := ⟨by decide +kernel, by decide +kernel, by decide +kernel⟩
def FX4_start (n : Nat) (v_length : Int32) (v_next : Int32) (v_type : Int32) (v_place : Int32) (v_formerPlace : Int32) (v_word : Int64) (v_number : Int32) (a_bytes : Nat → Int32) : Option (Unit × Int32 × Int32 × Int32 × Int32 × Int64 × Int32) := bd (FX4_advance n v_length (0 : Int32) v_type (0 : Int32) v_formerPlace v_word v_number a_bytes) (fun u_2 => some ((), u_2.2.1, u_2.2.2.1, u_2.2.2.2.1, u_2.2.2.2.2.1, u_2.2.2.2.2.2.1, u_2.2.2.2.2.2.2))
set_option maxHeartbeats 4000000 in
set_option maxRecDepth 100000 in
theorem kX4_start (l : Launch) (D : va_G) (cB cI cJ cZ : ClassId) (rz n sz : Nat) (h_t : Nat) (h_bytes : Nat) (v_length : Int32) (v_next : Int32) (v_type : Int32) (v_place : Int32) (v_formerPlace : Int32) (v_word : Int64) (v_number : Int32) (a_bytes : Nat → Int32) (hN : FX4_start n v_length v_next v_type v_place v_formerPlace v_word v_number a_bytes ≠ none) : Met l yX4_start (Cond.code yX4_start cX4_start 1 none :: AL) rmX4_start (PW D cB cI cJ cZ rz [.ref h_t] [(h_t, .inr (4, [.ref h_bytes, .int v_length, .int v_next, .int v_type, .int v_place, .int v_formerPlace, .long v_word, .int v_number])), (h_bytes, .inl (cB, 1200, .inl a_bytes))] sz) (QV D (FX4_start n v_length v_next v_type v_place v_formerPlace v_word v_number a_bytes) (fun u => [(h_t, .inr (4, [.ref h_bytes, .int v_length, .int u.2.1, .int u.2.2.1, .int u.2.2.2.1, .int u.2.2.2.2.1, .long u.2.2.2.2.2.1, .int u.2.2.2.2.2.2])), (h_bytes, .inl (cB, 1200, .inl a_bytes))]) (va_A [(h_t, .inr (4, [.ref h_bytes, .int v_length, .int v_next, .int v_type, .int v_place, .int v_formerPlace, .long v_word, .int v_number])), (h_bytes, .inl (cB, 1200, .inl a_bytes))] sz)) 0 0 (va_A [(h_t, .inr (4, [.ref h_bytes, .int v_length, .int v_next, .int v_type, .int v_place, .int v_formerPlace, .long v_word, .int v_number])), (h_bytes, .inl (cB, 1200, .inl a_bytes))] sz) := by
  obtain ⟨O, hF⟩ : ∃ O, FX4_start n v_length v_next v_type v_place v_formerPlace v_word v_number a_bytes = O := ⟨_, rfl⟩
  rw [hF] at hN ⊢
  refine enterV (cc := cX4_start) (nL := 1) (by decide) (Nat.le_of_ble_eq_true rfl) ?_
  intro p e s m below meth c A Q X hA hE hnm hsz hP hD hS hret ls hl
  obtain ⟨hx, hb, hml, hown0, ha⟩ := id X
  have hown : s.vm.findClass RX4 = some m.cls := hown0
  have hK := hE.1
  have hl : lv_has ls 1 [(0, .ref h_t)] := hl
  have hX : CallFix p m c cX4_start 1 s ([.ref h_t] : List Value).toArray AL RX4 := X
  have X := hX
  unfold FX4_start at hF
  obtain ⟨H, hH⟩ : ∃ H, H = s.heap := ⟨_, rfl⟩
  obtain ⟨locs, hlo⟩ : ∃ locs : List Loc, locs = [] := ⟨_, rfl⟩
  have hS : va_S A s.heap H locs := by rw [hH, hlo]; exact hS
  rw [← hH] at hP
  have goal : W p l e rmX4_start s m ([.ref h_t] : List Value).toArray below meth c H locs 0 0 Q (F0 m 0 ls []) := by
    refine lv_aload_n hx hb dX4_start_0 rfl (lv_at hl 0 rfl) ?_
    refine lv_iconst (v := 0) hx hb dX4_start_1 (by decide) ?_
    refine pt (C := RX4) (T := TX4) (N := 8) (ci := 4) (v := .int (0 : Int32)) (W2 := [(h_t, .inr (4, [.ref h_bytes, .int v_length, .int (0 : Int32), .int v_type, .int v_place, .int v_formerPlace, .long v_word, .int v_number])), (h_bytes, .inl (cB, 1200, .inl a_bytes))]) hx hb ha inAX4 tyX4 tyX4_ok nmX4 hown hK hP hD hS 0 rfl rfl 2 (by decide) (ha _ w_1_89) rfl rfl rfl rfl (Nat.le_of_ble_eq_true rfl) dX4_start_2 rfl (fun H locs hP hD hS => ?_)
    refine lv_aload_n hx hb dX4_start_5 rfl (lv_at hl 0 rfl) ?_
    refine lv_iconst (v := 0) hx hb dX4_start_6 (by decide) ?_
    refine pt (C := RX4) (T := TX4) (N := 8) (ci := 4) (v := .int (0 : Int32)) (W2 := [(h_t, .inr (4, [.ref h_bytes, .int v_length, .int (0 : Int32), .int v_type, .int (0 : Int32), .int v_formerPlace, .long v_word, .int v_number])), (h_bytes, .inl (cB, 1200, .inl a_bytes))]) hx hb ha inAX4 tyX4 tyX4_ok nmX4 hown hK hP hD hS 0 rfl rfl 4 (by decide) (ha _ w_1_92) rfl rfl rfl rfl (Nat.le_of_ble_eq_true rfl) dX4_start_7 rfl (fun H locs hP hD hS => ?_)
    refine lv_aload_n hx hb dX4_start_10 rfl (lv_at hl 0 rfl) ?_
    have hn_1 := bdN hN hF
    refine callVV (As := []) (rest := []) (wr := []) (W2 := fun u_2 => [(h_t, .inr (4, [.ref h_bytes, .int v_length, .int u_2.2.1, .int u_2.2.2.1, .int u_2.2.2.2.1, .int u_2.2.2.2.2.1, .long u_2.2.2.2.2.2.1, .int u_2.2.2.2.2.2.2])), (h_bytes, .inl (cB, 1200, .inl a_bytes))]) X hE hP hD hS hA (kX4_advance l D cB cI cJ cZ rz n H.size h_t h_bytes v_length (0 : Int32) v_type (0 : Int32) v_formerPlace v_word v_number a_bytes hn_1) w_2_60 w_2_62 ws_4 w_1_4 w_2_63 cb_X4_advance rfl rfl ⟨Nat.le_of_ble_eq_true rfl, Nat.le_of_ble_eq_true rfl⟩ rfl hl.1 rfl (Nat.le_of_ble_eq_true rfl) dX4_start_11 ⟨Nat.le_of_ble_eq_true rfl, Nat.le_of_ble_eq_true rfl⟩ (c2 := 0) (s2 := 0) rfl rfl (k0 := 0) rfl rfl [0, 1] [] [0, 1] rfl rfl (by decide) (by decide) (by decide) (by decide) (fun _ => rfl) (fun u_2 H locs hG hP hD hS => ?_)
    replace hF := bdQ hG hF
    exact hret ((), u_2.2.1, u_2.2.2.1, u_2.2.2.2.1, u_2.2.2.2.2.1, u_2.2.2.2.2.2.1, u_2.2.2.2.2.2.2) H locs ls _ hF hP hD hS dX4_start_14
  rw [hH, hlo] at goal
  exact goal
theorem dX3_fail_0 : decode cX3_fail 0 = .ok (.aload_n 0, 1) := by decide +kernel
theorem dX3_fail_1 : decode cX3_fail 1 = .ok (.getfield 48, 3) := by decide +kernel
theorem dX3_fail_4 : decode cX3_fail 4 = .ok (.ifCond .ne 13, 3) := by decide +kernel
theorem dX3_fail_7 : decode cX3_fail 7 = .ok (.aload_n 0, 1) := by decide +kernel
theorem dX3_fail_8 : decode cX3_fail 8 = .ok (.iload_n 1, 1) := by decide +kernel
theorem dX3_fail_9 : decode cX3_fail 9 = .ok (.putfield 48, 3) := by decide +kernel
theorem dX3_fail_12 : decode cX3_fail 12 = .ok (.aload_n 0, 1) := by decide +kernel
theorem dX3_fail_13 : decode cX3_fail 13 = .ok (.iload_n 2, 1) := by decide +kernel
theorem dX3_fail_14 : decode cX3_fail 14 = .ok (.putfield 52, 3) := by decide +kernel
theorem dX3_fail_17 : decode cX3_fail 17 = .ok (.return_, 1) := by decide +kernel
abbrev rmX3_fail : Room := { frames := 0, cells := 0, slots := 0, locals := 0 }
theorem cb_X3_fail : CBn yX3_fail 2 := ⟨by decide +kernel, by decide +kernel, by decide +kernel⟩
def FX3_fail (n : Nat) (v_fault : Int32) (v_faultPlace : Int32) (z1 : Int32) (z2 : Int32) : Option (Unit × Int32 × Int32) := if v_fault = 0 then (some ((), z1, z2)) else (some ((), v_fault, v_faultPlace))
set_option maxHeartbeats 4000000 in
set_option maxRecDepth 100000 in
theorem kX3_fail (l : Launch) (D : va_G) (cB cI cJ cZ : ClassId) (rz n sz : Nat) (h_t : Nat) (h_tape : Nat) (h_draft : Nat) (h_names : Nat) (h_namePlaces : Nat) (h_nameUnits : Nat) (h_nameSettings : Nat) (h_setNames : Nat) (h_setValues : Nat) (v_fault : Int32) (v_faultPlace : Int32) (v_nameCount : Int32) (v_setCount : Int32) (z1 : Int32) (z2 : Int32) (hN : FX3_fail n v_fault v_faultPlace z1 z2 ≠ none) : Met l yX3_fail (Cond.code yX3_fail cX3_fail 3 none :: AL) rmX3_fail (PW D cB cI cJ cZ rz [.ref h_t, .int z1, .int z2] [(h_t, .inr (3, [.int v_fault, .int v_faultPlace, .ref h_tape, .ref h_draft, .ref h_names, .ref h_namePlaces, .ref h_nameUnits, .ref h_nameSettings, .int v_nameCount, .ref h_setNames, .ref h_setValues, .int v_setCount]))] sz) (QV D (FX3_fail n v_fault v_faultPlace z1 z2) (fun u => [(h_t, .inr (3, [.int u.2.1, .int u.2.2, .ref h_tape, .ref h_draft, .ref h_names, .ref h_namePlaces, .ref h_nameUnits, .ref h_nameSettings, .int v_nameCount, .ref h_setNames, .ref h_setValues, .int v_setCount]))]) (va_A [(h_t, .inr (3, [.int v_fault, .int v_faultPlace, .ref h_tape, .ref h_draft, .ref h_names, .ref h_namePlaces, .ref h_nameUnits, .ref h_nameSettings, .int v_nameCount, .ref h_setNames, .ref h_setValues, .int v_setCount]))] sz)) 0 0 (va_A [(h_t, .inr (3, [.int v_fault, .int v_faultPlace, .ref h_tape, .ref h_draft, .ref h_names, .ref h_namePlaces, .ref h_nameUnits, .ref h_nameSettings, .int v_nameCount, .ref h_setNames, .ref h_setValues, .int v_setCount]))] sz) := by
  obtain ⟨O, hF⟩ : ∃ O, FX3_fail n v_fault v_faultPlace z1 z2 = O := ⟨_, rfl⟩
  rw [hF] at hN ⊢
  refine enterV (cc := cX3_fail) (nL := 3) (by decide) (Nat.le_of_ble_eq_true rfl) ?_
  intro p e s m below meth c A Q X hA hE hnm hsz hP hD hS hret ls hl
  obtain ⟨hx, hb, hml, hown0, ha⟩ := id X
  have hown : s.vm.findClass RX3 = some m.cls := hown0
  have hK := hE.1
  have hl : lv_has ls 3 [(0, .ref h_t), (1, .int z1), (2, .int z2)] := hl
  have hX : CallFix p m c cX3_fail 3 s ([.ref h_t, .int z1, .int z2] : List Value).toArray AL RX3 := X
  have X := hX
  unfold FX3_fail at hF
  obtain ⟨H, hH⟩ : ∃ H, H = s.heap := ⟨_, rfl⟩
  obtain ⟨locs, hlo⟩ : ∃ locs : List Loc, locs = [] := ⟨_, rfl⟩
  have hS : va_S A s.heap H locs := by rw [hH, hlo]; exact hS
  rw [← hH] at hP
  have goal : W p l e rmX3_fail s m ([.ref h_t, .int z1, .int z2] : List Value).toArray below meth c H locs 0 0 Q (F0 m 0 ls []) := by
    refine lv_aload_n hx hb dX3_fail_0 rfl (lv_at hl 0 rfl) ?_
    refine va_get (D := D) (ci := 3) (C := RX3) (T := TX3) (N := 12) hx hb ha inAX3 hown hK hP 0 rfl rfl 0 (by decide) (ha _ w_1_120) (fun _ h9 => h9) rfl dX3_fail_1 ?_
    refine lv_if_ne (tgt := 17) hx hb dX3_fail_4 (by decide) (fun c_1 => ?_) (fun c_1 => ?_)
    · replace hF := ifF c_1 hF
      exact hret ((), v_fault, v_faultPlace) H locs ls _ hF hP hD hS dX3_fail_17
    · replace hF := ifT c_1 hF
      refine lv_aload_n hx hb dX3_fail_7 rfl (lv_at hl 0 rfl) ?_
      refine lv_iload_n hx hb dX3_fail_8 rfl (lv_at hl 1 rfl) ?_
      refine pt (C := RX3) (T := TX3) (N := 12) (ci := 3) (v := .int z1) (W2 := [(h_t, .inr (3, [.int z1, .int v_faultPlace, .ref h_tape, .ref h_draft, .ref h_names, .ref h_namePlaces, .ref h_nameUnits, .ref h_nameSettings, .int v_nameCount, .ref h_setNames, .ref h_setValues, .int v_setCount]))]) hx hb ha inAX3 tyX3 tyX3_ok nmX3 hown hK hP hD hS 0 rfl rfl 0 (by decide) (ha _ w_1_120) rfl rfl rfl rfl (Nat.le_of_ble_eq_true rfl) dX3_fail_9 rfl (fun H locs hP hD hS => ?_)
      refine lv_aload_n hx hb dX3_fail_12 rfl (lv_at hl 0 rfl) ?_
      refine lv_iload_n hx hb dX3_fail_13 rfl (lv_at hl 2 rfl) ?_
      refine pt (C := RX3) (T := TX3) (N := 12) (ci := 3) (v := .int z2) (W2 := [(h_t, .inr (3, [.int z1, .int z2, .ref h_tape, .ref h_draft, .ref h_names, .ref h_namePlaces, .ref h_nameUnits, .ref h_nameSettings, .int v_nameCount, .ref h_setNames, .ref h_setValues, .int v_setCount]))]) hx hb ha inAX3 tyX3 tyX3_ok nmX3 hown hK hP hD hS 0 rfl rfl 1 (by decide) (ha _ w_1_122) rfl rfl rfl rfl (Nat.le_of_ble_eq_true rfl) dX3_fail_14 rfl (fun H locs hP hD hS => ?_)
      exact hret ((), z1, z2) H locs ls _ hF hP hD hS dX3_fail_17
  rw [hH, hlo] at goal
  exact goal
theorem dX3_refuseToken_0 : decode cX3_refuseToken 0 = .ok (.aload_n 0, 1) := by decide +kernel
theorem dX3_refuseToken_1 : decode cX3_refuseToken 1 = .ok (.aload_n 0, 1) := by decide +kernel
theorem dX3_refuseToken_2 : decode cX3_refuseToken 2 = .ok (.getfield 12, 3) := by decide +kernel
theorem dX3_refuseToken_5 : decode cX3_refuseToken 5 = .ok (.getfield 64, 3) := by decide +kernel
theorem dX3_refuseToken_8 : decode cX3_refuseToken 8 = .ok (.bipush 11, 2) := by decide +kernel
theorem dX3_refuseToken_10 : decode cX3_refuseToken 10 = .ok (.if_icmp .ne 7, 3) := by decide +kernel
theorem dX3_refuseToken_13 : decode cX3_refuseToken 13 = .ok (.iconst 1, 1) := by decide +kernel
theorem dX3_refuseToken_14 : decode cX3_refuseToken 14 = .ok (.goto 4, 3) := by decide +kernel
theorem dX3_refuseToken_17 : decode cX3_refuseToken 17 = .ok (.iconst 2, 1) := by decide +kernel
theorem dX3_refuseToken_18 : decode cX3_refuseToken 18 = .ok (.aload_n 0, 1) := by decide +kernel
theorem dX3_refuseToken_19 : decode cX3_refuseToken 19 = .ok (.getfield 12, 3) := by decide +kernel
theorem dX3_refuseToken_22 : decode cX3_refuseToken 22 = .ok (.getfield 140, 3) := by decide +kernel
theorem dX3_refuseToken_25 : decode cX3_refuseToken 25 = .ok (.invokevirtual 98, 3) := by decide +kernel
theorem dX3_refuseToken_28 : decode cX3_refuseToken 28 = .ok (.return_, 1) := by decide +kernel
abbrev rmX3_refuseToken : Room := { frames := 1, cells := 0, slots := 0, locals := 22 }
theorem cb_X3_refuseToken : CBn yX3_refuseToken 0 := ⟨by decide +kernel, by decide +kernel, by decide +kernel⟩
def FX3_refuseToken_18 (n : Nat) (v_tape_type : Int32) (v_tape_place : Int32) (v_fault : Int32) (v_faultPlace : Int32) (y0 : Int32) : Option (Unit × Int32 × Int32) := bd (FX3_fail n v_fault v_faultPlace y0 v_tape_place) (fun u_3 => some ((), u_3.2.1, u_3.2.2))
def FX3_refuseToken (n : Nat) (v_fault : Int32) (v_faultPlace : Int32) (v_tape_type : Int32) (v_tape_place : Int32) : Option (Unit × Int32 × Int32) := if v_tape_type = (11 : Int32) then (FX3_refuseToken_18 n v_tape_type v_tape_place v_fault v_faultPlace (1 : Int32)) else (FX3_refuseToken_18 n v_tape_type v_tape_place v_fault v_faultPlace (2 : Int32))
set_option maxHeartbeats 4000000 in
set_option maxRecDepth 100000 in
theorem kX3_refuseToken (l : Launch) (D : va_G) (cB cI cJ cZ : ClassId) (rz n sz : Nat) (h_t : Nat) (h_tape : Nat) (h_draft : Nat) (h_names : Nat) (h_namePlaces : Nat) (h_nameUnits : Nat) (h_nameSettings : Nat) (h_setNames : Nat) (h_setValues : Nat) (h_tape_bytes : Nat) (v_fault : Int32) (v_faultPlace : Int32) (v_nameCount : Int32) (v_setCount : Int32) (v_tape_length : Int32) (v_tape_next : Int32) (v_tape_type : Int32) (v_tape_place : Int32) (v_tape_formerPlace : Int32) (v_tape_word : Int64) (v_tape_number : Int32) (hN : FX3_refuseToken n v_fault v_faultPlace v_tape_type v_tape_place ≠ none) : Met l yX3_refuseToken (Cond.code yX3_refuseToken cX3_refuseToken 1 none :: AL) rmX3_refuseToken (PW D cB cI cJ cZ rz [.ref h_t] [(h_t, .inr (3, [.int v_fault, .int v_faultPlace, .ref h_tape, .ref h_draft, .ref h_names, .ref h_namePlaces, .ref h_nameUnits, .ref h_nameSettings, .int v_nameCount, .ref h_setNames, .ref h_setValues, .int v_setCount])), (h_tape, .inr (4, [.ref h_tape_bytes, .int v_tape_length, .int v_tape_next, .int v_tape_type, .int v_tape_place, .int v_tape_formerPlace, .long v_tape_word, .int v_tape_number]))] sz) (QV D (FX3_refuseToken n v_fault v_faultPlace v_tape_type v_tape_place) (fun u => [(h_t, .inr (3, [.int u.2.1, .int u.2.2, .ref h_tape, .ref h_draft, .ref h_names, .ref h_namePlaces, .ref h_nameUnits, .ref h_nameSettings, .int v_nameCount, .ref h_setNames, .ref h_setValues, .int v_setCount])), (h_tape, .inr (4, [.ref h_tape_bytes, .int v_tape_length, .int v_tape_next, .int v_tape_type, .int v_tape_place, .int v_tape_formerPlace, .long v_tape_word, .int v_tape_number]))]) (va_A [(h_t, .inr (3, [.int v_fault, .int v_faultPlace, .ref h_tape, .ref h_draft, .ref h_names, .ref h_namePlaces, .ref h_nameUnits, .ref h_nameSettings, .int v_nameCount, .ref h_setNames, .ref h_setValues, .int v_setCount])), (h_tape, .inr (4, [.ref h_tape_bytes, .int v_tape_length, .int v_tape_next, .int v_tape_type, .int v_tape_place, .int v_tape_formerPlace, .long v_tape_word, .int v_tape_number]))] sz)) 0 0 (va_A [(h_t, .inr (3, [.int v_fault, .int v_faultPlace, .ref h_tape, .ref h_draft, .ref h_names, .ref h_namePlaces, .ref h_nameUnits, .ref h_nameSettings, .int v_nameCount, .ref h_setNames, .ref h_setValues, .int v_setCount])), (h_tape, .inr (4, [.ref h_tape_bytes, .int v_tape_length, .int v_tape_next, .int v_tape_type, .int v_tape_place, .int v_tape_formerPlace, .long v_tape_word, .int v_tape_number]))] sz) := by
  obtain ⟨O, hF⟩ : ∃ O, FX3_refuseToken n v_fault v_faultPlace v_tape_type v_tape_place = O := ⟨_, rfl⟩
  rw [hF] at hN ⊢
  refine enterV (cc := cX3_refuseToken) (nL := 1) (by decide) (Nat.le_of_ble_eq_true rfl) ?_
  intro p e s m below meth c A Q X hA hE hnm hsz hP hD hS hret ls hl
  obtain ⟨hx, hb, hml, hown0, ha⟩ := id X
  have hown : s.vm.findClass RX3 = some m.cls := hown0
  have hK := hE.1
  have hl : lv_has ls 1 [(0, .ref h_t)] := hl
  have hX : CallFix p m c cX3_refuseToken 1 s ([.ref h_t] : List Value).toArray AL RX3 := X
  have X := hX
  have L18 : ∀ (v_fault : Int32) (v_faultPlace : Int32) (y0 : Int32) (H : Heap) (locs : List Loc) (ls : Array Slot), FX3_refuseToken_18 n v_tape_type v_tape_place v_fault v_faultPlace y0 = O → va_P D classes [(h_t, .inr (3, [.int v_fault, .int v_faultPlace, .ref h_tape, .ref h_draft, .ref h_names, .ref h_namePlaces, .ref h_nameUnits, .ref h_nameSettings, .int v_nameCount, .ref h_setNames, .ref h_setValues, .int v_setCount])), (h_tape, .inr (4, [.ref h_tape_bytes, .int v_tape_length, .int v_tape_next, .int v_tape_type, .int v_tape_place, .int v_tape_formerPlace, .long v_tape_word, .int v_tape_number]))] H → va_D A [(h_t, .inr (3, [.int v_fault, .int v_faultPlace, .ref h_tape, .ref h_draft, .ref h_names, .ref h_namePlaces, .ref h_nameUnits, .ref h_nameSettings, .int v_nameCount, .ref h_setNames, .ref h_setValues, .int v_setCount])), (h_tape, .inr (4, [.ref h_tape_bytes, .int v_tape_length, .int v_tape_next, .int v_tape_type, .int v_tape_place, .int v_tape_formerPlace, .long v_tape_word, .int v_tape_number]))] → va_S A s.heap H locs → lv_has ls 1 [(0, .ref h_t)] → W p l e rmX3_refuseToken s m ([.ref h_t] : List Value).toArray below meth c H locs 0 0 Q (F0 m 18 ls [.int y0, .ref h_t]) := by
    intro v_fault v_faultPlace y0 H locs ls hF hP hD hS hl
    unfold FX3_refuseToken_18 at hF
    refine lv_aload_n hx hb dX3_refuseToken_18 rfl (lv_at hl 0 rfl) ?_
    refine va_get (D := D) (ci := 3) (C := RX3) (T := TX3) (N := 12) hx hb ha inAX3 hown hK hP 0 rfl rfl 2 (by decide) (ha _ w_1_124) (fun _ h9 => h9) rfl dX3_refuseToken_19 ?_
    refine va_getN (D := D) (ci := 4) (C := RX4) (T := TX4) (N := 8) hx hb ha inAX4 hown hK hP 1 rfl rfl 4 (by decide) (va_Nw.use rfl (hE.2.1 _ w_1_93)) (fun _ h9 => h9) rfl dX3_refuseToken_22 ?_
    have hn_2 := bdN hN hF
    refine callVV (As := [.int y0, .int v_tape_place]) (rest := []) (wr := [(h_tape, .inr (4, [.ref h_tape_bytes, .int v_tape_length, .int v_tape_next, .int v_tape_type, .int v_tape_place, .int v_tape_formerPlace, .long v_tape_word, .int v_tape_number]))]) (W2 := fun u_3 => [(h_t, .inr (3, [.int u_3.2.1, .int u_3.2.2, .ref h_tape, .ref h_draft, .ref h_names, .ref h_namePlaces, .ref h_nameUnits, .ref h_nameSettings, .int v_nameCount, .ref h_setNames, .ref h_setValues, .int v_setCount])), (h_tape, .inr (4, [.ref h_tape_bytes, .int v_tape_length, .int v_tape_next, .int v_tape_type, .int v_tape_place, .int v_tape_formerPlace, .long v_tape_word, .int v_tape_number]))]) X hE hP hD hS hA (kX3_fail l D cB cI cJ cZ rz n H.size h_t h_tape h_draft h_names h_namePlaces h_nameUnits h_nameSettings h_setNames h_setValues v_fault v_faultPlace v_nameCount v_setCount y0 v_tape_place hn_2) w_2_88 w_2_90 ws_9 w_1_3 w_2_91 cb_X3_fail rfl rfl ⟨Nat.le_of_ble_eq_true rfl, Nat.le_of_ble_eq_true rfl⟩ rfl hl.1 rfl (Nat.le_of_ble_eq_true rfl) dX3_refuseToken_25 ⟨Nat.le_of_ble_eq_true rfl, Nat.le_of_ble_eq_true rfl⟩ (c2 := 0) (s2 := 0) rfl rfl (k0 := 0) rfl rfl [0] [1] [1, 0] rfl rfl (by decide) (by decide) (by decide) (by decide) (fun _ => rfl) (fun u_3 H locs hG hP hD hS => ?_)
    replace hF := bdQ hG hF
    exact hret ((), u_3.2.1, u_3.2.2) H locs ls _ hF hP hD hS dX3_refuseToken_28
  unfold FX3_refuseToken at hF
  obtain ⟨H, hH⟩ : ∃ H, H = s.heap := ⟨_, rfl⟩
  obtain ⟨locs, hlo⟩ : ∃ locs : List Loc, locs = [] := ⟨_, rfl⟩
  have hS : va_S A s.heap H locs := by rw [hH, hlo]; exact hS
  rw [← hH] at hP
  have goal : W p l e rmX3_refuseToken s m ([.ref h_t] : List Value).toArray below meth c H locs 0 0 Q (F0 m 0 ls []) := by
    refine lv_aload_n hx hb dX3_refuseToken_0 rfl (lv_at hl 0 rfl) ?_
    refine lv_aload_n hx hb dX3_refuseToken_1 rfl (lv_at hl 0 rfl) ?_
    refine va_get (D := D) (ci := 3) (C := RX3) (T := TX3) (N := 12) hx hb ha inAX3 hown hK hP 0 rfl rfl 2 (by decide) (ha _ w_1_124) (fun _ h9 => h9) rfl dX3_refuseToken_2 ?_
    refine va_getN (D := D) (ci := 4) (C := RX4) (T := TX4) (N := 8) hx hb ha inAX4 hown hK hP 1 rfl rfl 3 (by decide) (va_Nw.use rfl (hE.2.1 _ w_1_90)) (fun _ h9 => h9) rfl dX3_refuseToken_5 ?_
    refine lv_bipush (v := 11) hx hb dX3_refuseToken_8 (by decide) ?_
    refine lv_icmp_ne (tgt := 17) hx hb dX3_refuseToken_10 (by decide) (fun c_1 => ?_) (fun c_1 => ?_)
    · replace hF := ifF c_1 hF
      refine lv_iconst (v := 2) hx hb dX3_refuseToken_17 (by decide) ?_
      exact L18 v_fault v_faultPlace (2 : Int32) H locs ls hF hP hD hS (lv_sub hl [0] rfl)
    · replace hF := ifT c_1 hF
      refine lv_iconst (v := 1) hx hb dX3_refuseToken_13 (by decide) ?_
      refine lv_goto (tgt := 18) hx hb dX3_refuseToken_14 (by decide) ?_
      exact L18 v_fault v_faultPlace (1 : Int32) H locs ls hF hP hD hS (lv_sub hl [0] rfl)
  rw [hH, hlo] at goal
  exact goal
theorem dX3_accepts_0 : decode cX3_accepts 0 = .ok (.aload_n 0, 1) := by decide +kernel
theorem dX3_accepts_1 : decode cX3_accepts 1 = .ok (.getfield 48, 3) := by decide +kernel
theorem dX3_accepts_4 : decode cX3_accepts 4 = .ok (.ifCond .ne 18, 3) := by decide +kernel
theorem dX3_accepts_7 : decode cX3_accepts 7 = .ok (.aload_n 0, 1) := by decide +kernel
theorem dX3_accepts_8 : decode cX3_accepts 8 = .ok (.getfield 12, 3) := by decide +kernel
theorem dX3_accepts_11 : decode cX3_accepts 11 = .ok (.getfield 64, 3) := by decide +kernel
theorem dX3_accepts_14 : decode cX3_accepts 14 = .ok (.iload_n 1, 1) := by decide +kernel
theorem dX3_accepts_15 : decode cX3_accepts 15 = .ok (.if_icmp .eq 7, 3) := by decide +kernel
theorem dX3_accepts_18 : decode cX3_accepts 18 = .ok (.aload_n 0, 1) := by decide +kernel
theorem dX3_accepts_19 : decode cX3_accepts 19 = .ok (.invokevirtual 76, 3) := by decide +kernel
theorem dX3_accepts_22 : decode cX3_accepts 22 = .ok (.aload_n 0, 1) := by decide +kernel
theorem dX3_accepts_23 : decode cX3_accepts 23 = .ok (.getfield 48, 3) := by decide +kernel
theorem dX3_accepts_26 : decode cX3_accepts 26 = .ok (.ifCond .ne 7, 3) := by decide +kernel
theorem dX3_accepts_29 : decode cX3_accepts 29 = .ok (.iconst 1, 1) := by decide +kernel
theorem dX3_accepts_30 : decode cX3_accepts 30 = .ok (.goto 4, 3) := by decide +kernel
theorem dX3_accepts_33 : decode cX3_accepts 33 = .ok (.iconst 0, 1) := by decide +kernel
theorem dX3_accepts_34 : decode cX3_accepts 34 = .ok (.ireturn, 1) := by decide +kernel
abbrev rmX3_accepts : Room := { frames := 2, cells := 0, slots := 0, locals := 42 }
theorem cb_X3_accepts : CBn yX3_accepts 1 := ⟨by decide +kernel, by decide +kernel, by decide +kernel⟩
def FX3_accepts_22 (n : Nat) (v_tape_type : Int32) (v_tape_place : Int32) (z1 : Int32) (v_fault : Int32) (v_faultPlace : Int32) : Option (Int32 × Int32 × Int32) := if v_fault = 0 then (some ((1 : Int32), v_fault, v_faultPlace)) else (some ((0 : Int32), v_fault, v_faultPlace))
def FX3_accepts (n : Nat) (v_fault : Int32) (v_faultPlace : Int32) (v_tape_type : Int32) (v_tape_place : Int32) (z1 : Int32) : Option (Int32 × Int32 × Int32) := if v_fault = 0 then (if v_tape_type = z1 then (FX3_accepts_22 n v_tape_type v_tape_place z1 v_fault v_faultPlace) else (bd (FX3_refuseToken n v_fault v_faultPlace v_tape_type v_tape_place) (fun u_4 => FX3_accepts_22 n v_tape_type v_tape_place z1 u_4.2.1 u_4.2.2))) else (FX3_accepts_22 n v_tape_type v_tape_place z1 v_fault v_faultPlace)
set_option maxHeartbeats 4000000 in
set_option maxRecDepth 100000 in
theorem kX3_accepts (l : Launch) (D : va_G) (cB cI cJ cZ : ClassId) (rz n sz : Nat) (h_t : Nat) (h_tape : Nat) (h_draft : Nat) (h_names : Nat) (h_namePlaces : Nat) (h_nameUnits : Nat) (h_nameSettings : Nat) (h_setNames : Nat) (h_setValues : Nat) (h_tape_bytes : Nat) (v_fault : Int32) (v_faultPlace : Int32) (v_nameCount : Int32) (v_setCount : Int32) (v_tape_length : Int32) (v_tape_next : Int32) (v_tape_type : Int32) (v_tape_place : Int32) (v_tape_formerPlace : Int32) (v_tape_word : Int64) (v_tape_number : Int32) (z1 : Int32) (hN : FX3_accepts n v_fault v_faultPlace v_tape_type v_tape_place z1 ≠ none) : Met l yX3_accepts (Cond.code yX3_accepts cX3_accepts 2 (some .boolean) :: AL) rmX3_accepts (PW D cB cI cJ cZ rz [.ref h_t, .int z1] [(h_t, .inr (3, [.int v_fault, .int v_faultPlace, .ref h_tape, .ref h_draft, .ref h_names, .ref h_namePlaces, .ref h_nameUnits, .ref h_nameSettings, .int v_nameCount, .ref h_setNames, .ref h_setValues, .int v_setCount])), (h_tape, .inr (4, [.ref h_tape_bytes, .int v_tape_length, .int v_tape_next, .int v_tape_type, .int v_tape_place, .int v_tape_formerPlace, .long v_tape_word, .int v_tape_number]))] sz) (QZ D (FX3_accepts n v_fault v_faultPlace v_tape_type v_tape_place z1) (fun u => [(h_t, .inr (3, [.int u.2.1, .int u.2.2, .ref h_tape, .ref h_draft, .ref h_names, .ref h_namePlaces, .ref h_nameUnits, .ref h_nameSettings, .int v_nameCount, .ref h_setNames, .ref h_setValues, .int v_setCount])), (h_tape, .inr (4, [.ref h_tape_bytes, .int v_tape_length, .int v_tape_next, .int v_tape_type, .int v_tape_place, .int v_tape_formerPlace, .long v_tape_word, .int v_tape_number]))]) (va_A [(h_t, .inr (3, [.int v_fault, .int v_faultPlace, .ref h_tape, .ref h_draft, .ref h_names, .ref h_namePlaces, .ref h_nameUnits, .ref h_nameSettings, .int v_nameCount, .ref h_setNames, .ref h_setValues, .int v_setCount])), (h_tape, .inr (4, [.ref h_tape_bytes, .int v_tape_length, .int v_tape_next, .int v_tape_type, .int v_tape_place, .int v_tape_formerPlace, .long v_tape_word, .int v_tape_number]))] sz)) 0 0 (va_A [(h_t, .inr (3, [.int v_fault, .int v_faultPlace, .ref h_tape, .ref h_draft, .ref h_names, .ref h_namePlaces, .ref h_nameUnits, .ref h_nameSettings, .int v_nameCount, .ref h_setNames, .ref h_setValues, .int v_setCount])), (h_tape, .inr (4, [.ref h_tape_bytes, .int v_tape_length, .int v_tape_next, .int v_tape_type, .int v_tape_place, .int v_tape_formerPlace, .long v_tape_word, .int v_tape_number]))] sz) := by
  obtain ⟨O, hF⟩ : ∃ O, FX3_accepts n v_fault v_faultPlace v_tape_type v_tape_place z1 = O := ⟨_, rfl⟩
  rw [hF] at hN ⊢
  refine enterZ (cc := cX3_accepts) (nL := 2) (by decide) (Nat.le_of_ble_eq_true rfl) ?_
  intro p e s m below meth c A Q X hA hE hnm hsz hP hD hS hret ls hl
  obtain ⟨hx, hb, hml, hown0, ha⟩ := id X
  have hown : s.vm.findClass RX3 = some m.cls := hown0
  have hK := hE.1
  have hl : lv_has ls 2 [(0, .ref h_t), (1, .int z1)] := hl
  have hX : CallFix p m c cX3_accepts 2 s ([.ref h_t, .int z1] : List Value).toArray AL RX3 := X
  have X := hX
  have L22 : ∀ (v_fault : Int32) (v_faultPlace : Int32) (H : Heap) (locs : List Loc) (ls : Array Slot), FX3_accepts_22 n v_tape_type v_tape_place z1 v_fault v_faultPlace = O → va_P D classes [(h_t, .inr (3, [.int v_fault, .int v_faultPlace, .ref h_tape, .ref h_draft, .ref h_names, .ref h_namePlaces, .ref h_nameUnits, .ref h_nameSettings, .int v_nameCount, .ref h_setNames, .ref h_setValues, .int v_setCount])), (h_tape, .inr (4, [.ref h_tape_bytes, .int v_tape_length, .int v_tape_next, .int v_tape_type, .int v_tape_place, .int v_tape_formerPlace, .long v_tape_word, .int v_tape_number]))] H → va_D A [(h_t, .inr (3, [.int v_fault, .int v_faultPlace, .ref h_tape, .ref h_draft, .ref h_names, .ref h_namePlaces, .ref h_nameUnits, .ref h_nameSettings, .int v_nameCount, .ref h_setNames, .ref h_setValues, .int v_setCount])), (h_tape, .inr (4, [.ref h_tape_bytes, .int v_tape_length, .int v_tape_next, .int v_tape_type, .int v_tape_place, .int v_tape_formerPlace, .long v_tape_word, .int v_tape_number]))] → va_S A s.heap H locs → lv_has ls 2 [(0, .ref h_t)] → W p l e rmX3_accepts s m ([.ref h_t, .int z1] : List Value).toArray below meth c H locs 0 0 Q (F0 m 22 ls []) := by
    intro v_fault v_faultPlace H locs ls hF hP hD hS hl
    unfold FX3_accepts_22 at hF
    refine lv_aload_n hx hb dX3_accepts_22 rfl (lv_at hl 0 rfl) ?_
    refine va_get (D := D) (ci := 3) (C := RX3) (T := TX3) (N := 12) hx hb ha inAX3 hown hK hP 0 rfl rfl 0 (by decide) (ha _ w_1_120) (fun _ h9 => h9) rfl dX3_accepts_23 ?_
    refine lv_if_ne (tgt := 33) hx hb dX3_accepts_26 (by decide) (fun c_5 => ?_) (fun c_5 => ?_)
    · replace hF := ifF c_5 hF
      refine lv_iconst (v := 0) hx hb dX3_accepts_33 (by decide) ?_
      exact hret ((0 : Int32), v_fault, v_faultPlace) H locs ls _ hF nz0 hP hD hS dX3_accepts_34
    · replace hF := ifT c_5 hF
      refine lv_iconst (v := 1) hx hb dX3_accepts_29 (by decide) ?_
      refine lv_goto (tgt := 34) hx hb dX3_accepts_30 (by decide) ?_
      exact hret ((1 : Int32), v_fault, v_faultPlace) H locs ls _ hF nz1 hP hD hS dX3_accepts_34
  unfold FX3_accepts at hF
  obtain ⟨H, hH⟩ : ∃ H, H = s.heap := ⟨_, rfl⟩
  obtain ⟨locs, hlo⟩ : ∃ locs : List Loc, locs = [] := ⟨_, rfl⟩
  have hS : va_S A s.heap H locs := by rw [hH, hlo]; exact hS
  rw [← hH] at hP
  have goal : W p l e rmX3_accepts s m ([.ref h_t, .int z1] : List Value).toArray below meth c H locs 0 0 Q (F0 m 0 ls []) := by
    refine lv_aload_n hx hb dX3_accepts_0 rfl (lv_at hl 0 rfl) ?_
    refine va_get (D := D) (ci := 3) (C := RX3) (T := TX3) (N := 12) hx hb ha inAX3 hown hK hP 0 rfl rfl 0 (by decide) (ha _ w_1_120) (fun _ h9 => h9) rfl dX3_accepts_1 ?_
    refine lv_if_ne (tgt := 22) hx hb dX3_accepts_4 (by decide) (fun c_1 => ?_) (fun c_1 => ?_)
    · replace hF := ifF c_1 hF
      exact L22 v_fault v_faultPlace H locs ls hF hP hD hS (lv_sub hl [0] rfl)
    · replace hF := ifT c_1 hF
      refine lv_aload_n hx hb dX3_accepts_7 rfl (lv_at hl 0 rfl) ?_
      refine va_get (D := D) (ci := 3) (C := RX3) (T := TX3) (N := 12) hx hb ha inAX3 hown hK hP 0 rfl rfl 2 (by decide) (ha _ w_1_124) (fun _ h9 => h9) rfl dX3_accepts_8 ?_
      refine va_getN (D := D) (ci := 4) (C := RX4) (T := TX4) (N := 8) hx hb ha inAX4 hown hK hP 1 rfl rfl 3 (by decide) (va_Nw.use rfl (hE.2.1 _ w_1_90)) (fun _ h9 => h9) rfl dX3_accepts_11 ?_
      refine lv_iload_n hx hb dX3_accepts_14 rfl (lv_at hl 1 rfl) ?_
      refine lv_icmp_eq (tgt := 22) hx hb dX3_accepts_15 (by decide) (fun c_2 => ?_) (fun c_2 => ?_)
      · replace hF := ifT c_2 hF
        exact L22 v_fault v_faultPlace H locs ls hF hP hD hS (lv_sub hl [0] rfl)
      · replace hF := ifF c_2 hF
        refine lv_aload_n hx hb dX3_accepts_18 rfl (lv_at hl 0 rfl) ?_
        have hn_3 := bdN hN hF
        refine callVV (As := []) (rest := []) (wr := []) (W2 := fun u_4 => [(h_t, .inr (3, [.int u_4.2.1, .int u_4.2.2, .ref h_tape, .ref h_draft, .ref h_names, .ref h_namePlaces, .ref h_nameUnits, .ref h_nameSettings, .int v_nameCount, .ref h_setNames, .ref h_setValues, .int v_setCount])), (h_tape, .inr (4, [.ref h_tape_bytes, .int v_tape_length, .int v_tape_next, .int v_tape_type, .int v_tape_place, .int v_tape_formerPlace, .long v_tape_word, .int v_tape_number]))]) X hE hP hD hS hA (kX3_refuseToken l D cB cI cJ cZ rz n H.size h_t h_tape h_draft h_names h_namePlaces h_nameUnits h_nameSettings h_setNames h_setValues h_tape_bytes v_fault v_faultPlace v_nameCount v_setCount v_tape_length v_tape_next v_tape_type v_tape_place v_tape_formerPlace v_tape_word v_tape_number hn_3) w_2_84 w_2_86 ws_8 w_1_3 w_2_87 cb_X3_refuseToken rfl rfl ⟨Nat.le_of_ble_eq_true rfl, Nat.le_of_ble_eq_true rfl⟩ rfl hl.1 rfl (Nat.le_of_ble_eq_true rfl) dX3_accepts_19 ⟨Nat.le_of_ble_eq_true rfl, Nat.le_of_ble_eq_true rfl⟩ (c2 := 0) (s2 := 0) rfl rfl (k0 := 0) rfl rfl [0, 1] [] [0, 1] rfl rfl (by decide) (by decide) (by decide) (by decide) (fun _ => rfl) (fun u_4 H locs hG hP hD hS => ?_)
        replace hF := bdQ hG hF
        exact L22 u_4.2.1 u_4.2.2 H locs ls hF hP hD hS (lv_sub hl [0] rfl)
  rw [hH, hlo] at goal
  exact goal
theorem dX3_takeName_0 : decode cX3_takeName 0 = .ok (.aload_n 0, 1) := by decide +kernel
theorem dX3_takeName_1 : decode cX3_takeName 1 = .ok (.bipush 7, 2) := by decide +kernel
theorem dX3_takeName_3 : decode cX3_takeName 3 = .ok (.invokevirtual 133, 3) := by decide +kernel
theorem dX3_takeName_6 : decode cX3_takeName 6 = .ok (.ifCond .ne 5, 3) := by decide +kernel
theorem dX3_takeName_9 : decode cX3_takeName 9 = .ok (.iconst 0, 1) := by decide +kernel
theorem dX3_takeName_10 : decode cX3_takeName 10 = .ok (.ireturn, 1) := by decide +kernel
theorem dX3_takeName_11 : decode cX3_takeName 11 = .ok (.iconst 0, 1) := by decide +kernel
theorem dX3_takeName_12 : decode cX3_takeName 12 = .ok (.istore_n 1, 1) := by decide +kernel
theorem dX3_takeName_13 : decode cX3_takeName 13 = .ok (.iload_n 1, 1) := by decide +kernel
theorem dX3_takeName_14 : decode cX3_takeName 14 = .ok (.aload_n 0, 1) := by decide +kernel
theorem dX3_takeName_15 : decode cX3_takeName 15 = .ok (.getfield 55, 3) := by decide +kernel
theorem dX3_takeName_18 : decode cX3_takeName 18 = .ok (.if_icmp .ge 26, 3) := by decide +kernel
theorem dX3_takeName_21 : decode cX3_takeName 21 = .ok (.aload_n 0, 1) := by decide +kernel
theorem dX3_takeName_22 : decode cX3_takeName 22 = .ok (.getfield 25, 3) := by decide +kernel
theorem dX3_takeName_25 : decode cX3_takeName 25 = .ok (.iload_n 1, 1) := by decide +kernel
theorem dX3_takeName_26 : decode cX3_takeName 26 = .ok (.laload, 1) := by decide +kernel
theorem dX3_takeName_27 : decode cX3_takeName 27 = .ok (.aload_n 0, 1) := by decide +kernel
theorem dX3_takeName_28 : decode cX3_takeName 28 = .ok (.getfield 12, 3) := by decide +kernel
theorem dX3_takeName_31 : decode cX3_takeName 31 = .ok (.getfield 143, 3) := by decide +kernel
theorem dX3_takeName_34 : decode cX3_takeName 34 = .ok (.lcmp, 1) := by decide +kernel
theorem dX3_takeName_35 : decode cX3_takeName 35 = .ok (.ifCond .eq 9, 3) := by decide +kernel
theorem dX3_takeName_38 : decode cX3_takeName 38 = .ok (.iinc 1 1, 3) := by decide +kernel
theorem dX3_takeName_41 : decode cX3_takeName 41 = .ok (.goto (-28), 3) := by decide +kernel
theorem dX3_takeName_44 : decode cX3_takeName 44 = .ok (.iload_n 1, 1) := by decide +kernel
theorem dX3_takeName_45 : decode cX3_takeName 45 = .ok (.bipush 96, 2) := by decide +kernel
theorem dX3_takeName_47 : decode cX3_takeName 47 = .ok (.if_icmp .lt 17, 3) := by decide +kernel
theorem dX3_takeName_50 : decode cX3_takeName 50 = .ok (.aload_n 0, 1) := by decide +kernel
theorem dX3_takeName_51 : decode cX3_takeName 51 = .ok (.iconst 2, 1) := by decide +kernel
theorem dX3_takeName_52 : decode cX3_takeName 52 = .ok (.aload_n 0, 1) := by decide +kernel
theorem dX3_takeName_53 : decode cX3_takeName 53 = .ok (.getfield 12, 3) := by decide +kernel
theorem dX3_takeName_56 : decode cX3_takeName 56 = .ok (.getfield 140, 3) := by decide +kernel
theorem dX3_takeName_59 : decode cX3_takeName 59 = .ok (.invokevirtual 98, 3) := by decide +kernel
theorem dX3_takeName_62 : decode cX3_takeName 62 = .ok (.iconst 0, 1) := by decide +kernel
theorem dX3_takeName_63 : decode cX3_takeName 63 = .ok (.ireturn, 1) := by decide +kernel
theorem dX3_takeName_64 : decode cX3_takeName 64 = .ok (.iload_n 1, 1) := by decide +kernel
theorem dX3_takeName_65 : decode cX3_takeName 65 = .ok (.aload_n 0, 1) := by decide +kernel
theorem dX3_takeName_66 : decode cX3_takeName 66 = .ok (.getfield 55, 3) := by decide +kernel
theorem dX3_takeName_69 : decode cX3_takeName 69 = .ok (.if_icmp .ne 53, 3) := by decide +kernel
theorem dX3_takeName_72 : decode cX3_takeName 72 = .ok (.aload_n 0, 1) := by decide +kernel
theorem dX3_takeName_73 : decode cX3_takeName 73 = .ok (.getfield 25, 3) := by decide +kernel
theorem dX3_takeName_76 : decode cX3_takeName 76 = .ok (.iload_n 1, 1) := by decide +kernel
theorem dX3_takeName_77 : decode cX3_takeName 77 = .ok (.aload_n 0, 1) := by decide +kernel
theorem dX3_takeName_78 : decode cX3_takeName 78 = .ok (.getfield 12, 3) := by decide +kernel
theorem dX3_takeName_81 : decode cX3_takeName 81 = .ok (.getfield 143, 3) := by decide +kernel
theorem dX3_takeName_84 : decode cX3_takeName 84 = .ok (.lastore, 1) := by decide +kernel
theorem dX3_takeName_85 : decode cX3_takeName 85 = .ok (.aload_n 0, 1) := by decide +kernel
theorem dX3_takeName_86 : decode cX3_takeName 86 = .ok (.getfield 29, 3) := by decide +kernel
theorem dX3_takeName_89 : decode cX3_takeName 89 = .ok (.iload_n 1, 1) := by decide +kernel
theorem dX3_takeName_90 : decode cX3_takeName 90 = .ok (.aload_n 0, 1) := by decide +kernel
theorem dX3_takeName_91 : decode cX3_takeName 91 = .ok (.getfield 12, 3) := by decide +kernel
theorem dX3_takeName_94 : decode cX3_takeName 94 = .ok (.getfield 140, 3) := by decide +kernel
theorem dX3_takeName_97 : decode cX3_takeName 97 = .ok (.iastore, 1) := by decide +kernel
theorem dX3_takeName_98 : decode cX3_takeName 98 = .ok (.aload_n 0, 1) := by decide +kernel
theorem dX3_takeName_99 : decode cX3_takeName 99 = .ok (.getfield 33, 3) := by decide +kernel
theorem dX3_takeName_102 : decode cX3_takeName 102 = .ok (.iload_n 1, 1) := by decide +kernel
theorem dX3_takeName_103 : decode cX3_takeName 103 = .ok (.iconst (-1), 1) := by decide +kernel
theorem dX3_takeName_104 : decode cX3_takeName 104 = .ok (.iastore, 1) := by decide +kernel
theorem dX3_takeName_105 : decode cX3_takeName 105 = .ok (.aload_n 0, 1) := by decide +kernel
theorem dX3_takeName_106 : decode cX3_takeName 106 = .ok (.getfield 36, 3) := by decide +kernel
theorem dX3_takeName_109 : decode cX3_takeName 109 = .ok (.iload_n 1, 1) := by decide +kernel
theorem dX3_takeName_110 : decode cX3_takeName 110 = .ok (.iconst 0, 1) := by decide +kernel
theorem dX3_takeName_111 : decode cX3_takeName 111 = .ok (.iastore, 1) := by decide +kernel
theorem dX3_takeName_112 : decode cX3_takeName 112 = .ok (.aload_n 0, 1) := by decide +kernel
theorem dX3_takeName_113 : decode cX3_takeName 113 = .ok (.dup, 1) := by decide +kernel
theorem dX3_takeName_114 : decode cX3_takeName 114 = .ok (.getfield 55, 3) := by decide +kernel
theorem dX3_takeName_117 : decode cX3_takeName 117 = .ok (.iconst 1, 1) := by decide +kernel
theorem dX3_takeName_118 : decode cX3_takeName 118 = .ok (.iadd, 1) := by decide +kernel
theorem dX3_takeName_119 : decode cX3_takeName 119 = .ok (.putfield 55, 3) := by decide +kernel
theorem dX3_takeName_122 : decode cX3_takeName 122 = .ok (.aload_n 0, 1) := by decide +kernel
theorem dX3_takeName_123 : decode cX3_takeName 123 = .ok (.getfield 12, 3) := by decide +kernel
theorem dX3_takeName_126 : decode cX3_takeName 126 = .ok (.invokevirtual 88, 3) := by decide +kernel
theorem dX3_takeName_129 : decode cX3_takeName 129 = .ok (.iload_n 1, 1) := by decide +kernel
theorem dX3_takeName_130 : decode cX3_takeName 130 = .ok (.ireturn, 1) := by decide +kernel
abbrev rmX3_takeName : Room := { frames := 3, cells := 0, slots := 0, locals := 63 }
theorem cb_X3_takeName : CBn yX3_takeName 0 := ⟨by decide +kernel, by decide +kernel, by decide +kernel⟩
def FX3_takeName_122 (n : Nat) (v_tape_length : Int32) (a_tape_bytes : Nat → Int32) (v_fault : Int32) (v_faultPlace : Int32) (v_nameCount : Int32) (v_tape_next : Int32) (v_tape_type : Int32) (v_tape_place : Int32) (v_tape_formerPlace : Int32) (v_tape_word : Int64) (v_tape_number : Int32) (a_names : Nat → Int64) (a_namePlaces : Nat → Int32) (a_nameUnits : Nat → Int32) (a_nameSettings : Nat → Int32) (x1 : Int32) : Option (Int32 × Int32 × Int32 × Int32 × Int32 × Int32 × Int32 × Int32 × Int64 × Int32 × (Nat → Int64) × (Nat → Int32) × (Nat → Int32) × (Nat → Int32)) := bd (FX4_advance n v_tape_length v_tape_next v_tape_type v_tape_place v_tape_formerPlace v_tape_word v_tape_number a_tape_bytes) (fun u_22 => some (x1, v_fault, v_faultPlace, v_nameCount, u_22.2.1, u_22.2.2.1, u_22.2.2.2.1, u_22.2.2.2.2.1, u_22.2.2.2.2.2.1, u_22.2.2.2.2.2.2, a_names, a_namePlaces, a_nameUnits, a_nameSettings))
def FX3_takeName_44 (n : Nat) (v_tape_length : Int32) (a_tape_bytes : Nat → Int32) (v_fault : Int32) (v_faultPlace : Int32) (v_nameCount : Int32) (v_tape_next : Int32) (v_tape_type : Int32) (v_tape_place : Int32) (v_tape_formerPlace : Int32) (v_tape_word : Int64) (v_tape_number : Int32) (a_names : Nat → Int64) (a_namePlaces : Nat → Int32) (a_nameUnits : Nat → Int32) (a_nameSettings : Nat → Int32) (x1 : Int32) : Option (Int32 × Int32 × Int32 × Int32 × Int32 × Int32 × Int32 × Int32 × Int64 × Int32 × (Nat → Int64) × (Nat → Int32) × (Nat → Int32) × (Nat → Int32)) := if x1 < (96 : Int32) then (if x1 = v_nameCount then (if ¬ (x1 < 0 ∨ 96 ≤ (x1).toNatClampNeg) then (lt1 (vp_updL a_names (x1).toNatClampNeg v_tape_word) (fun f_11 => if ¬ (x1 < 0 ∨ 96 ≤ (x1).toNatClampNeg) then (lt1 (upd a_namePlaces (x1).toNatClampNeg v_tape_place) (fun f_13 => if ¬ (x1 < 0 ∨ 96 ≤ (x1).toNatClampNeg) then (lt1 (upd a_nameUnits (x1).toNatClampNeg (-1 : Int32)) (fun f_15 => if ¬ (x1 < 0 ∨ 96 ≤ (x1).toNatClampNeg) then (lt1 (upd a_nameSettings (x1).toNatClampNeg (0 : Int32)) (fun f_17 => lt1 (v_nameCount + (1 : Int32)) (fun x_18 => FX3_takeName_122 n v_tape_length a_tape_bytes v_fault v_faultPlace x_18 v_tape_next v_tape_type v_tape_place v_tape_formerPlace v_tape_word v_tape_number f_11 f_13 f_15 f_17 x1))) else none)) else none)) else none)) else none) else (FX3_takeName_122 n v_tape_length a_tape_bytes v_fault v_faultPlace v_nameCount v_tape_next v_tape_type v_tape_place v_tape_formerPlace v_tape_word v_tape_number a_names a_namePlaces a_nameUnits a_nameSettings x1)) else (bd (FX3_fail n v_fault v_faultPlace (2 : Int32) v_tape_place) (fun u_20 => some ((0 : Int32), u_20.2.1, u_20.2.2, v_nameCount, v_tape_next, v_tape_type, v_tape_place, v_tape_formerPlace, v_tape_word, v_tape_number, a_names, a_namePlaces, a_nameUnits, a_nameSettings)))
def FX3_takeName_13 (n : Nat) (v_tape_length : Int32) (a_tape_bytes : Nat → Int32) (k13 : Int32 → Int32 → Int32 → Int32 → Int32 → Int32 → Int32 → Int64 → Int32 → (Nat → Int64) → (Nat → Int32) → (Nat → Int32) → (Nat → Int32) → Int32 → Option (Int32 × Int32 × Int32 × Int32 × Int32 × Int32 × Int32 × Int32 × Int64 × Int32 × (Nat → Int64) × (Nat → Int32) × (Nat → Int32) × (Nat → Int32))) (v_fault : Int32) (v_faultPlace : Int32) (v_nameCount : Int32) (v_tape_next : Int32) (v_tape_type : Int32) (v_tape_place : Int32) (v_tape_formerPlace : Int32) (v_tape_word : Int64) (v_tape_number : Int32) (a_names : Nat → Int64) (a_namePlaces : Nat → Int32) (a_nameUnits : Nat → Int32) (a_nameSettings : Nat → Int32) (x1 : Int32) : Option (Int32 × Int32 × Int32 × Int32 × Int32 × Int32 × Int32 × Int32 × Int64 × Int32 × (Nat → Int64) × (Nat → Int32) × (Nat → Int32) × (Nat → Int32)) := if v_nameCount ≤ x1 then (FX3_takeName_44 n v_tape_length a_tape_bytes v_fault v_faultPlace v_nameCount v_tape_next v_tape_type v_tape_place v_tape_formerPlace v_tape_word v_tape_number a_names a_namePlaces a_nameUnits a_nameSettings x1) else (if ¬ (x1 < 0 ∨ 96 ≤ (x1).toNatClampNeg) then (if (lg_cmp (a_names (x1).toNatClampNeg) v_tape_word) = 0 then (FX3_takeName_44 n v_tape_length a_tape_bytes v_fault v_faultPlace v_nameCount v_tape_next v_tape_type v_tape_place v_tape_formerPlace v_tape_word v_tape_number a_names a_namePlaces a_nameUnits a_nameSettings x1) else (lt1 (x1 + (1 : Int32)) (fun x_7 => k13 v_fault v_faultPlace v_nameCount v_tape_next v_tape_type v_tape_place v_tape_formerPlace v_tape_word v_tape_number a_names a_namePlaces a_nameUnits a_nameSettings x_7))) else none)
def FX3_takeName_13L (n : Nat) (v_tape_length : Int32) (a_tape_bytes : Nat → Int32) (j : Nat) : Int32 → Int32 → Int32 → Int32 → Int32 → Int32 → Int32 → Int64 → Int32 → (Nat → Int64) → (Nat → Int32) → (Nat → Int32) → (Nat → Int32) → Int32 → Option (Int32 × Int32 × Int32 × Int32 × Int32 × Int32 × Int32 × Int32 × Int64 × Int32 × (Nat → Int64) × (Nat → Int32) × (Nat → Int32) × (Nat → Int32)) := lpR (FX3_takeName_13 n v_tape_length a_tape_bytes) (fun _ _ _ _ _ _ _ _ _ _ _ _ _ _ => none) j
def FX3_takeName (n : Nat) (v_fault : Int32) (v_faultPlace : Int32) (v_nameCount : Int32) (v_tape_length : Int32) (v_tape_next : Int32) (v_tape_type : Int32) (v_tape_place : Int32) (v_tape_formerPlace : Int32) (v_tape_word : Int64) (v_tape_number : Int32) (a_names : Nat → Int64) (a_namePlaces : Nat → Int32) (a_nameUnits : Nat → Int32) (a_nameSettings : Nat → Int32) (a_tape_bytes : Nat → Int32) : Option (Int32 × Int32 × Int32 × Int32 × Int32 × Int32 × Int32 × Int32 × Int64 × Int32 × (Nat → Int64) × (Nat → Int32) × (Nat → Int32) × (Nat → Int32)) := bd (FX3_accepts n v_fault v_faultPlace v_tape_type v_tape_place (7 : Int32)) (fun u_2 => if u_2.1 = 0 then (some ((0 : Int32), u_2.2.1, u_2.2.2, v_nameCount, v_tape_next, v_tape_type, v_tape_place, v_tape_formerPlace, v_tape_word, v_tape_number, a_names, a_namePlaces, a_nameUnits, a_nameSettings)) else (FX3_takeName_13L n v_tape_length a_tape_bytes n u_2.2.1 u_2.2.2 v_nameCount v_tape_next v_tape_type v_tape_place v_tape_formerPlace v_tape_word v_tape_number a_names a_namePlaces a_nameUnits a_nameSettings (0 : Int32)))
set_option maxHeartbeats 4000000 in
set_option maxRecDepth 100000 in
theorem kX3_takeName (l : Launch) (D : va_G) (cB cI cJ cZ : ClassId) (rz n sz : Nat) (h_t : Nat) (h_tape : Nat) (h_names : Nat) (h_namePlaces : Nat) (h_nameUnits : Nat) (h_nameSettings : Nat) (h_tape_bytes : Nat) (h_draft : Nat) (h_setNames : Nat) (h_setValues : Nat) (v_fault : Int32) (v_faultPlace : Int32) (v_nameCount : Int32) (v_setCount : Int32) (v_tape_length : Int32) (v_tape_next : Int32) (v_tape_type : Int32) (v_tape_place : Int32) (v_tape_formerPlace : Int32) (v_tape_word : Int64) (v_tape_number : Int32) (a_names : Nat → Int64) (a_namePlaces : Nat → Int32) (a_nameUnits : Nat → Int32) (a_nameSettings : Nat → Int32) (a_tape_bytes : Nat → Int32) (hN : FX3_takeName n v_fault v_faultPlace v_nameCount v_tape_length v_tape_next v_tape_type v_tape_place v_tape_formerPlace v_tape_word v_tape_number a_names a_namePlaces a_nameUnits a_nameSettings a_tape_bytes ≠ none) : Met l yX3_takeName (Cond.code yX3_takeName cX3_takeName 2 (some .int) :: AL) rmX3_takeName (PW D cB cI cJ cZ rz [.ref h_t] [(h_t, .inr (3, [.int v_fault, .int v_faultPlace, .ref h_tape, .ref h_draft, .ref h_names, .ref h_namePlaces, .ref h_nameUnits, .ref h_nameSettings, .int v_nameCount, .ref h_setNames, .ref h_setValues, .int v_setCount])), (h_tape, .inr (4, [.ref h_tape_bytes, .int v_tape_length, .int v_tape_next, .int v_tape_type, .int v_tape_place, .int v_tape_formerPlace, .long v_tape_word, .int v_tape_number])), (h_names, .inl (cJ, 96, .inr (.inl a_names))), (h_namePlaces, .inl (cI, 96, .inl a_namePlaces)), (h_nameUnits, .inl (cI, 96, .inl a_nameUnits)), (h_nameSettings, .inl (cI, 96, .inl a_nameSettings)), (h_tape_bytes, .inl (cB, 1200, .inl a_tape_bytes))] sz) (QI D (FX3_takeName n v_fault v_faultPlace v_nameCount v_tape_length v_tape_next v_tape_type v_tape_place v_tape_formerPlace v_tape_word v_tape_number a_names a_namePlaces a_nameUnits a_nameSettings a_tape_bytes) (fun u => [(h_t, .inr (3, [.int u.2.1, .int u.2.2.1, .ref h_tape, .ref h_draft, .ref h_names, .ref h_namePlaces, .ref h_nameUnits, .ref h_nameSettings, .int u.2.2.2.1, .ref h_setNames, .ref h_setValues, .int v_setCount])), (h_tape, .inr (4, [.ref h_tape_bytes, .int v_tape_length, .int u.2.2.2.2.1, .int u.2.2.2.2.2.1, .int u.2.2.2.2.2.2.1, .int u.2.2.2.2.2.2.2.1, .long u.2.2.2.2.2.2.2.2.1, .int u.2.2.2.2.2.2.2.2.2.1])), (h_names, .inl (cJ, 96, .inr (.inl u.2.2.2.2.2.2.2.2.2.2.1))), (h_namePlaces, .inl (cI, 96, .inl u.2.2.2.2.2.2.2.2.2.2.2.1)), (h_nameUnits, .inl (cI, 96, .inl u.2.2.2.2.2.2.2.2.2.2.2.2.1)), (h_nameSettings, .inl (cI, 96, .inl u.2.2.2.2.2.2.2.2.2.2.2.2.2)), (h_tape_bytes, .inl (cB, 1200, .inl a_tape_bytes))]) (va_A [(h_t, .inr (3, [.int v_fault, .int v_faultPlace, .ref h_tape, .ref h_draft, .ref h_names, .ref h_namePlaces, .ref h_nameUnits, .ref h_nameSettings, .int v_nameCount, .ref h_setNames, .ref h_setValues, .int v_setCount])), (h_tape, .inr (4, [.ref h_tape_bytes, .int v_tape_length, .int v_tape_next, .int v_tape_type, .int v_tape_place, .int v_tape_formerPlace, .long v_tape_word, .int v_tape_number])), (h_names, .inl (cJ, 96, .inr (.inl a_names))), (h_namePlaces, .inl (cI, 96, .inl a_namePlaces)), (h_nameUnits, .inl (cI, 96, .inl a_nameUnits)), (h_nameSettings, .inl (cI, 96, .inl a_nameSettings)), (h_tape_bytes, .inl (cB, 1200, .inl a_tape_bytes))] sz)) 0 0 (va_A [(h_t, .inr (3, [.int v_fault, .int v_faultPlace, .ref h_tape, .ref h_draft, .ref h_names, .ref h_namePlaces, .ref h_nameUnits, .ref h_nameSettings, .int v_nameCount, .ref h_setNames, .ref h_setValues, .int v_setCount])), (h_tape, .inr (4, [.ref h_tape_bytes, .int v_tape_length, .int v_tape_next, .int v_tape_type, .int v_tape_place, .int v_tape_formerPlace, .long v_tape_word, .int v_tape_number])), (h_names, .inl (cJ, 96, .inr (.inl a_names))), (h_namePlaces, .inl (cI, 96, .inl a_namePlaces)), (h_nameUnits, .inl (cI, 96, .inl a_nameUnits)), (h_nameSettings, .inl (cI, 96, .inl a_nameSettings)), (h_tape_bytes, .inl (cB, 1200, .inl a_tape_bytes))] sz) := by
  obtain ⟨O, hF⟩ : ∃ O, FX3_takeName n v_fault v_faultPlace v_nameCount v_tape_length v_tape_next v_tape_type v_tape_place v_tape_formerPlace v_tape_word v_tape_number a_names a_namePlaces a_nameUnits a_nameSettings a_tape_bytes = O := ⟨_, rfl⟩
  rw [hF] at hN ⊢
  refine enterI (cc := cX3_takeName) (nL := 2) (by decide) (Nat.le_of_ble_eq_true rfl) ?_
  intro p e s m below meth c A Q X hA hE hnm hsz hP hD hS hret ls hl
  obtain ⟨hx, hb, hml, hown0, ha⟩ := id X
  have hown : s.vm.findClass RX3 = some m.cls := hown0
  have hK := hE.1
  have hl : lv_has ls 2 [(0, .ref h_t)] := hl
  have hX : CallFix p m c cX3_takeName 2 s ([.ref h_t] : List Value).toArray AL RX3 := X
  have X := hX
  have L122 : ∀ (v_fault : Int32) (v_faultPlace : Int32) (v_nameCount : Int32) (v_tape_next : Int32) (v_tape_type : Int32) (v_tape_place : Int32) (v_tape_formerPlace : Int32) (v_tape_word : Int64) (v_tape_number : Int32) (a_names : Nat → Int64) (a_namePlaces : Nat → Int32) (a_nameUnits : Nat → Int32) (a_nameSettings : Nat → Int32) (x1 : Int32) (H : Heap) (locs : List Loc) (ls : Array Slot), FX3_takeName_122 n v_tape_length a_tape_bytes v_fault v_faultPlace v_nameCount v_tape_next v_tape_type v_tape_place v_tape_formerPlace v_tape_word v_tape_number a_names a_namePlaces a_nameUnits a_nameSettings x1 = O → va_P D classes [(h_t, .inr (3, [.int v_fault, .int v_faultPlace, .ref h_tape, .ref h_draft, .ref h_names, .ref h_namePlaces, .ref h_nameUnits, .ref h_nameSettings, .int v_nameCount, .ref h_setNames, .ref h_setValues, .int v_setCount])), (h_tape, .inr (4, [.ref h_tape_bytes, .int v_tape_length, .int v_tape_next, .int v_tape_type, .int v_tape_place, .int v_tape_formerPlace, .long v_tape_word, .int v_tape_number])), (h_names, .inl (cJ, 96, .inr (.inl a_names))), (h_namePlaces, .inl (cI, 96, .inl a_namePlaces)), (h_nameUnits, .inl (cI, 96, .inl a_nameUnits)), (h_nameSettings, .inl (cI, 96, .inl a_nameSettings)), (h_tape_bytes, .inl (cB, 1200, .inl a_tape_bytes))] H → va_D A [(h_t, .inr (3, [.int v_fault, .int v_faultPlace, .ref h_tape, .ref h_draft, .ref h_names, .ref h_namePlaces, .ref h_nameUnits, .ref h_nameSettings, .int v_nameCount, .ref h_setNames, .ref h_setValues, .int v_setCount])), (h_tape, .inr (4, [.ref h_tape_bytes, .int v_tape_length, .int v_tape_next, .int v_tape_type, .int v_tape_place, .int v_tape_formerPlace, .long v_tape_word, .int v_tape_number])), (h_names, .inl (cJ, 96, .inr (.inl a_names))), (h_namePlaces, .inl (cI, 96, .inl a_namePlaces)), (h_nameUnits, .inl (cI, 96, .inl a_nameUnits)), (h_nameSettings, .inl (cI, 96, .inl a_nameSettings)), (h_tape_bytes, .inl (cB, 1200, .inl a_tape_bytes))] → va_S A s.heap H locs → lv_has ls 2 [(0, .ref h_t), (1, .int x1)] → W p l e rmX3_takeName s m ([.ref h_t] : List Value).toArray below meth c H locs 0 0 Q (F0 m 122 ls []) := by
    intro v_fault v_faultPlace v_nameCount v_tape_next v_tape_type v_tape_place v_tape_formerPlace v_tape_word v_tape_number a_names a_namePlaces a_nameUnits a_nameSettings x1 H locs ls hF hP hD hS hl
    unfold FX3_takeName_122 at hF
    refine lv_aload_n hx hb dX3_takeName_122 rfl (lv_at hl 0 rfl) ?_
    refine va_get (D := D) (ci := 3) (C := RX3) (T := TX3) (N := 12) hx hb ha inAX3 hown hK hP 0 rfl rfl 2 (by decide) (ha _ w_1_124) (fun _ h9 => h9) rfl dX3_takeName_123 ?_
    have hn_21 := bdN hN hF
    refine callVNV (As := []) (rest := []) (wr := [(h_t, .inr (3, [.int v_fault, .int v_faultPlace, .ref h_tape, .ref h_draft, .ref h_names, .ref h_namePlaces, .ref h_nameUnits, .ref h_nameSettings, .int v_nameCount, .ref h_setNames, .ref h_setValues, .int v_setCount])), (h_names, .inl (cJ, 96, .inr (.inl a_names))), (h_namePlaces, .inl (cI, 96, .inl a_namePlaces)), (h_nameUnits, .inl (cI, 96, .inl a_nameUnits)), (h_nameSettings, .inl (cI, 96, .inl a_nameSettings))]) (W2 := fun u_22 => [(h_t, .inr (3, [.int v_fault, .int v_faultPlace, .ref h_tape, .ref h_draft, .ref h_names, .ref h_namePlaces, .ref h_nameUnits, .ref h_nameSettings, .int v_nameCount, .ref h_setNames, .ref h_setValues, .int v_setCount])), (h_tape, .inr (4, [.ref h_tape_bytes, .int v_tape_length, .int u_22.2.1, .int u_22.2.2.1, .int u_22.2.2.2.1, .int u_22.2.2.2.2.1, .long u_22.2.2.2.2.2.1, .int u_22.2.2.2.2.2.2])), (h_names, .inl (cJ, 96, .inr (.inl a_names))), (h_namePlaces, .inl (cI, 96, .inl a_namePlaces)), (h_nameUnits, .inl (cI, 96, .inl a_nameUnits)), (h_nameSettings, .inl (cI, 96, .inl a_nameSettings)), (h_tape_bytes, .inl (cB, 1200, .inl a_tape_bytes))]) X hE hP hD hS hA (kX4_advance l D cB cI cJ cZ rz n H.size h_tape h_tape_bytes v_tape_length v_tape_next v_tape_type v_tape_place v_tape_formerPlace v_tape_word v_tape_number a_tape_bytes hn_21) w_2_92 w_2_62 ws_4 w_1_4 w_2_63 cb_X4_advance rfl rfl ⟨Nat.le_of_ble_eq_true rfl, Nat.le_of_ble_eq_true rfl⟩ rfl hl.1 rfl (Nat.le_of_ble_eq_true rfl) dX3_takeName_126 ⟨Nat.le_of_ble_eq_true rfl, Nat.le_of_ble_eq_true rfl⟩ (c2 := 0) (s2 := 0) rfl rfl (k0 := 1) rfl rfl [1, 6] [0, 2, 3, 4, 5] [0, 5, 1, 2, 3, 4, 6] rfl rfl (by decide) (by decide) (by decide) (by decide) (fun _ => rfl) (fun u_22 H locs hG hP hD hS => ?_)
    replace hF := bdQ hG hF
    refine lv_iload_n hx hb dX3_takeName_129 rfl (lv_at hl 1 rfl) ?_
    exact hret (x1, v_fault, v_faultPlace, v_nameCount, u_22.2.1, u_22.2.2.1, u_22.2.2.2.1, u_22.2.2.2.2.1, u_22.2.2.2.2.2.1, u_22.2.2.2.2.2.2, a_names, a_namePlaces, a_nameUnits, a_nameSettings) H locs ls _ hF hP hD hS dX3_takeName_130
  have L44 : ∀ (v_fault : Int32) (v_faultPlace : Int32) (v_nameCount : Int32) (v_tape_next : Int32) (v_tape_type : Int32) (v_tape_place : Int32) (v_tape_formerPlace : Int32) (v_tape_word : Int64) (v_tape_number : Int32) (a_names : Nat → Int64) (a_namePlaces : Nat → Int32) (a_nameUnits : Nat → Int32) (a_nameSettings : Nat → Int32) (x1 : Int32) (H : Heap) (locs : List Loc) (ls : Array Slot), FX3_takeName_44 n v_tape_length a_tape_bytes v_fault v_faultPlace v_nameCount v_tape_next v_tape_type v_tape_place v_tape_formerPlace v_tape_word v_tape_number a_names a_namePlaces a_nameUnits a_nameSettings x1 = O → va_P D classes [(h_t, .inr (3, [.int v_fault, .int v_faultPlace, .ref h_tape, .ref h_draft, .ref h_names, .ref h_namePlaces, .ref h_nameUnits, .ref h_nameSettings, .int v_nameCount, .ref h_setNames, .ref h_setValues, .int v_setCount])), (h_tape, .inr (4, [.ref h_tape_bytes, .int v_tape_length, .int v_tape_next, .int v_tape_type, .int v_tape_place, .int v_tape_formerPlace, .long v_tape_word, .int v_tape_number])), (h_names, .inl (cJ, 96, .inr (.inl a_names))), (h_namePlaces, .inl (cI, 96, .inl a_namePlaces)), (h_nameUnits, .inl (cI, 96, .inl a_nameUnits)), (h_nameSettings, .inl (cI, 96, .inl a_nameSettings)), (h_tape_bytes, .inl (cB, 1200, .inl a_tape_bytes))] H → va_D A [(h_t, .inr (3, [.int v_fault, .int v_faultPlace, .ref h_tape, .ref h_draft, .ref h_names, .ref h_namePlaces, .ref h_nameUnits, .ref h_nameSettings, .int v_nameCount, .ref h_setNames, .ref h_setValues, .int v_setCount])), (h_tape, .inr (4, [.ref h_tape_bytes, .int v_tape_length, .int v_tape_next, .int v_tape_type, .int v_tape_place, .int v_tape_formerPlace, .long v_tape_word, .int v_tape_number])), (h_names, .inl (cJ, 96, .inr (.inl a_names))), (h_namePlaces, .inl (cI, 96, .inl a_namePlaces)), (h_nameUnits, .inl (cI, 96, .inl a_nameUnits)), (h_nameSettings, .inl (cI, 96, .inl a_nameSettings)), (h_tape_bytes, .inl (cB, 1200, .inl a_tape_bytes))] → va_S A s.heap H locs → lv_has ls 2 [(0, .ref h_t), (1, .int x1)] → W p l e rmX3_takeName s m ([.ref h_t] : List Value).toArray below meth c H locs 0 0 Q (F0 m 44 ls []) := by
    intro v_fault v_faultPlace v_nameCount v_tape_next v_tape_type v_tape_place v_tape_formerPlace v_tape_word v_tape_number a_names a_namePlaces a_nameUnits a_nameSettings x1 H locs ls hF hP hD hS hl
    unfold FX3_takeName_44 at hF
    refine lv_iload_n hx hb dX3_takeName_44 rfl (lv_at hl 1 rfl) ?_
    refine lv_bipush (v := 96) hx hb dX3_takeName_45 (by decide) ?_
    refine lv_icmp_lt (tgt := 64) hx hb dX3_takeName_47 (by decide) (fun c_8 => ?_) (fun c_8 => ?_)
    · replace hF := ifT c_8 hF
      refine lv_iload_n hx hb dX3_takeName_64 rfl (lv_at hl 1 rfl) ?_
      refine lv_aload_n hx hb dX3_takeName_65 rfl (lv_at hl 0 rfl) ?_
      refine va_get (D := D) (ci := 3) (C := RX3) (T := TX3) (N := 12) hx hb ha inAX3 hown hK hP 0 rfl rfl 8 (by decide) (ha _ w_1_132) (fun _ h9 => h9) rfl dX3_takeName_66 ?_
      refine lv_icmp_ne (tgt := 122) hx hb dX3_takeName_69 (by decide) (fun c_9 => ?_) (fun c_9 => ?_)
      · replace hF := ifF c_9 hF
        exact L122 v_fault v_faultPlace v_nameCount v_tape_next v_tape_type v_tape_place v_tape_formerPlace v_tape_word v_tape_number a_names a_namePlaces a_nameUnits a_nameSettings x1 H locs ls hF hP hD hS (lv_sub hl [0, 1] rfl)
      · replace hF := ifT c_9 hF
        refine lv_aload_n hx hb dX3_takeName_72 rfl (lv_at hl 0 rfl) ?_
        refine va_get (D := D) (ci := 3) (C := RX3) (T := TX3) (N := 12) hx hb ha inAX3 hown hK hP 0 rfl rfl 4 (by decide) (ha _ w_1_128) (fun _ h9 => h9) rfl dX3_takeName_73 ?_
        refine lv_iload_n hx hb dX3_takeName_76 rfl (lv_at hl 1 rfl) ?_
        refine lv_aload_n hx hb dX3_takeName_77 rfl (lv_at hl 0 rfl) ?_
        refine va_get (D := D) (ci := 3) (C := RX3) (T := TX3) (N := 12) hx hb ha inAX3 hown hK hP 0 rfl rfl 2 (by decide) (ha _ w_1_124) (fun _ h9 => h9) rfl dX3_takeName_78 ?_
        refine va_getN (D := D) (ci := 4) (C := RX4) (T := TX4) (N := 8) hx hb ha inAX4 hown hK hP 1 rfl rfl 6 (by decide) (va_Nw.use rfl (hE.2.1 _ w_1_97)) (fun _ h9 => h9) rfl dX3_takeName_81 ?_
        replace hF := ckP hN hF
        obtain ⟨c_10, hF⟩ := hF
        obtain ⟨f_11, ef_11⟩ : ∃ g : Nat → Int64, g = vp_updL a_names (x1).toNatClampNeg v_tape_word := ⟨_, rfl⟩
        replace hF := ltP ef_11 hF
        refine st_l (g := f_11) (W2 := [(h_t, .inr (3, [.int v_fault, .int v_faultPlace, .ref h_tape, .ref h_draft, .ref h_names, .ref h_namePlaces, .ref h_nameUnits, .ref h_nameSettings, .int v_nameCount, .ref h_setNames, .ref h_setValues, .int v_setCount])), (h_tape, .inr (4, [.ref h_tape_bytes, .int v_tape_length, .int v_tape_next, .int v_tape_type, .int v_tape_place, .int v_tape_formerPlace, .long v_tape_word, .int v_tape_number])), (h_names, .inl (cJ, 96, .inr (.inl f_11))), (h_namePlaces, .inl (cI, 96, .inl a_namePlaces)), (h_nameUnits, .inl (cI, 96, .inl a_nameUnits)), (h_nameSettings, .inl (cI, 96, .inl a_nameSettings)), (h_tape_bytes, .inl (cB, 1200, .inl a_tape_bytes))]) hx hb hK hP hD hS 2 rfl c_10 ef_11 dX3_takeName_84 rfl (fun H locs hP hD hS => ?_)
        refine lv_aload_n hx hb dX3_takeName_85 rfl (lv_at hl 0 rfl) ?_
        refine va_get (D := D) (ci := 3) (C := RX3) (T := TX3) (N := 12) hx hb ha inAX3 hown hK hP 0 rfl rfl 5 (by decide) (ha _ w_1_129) (fun _ h9 => h9) rfl dX3_takeName_86 ?_
        refine lv_iload_n hx hb dX3_takeName_89 rfl (lv_at hl 1 rfl) ?_
        refine lv_aload_n hx hb dX3_takeName_90 rfl (lv_at hl 0 rfl) ?_
        refine va_get (D := D) (ci := 3) (C := RX3) (T := TX3) (N := 12) hx hb ha inAX3 hown hK hP 0 rfl rfl 2 (by decide) (ha _ w_1_124) (fun _ h9 => h9) rfl dX3_takeName_91 ?_
        refine va_getN (D := D) (ci := 4) (C := RX4) (T := TX4) (N := 8) hx hb ha inAX4 hown hK hP 1 rfl rfl 4 (by decide) (va_Nw.use rfl (hE.2.1 _ w_1_93)) (fun _ h9 => h9) rfl dX3_takeName_94 ?_
        replace hF := ckP hN hF
        obtain ⟨c_12, hF⟩ := hF
        obtain ⟨f_13, ef_13⟩ : ∃ g : Nat → Int32, g = upd a_namePlaces (x1).toNatClampNeg v_tape_place := ⟨_, rfl⟩
        replace hF := ltP ef_13 hF
        refine st_i (g := f_13) (W2 := [(h_t, .inr (3, [.int v_fault, .int v_faultPlace, .ref h_tape, .ref h_draft, .ref h_names, .ref h_namePlaces, .ref h_nameUnits, .ref h_nameSettings, .int v_nameCount, .ref h_setNames, .ref h_setValues, .int v_setCount])), (h_tape, .inr (4, [.ref h_tape_bytes, .int v_tape_length, .int v_tape_next, .int v_tape_type, .int v_tape_place, .int v_tape_formerPlace, .long v_tape_word, .int v_tape_number])), (h_names, .inl (cJ, 96, .inr (.inl f_11))), (h_namePlaces, .inl (cI, 96, .inl f_13)), (h_nameUnits, .inl (cI, 96, .inl a_nameUnits)), (h_nameSettings, .inl (cI, 96, .inl a_nameSettings)), (h_tape_bytes, .inl (cB, 1200, .inl a_tape_bytes))]) hx hb hK hP hD hS 3 rfl c_12 ef_13 dX3_takeName_97 rfl (fun H locs hP hD hS => ?_)
        refine lv_aload_n hx hb dX3_takeName_98 rfl (lv_at hl 0 rfl) ?_
        refine va_get (D := D) (ci := 3) (C := RX3) (T := TX3) (N := 12) hx hb ha inAX3 hown hK hP 0 rfl rfl 6 (by decide) (ha _ w_1_130) (fun _ h9 => h9) rfl dX3_takeName_99 ?_
        refine lv_iload_n hx hb dX3_takeName_102 rfl (lv_at hl 1 rfl) ?_
        refine lv_iconst (v := -1) hx hb dX3_takeName_103 (by decide) ?_
        replace hF := ckP hN hF
        obtain ⟨c_14, hF⟩ := hF
        obtain ⟨f_15, ef_15⟩ : ∃ g : Nat → Int32, g = upd a_nameUnits (x1).toNatClampNeg (-1 : Int32) := ⟨_, rfl⟩
        replace hF := ltP ef_15 hF
        refine st_i (g := f_15) (W2 := [(h_t, .inr (3, [.int v_fault, .int v_faultPlace, .ref h_tape, .ref h_draft, .ref h_names, .ref h_namePlaces, .ref h_nameUnits, .ref h_nameSettings, .int v_nameCount, .ref h_setNames, .ref h_setValues, .int v_setCount])), (h_tape, .inr (4, [.ref h_tape_bytes, .int v_tape_length, .int v_tape_next, .int v_tape_type, .int v_tape_place, .int v_tape_formerPlace, .long v_tape_word, .int v_tape_number])), (h_names, .inl (cJ, 96, .inr (.inl f_11))), (h_namePlaces, .inl (cI, 96, .inl f_13)), (h_nameUnits, .inl (cI, 96, .inl f_15)), (h_nameSettings, .inl (cI, 96, .inl a_nameSettings)), (h_tape_bytes, .inl (cB, 1200, .inl a_tape_bytes))]) hx hb hK hP hD hS 4 rfl c_14 ef_15 dX3_takeName_104 rfl (fun H locs hP hD hS => ?_)
        refine lv_aload_n hx hb dX3_takeName_105 rfl (lv_at hl 0 rfl) ?_
        refine va_get (D := D) (ci := 3) (C := RX3) (T := TX3) (N := 12) hx hb ha inAX3 hown hK hP 0 rfl rfl 7 (by decide) (ha _ w_1_131) (fun _ h9 => h9) rfl dX3_takeName_106 ?_
        refine lv_iload_n hx hb dX3_takeName_109 rfl (lv_at hl 1 rfl) ?_
        refine lv_iconst (v := 0) hx hb dX3_takeName_110 (by decide) ?_
        replace hF := ckP hN hF
        obtain ⟨c_16, hF⟩ := hF
        obtain ⟨f_17, ef_17⟩ : ∃ g : Nat → Int32, g = upd a_nameSettings (x1).toNatClampNeg (0 : Int32) := ⟨_, rfl⟩
        replace hF := ltP ef_17 hF
        refine st_i (g := f_17) (W2 := [(h_t, .inr (3, [.int v_fault, .int v_faultPlace, .ref h_tape, .ref h_draft, .ref h_names, .ref h_namePlaces, .ref h_nameUnits, .ref h_nameSettings, .int v_nameCount, .ref h_setNames, .ref h_setValues, .int v_setCount])), (h_tape, .inr (4, [.ref h_tape_bytes, .int v_tape_length, .int v_tape_next, .int v_tape_type, .int v_tape_place, .int v_tape_formerPlace, .long v_tape_word, .int v_tape_number])), (h_names, .inl (cJ, 96, .inr (.inl f_11))), (h_namePlaces, .inl (cI, 96, .inl f_13)), (h_nameUnits, .inl (cI, 96, .inl f_15)), (h_nameSettings, .inl (cI, 96, .inl f_17)), (h_tape_bytes, .inl (cB, 1200, .inl a_tape_bytes))]) hx hb hK hP hD hS 5 rfl c_16 ef_17 dX3_takeName_111 rfl (fun H locs hP hD hS => ?_)
        refine lv_aload_n hx hb dX3_takeName_112 rfl (lv_at hl 0 rfl) ?_
        refine lv_dup hx hb dX3_takeName_113 rfl ?_
        refine va_get (D := D) (ci := 3) (C := RX3) (T := TX3) (N := 12) hx hb ha inAX3 hown hK hP 0 rfl rfl 8 (by decide) (ha _ w_1_132) (fun _ h9 => h9) rfl dX3_takeName_114 ?_
        refine lv_iconst (v := 1) hx hb dX3_takeName_117 (by decide) ?_
        refine lv_iadd hx hb dX3_takeName_118 ?_
        refine lv_topi (fun x_18 ex_18 => ?_)
        replace hF := ltP ex_18 hF
        refine pt (C := RX3) (T := TX3) (N := 12) (ci := 3) (v := .int x_18) (W2 := [(h_t, .inr (3, [.int v_fault, .int v_faultPlace, .ref h_tape, .ref h_draft, .ref h_names, .ref h_namePlaces, .ref h_nameUnits, .ref h_nameSettings, .int x_18, .ref h_setNames, .ref h_setValues, .int v_setCount])), (h_tape, .inr (4, [.ref h_tape_bytes, .int v_tape_length, .int v_tape_next, .int v_tape_type, .int v_tape_place, .int v_tape_formerPlace, .long v_tape_word, .int v_tape_number])), (h_names, .inl (cJ, 96, .inr (.inl f_11))), (h_namePlaces, .inl (cI, 96, .inl f_13)), (h_nameUnits, .inl (cI, 96, .inl f_15)), (h_nameSettings, .inl (cI, 96, .inl f_17)), (h_tape_bytes, .inl (cB, 1200, .inl a_tape_bytes))]) hx hb ha inAX3 tyX3 tyX3_ok nmX3 hown hK hP hD hS 0 rfl rfl 8 (by decide) (ha _ w_1_132) rfl rfl rfl rfl (Nat.le_of_ble_eq_true rfl) dX3_takeName_119 rfl (fun H locs hP hD hS => ?_)
        exact L122 v_fault v_faultPlace x_18 v_tape_next v_tape_type v_tape_place v_tape_formerPlace v_tape_word v_tape_number f_11 f_13 f_15 f_17 x1 H locs ls hF hP hD hS (lv_sub hl [0, 1] rfl)
    · replace hF := ifF c_8 hF
      refine lv_aload_n hx hb dX3_takeName_50 rfl (lv_at hl 0 rfl) ?_
      refine lv_iconst (v := 2) hx hb dX3_takeName_51 (by decide) ?_
      refine lv_aload_n hx hb dX3_takeName_52 rfl (lv_at hl 0 rfl) ?_
      refine va_get (D := D) (ci := 3) (C := RX3) (T := TX3) (N := 12) hx hb ha inAX3 hown hK hP 0 rfl rfl 2 (by decide) (ha _ w_1_124) (fun _ h9 => h9) rfl dX3_takeName_53 ?_
      refine va_getN (D := D) (ci := 4) (C := RX4) (T := TX4) (N := 8) hx hb ha inAX4 hown hK hP 1 rfl rfl 4 (by decide) (va_Nw.use rfl (hE.2.1 _ w_1_93)) (fun _ h9 => h9) rfl dX3_takeName_56 ?_
      have hn_19 := bdN hN hF
      refine callVV (As := [.int (2 : Int32), .int v_tape_place]) (rest := []) (wr := [(h_tape, .inr (4, [.ref h_tape_bytes, .int v_tape_length, .int v_tape_next, .int v_tape_type, .int v_tape_place, .int v_tape_formerPlace, .long v_tape_word, .int v_tape_number])), (h_names, .inl (cJ, 96, .inr (.inl a_names))), (h_namePlaces, .inl (cI, 96, .inl a_namePlaces)), (h_nameUnits, .inl (cI, 96, .inl a_nameUnits)), (h_nameSettings, .inl (cI, 96, .inl a_nameSettings)), (h_tape_bytes, .inl (cB, 1200, .inl a_tape_bytes))]) (W2 := fun u_20 => [(h_t, .inr (3, [.int u_20.2.1, .int u_20.2.2, .ref h_tape, .ref h_draft, .ref h_names, .ref h_namePlaces, .ref h_nameUnits, .ref h_nameSettings, .int v_nameCount, .ref h_setNames, .ref h_setValues, .int v_setCount])), (h_tape, .inr (4, [.ref h_tape_bytes, .int v_tape_length, .int v_tape_next, .int v_tape_type, .int v_tape_place, .int v_tape_formerPlace, .long v_tape_word, .int v_tape_number])), (h_names, .inl (cJ, 96, .inr (.inl a_names))), (h_namePlaces, .inl (cI, 96, .inl a_namePlaces)), (h_nameUnits, .inl (cI, 96, .inl a_nameUnits)), (h_nameSettings, .inl (cI, 96, .inl a_nameSettings)), (h_tape_bytes, .inl (cB, 1200, .inl a_tape_bytes))]) X hE hP hD hS hA (kX3_fail l D cB cI cJ cZ rz n H.size h_t h_tape h_draft h_names h_namePlaces h_nameUnits h_nameSettings h_setNames h_setValues v_fault v_faultPlace v_nameCount v_setCount (2 : Int32) v_tape_place hn_19) w_2_88 w_2_90 ws_9 w_1_3 w_2_91 cb_X3_fail rfl rfl ⟨Nat.le_of_ble_eq_true rfl, Nat.le_of_ble_eq_true rfl⟩ rfl hl.1 rfl (Nat.le_of_ble_eq_true rfl) dX3_takeName_59 ⟨Nat.le_of_ble_eq_true rfl, Nat.le_of_ble_eq_true rfl⟩ (c2 := 0) (s2 := 0) rfl rfl (k0 := 0) rfl rfl [0] [1, 2, 3, 4, 5, 6] [6, 0, 1, 2, 3, 4, 5] rfl rfl (by decide) (by decide) (by decide) (by decide) (fun _ => rfl) (fun u_20 H locs hG hP hD hS => ?_)
      replace hF := bdQ hG hF
      refine lv_iconst (v := 0) hx hb dX3_takeName_62 (by decide) ?_
      exact hret ((0 : Int32), u_20.2.1, u_20.2.2, v_nameCount, v_tape_next, v_tape_type, v_tape_place, v_tape_formerPlace, v_tape_word, v_tape_number, a_names, a_namePlaces, a_nameUnits, a_nameSettings) H locs ls _ hF hP hD hS dX3_takeName_63
  have L13 : ∀ (k13 : Int32 → Int32 → Int32 → Int32 → Int32 → Int32 → Int32 → Int64 → Int32 → (Nat → Int64) → (Nat → Int32) → (Nat → Int32) → (Nat → Int32) → Int32 → Option (Int32 × Int32 × Int32 × Int32 × Int32 × Int32 × Int32 × Int32 × Int64 × Int32 × (Nat → Int64) × (Nat → Int32) × (Nat → Int32) × (Nat → Int32))) (ih13 : ∀ (v_fault : Int32) (v_faultPlace : Int32) (v_nameCount : Int32) (v_tape_next : Int32) (v_tape_type : Int32) (v_tape_place : Int32) (v_tape_formerPlace : Int32) (v_tape_word : Int64) (v_tape_number : Int32) (a_names : Nat → Int64) (a_namePlaces : Nat → Int32) (a_nameUnits : Nat → Int32) (a_nameSettings : Nat → Int32) (x1 : Int32) (H : Heap) (locs : List Loc) (ls : Array Slot), k13 v_fault v_faultPlace v_nameCount v_tape_next v_tape_type v_tape_place v_tape_formerPlace v_tape_word v_tape_number a_names a_namePlaces a_nameUnits a_nameSettings x1 = O → va_P D classes [(h_t, .inr (3, [.int v_fault, .int v_faultPlace, .ref h_tape, .ref h_draft, .ref h_names, .ref h_namePlaces, .ref h_nameUnits, .ref h_nameSettings, .int v_nameCount, .ref h_setNames, .ref h_setValues, .int v_setCount])), (h_tape, .inr (4, [.ref h_tape_bytes, .int v_tape_length, .int v_tape_next, .int v_tape_type, .int v_tape_place, .int v_tape_formerPlace, .long v_tape_word, .int v_tape_number])), (h_names, .inl (cJ, 96, .inr (.inl a_names))), (h_namePlaces, .inl (cI, 96, .inl a_namePlaces)), (h_nameUnits, .inl (cI, 96, .inl a_nameUnits)), (h_nameSettings, .inl (cI, 96, .inl a_nameSettings)), (h_tape_bytes, .inl (cB, 1200, .inl a_tape_bytes))] H → va_D A [(h_t, .inr (3, [.int v_fault, .int v_faultPlace, .ref h_tape, .ref h_draft, .ref h_names, .ref h_namePlaces, .ref h_nameUnits, .ref h_nameSettings, .int v_nameCount, .ref h_setNames, .ref h_setValues, .int v_setCount])), (h_tape, .inr (4, [.ref h_tape_bytes, .int v_tape_length, .int v_tape_next, .int v_tape_type, .int v_tape_place, .int v_tape_formerPlace, .long v_tape_word, .int v_tape_number])), (h_names, .inl (cJ, 96, .inr (.inl a_names))), (h_namePlaces, .inl (cI, 96, .inl a_namePlaces)), (h_nameUnits, .inl (cI, 96, .inl a_nameUnits)), (h_nameSettings, .inl (cI, 96, .inl a_nameSettings)), (h_tape_bytes, .inl (cB, 1200, .inl a_tape_bytes))] → va_S A s.heap H locs → lv_has ls 2 [(0, .ref h_t), (1, .int x1)] → W p l e rmX3_takeName s m ([.ref h_t] : List Value).toArray below meth c H locs 0 0 Q (F0 m 13 ls [])), ∀ (v_fault : Int32) (v_faultPlace : Int32) (v_nameCount : Int32) (v_tape_next : Int32) (v_tape_type : Int32) (v_tape_place : Int32) (v_tape_formerPlace : Int32) (v_tape_word : Int64) (v_tape_number : Int32) (a_names : Nat → Int64) (a_namePlaces : Nat → Int32) (a_nameUnits : Nat → Int32) (a_nameSettings : Nat → Int32) (x1 : Int32) (H : Heap) (locs : List Loc) (ls : Array Slot), FX3_takeName_13 n v_tape_length a_tape_bytes k13 v_fault v_faultPlace v_nameCount v_tape_next v_tape_type v_tape_place v_tape_formerPlace v_tape_word v_tape_number a_names a_namePlaces a_nameUnits a_nameSettings x1 = O → va_P D classes [(h_t, .inr (3, [.int v_fault, .int v_faultPlace, .ref h_tape, .ref h_draft, .ref h_names, .ref h_namePlaces, .ref h_nameUnits, .ref h_nameSettings, .int v_nameCount, .ref h_setNames, .ref h_setValues, .int v_setCount])), (h_tape, .inr (4, [.ref h_tape_bytes, .int v_tape_length, .int v_tape_next, .int v_tape_type, .int v_tape_place, .int v_tape_formerPlace, .long v_tape_word, .int v_tape_number])), (h_names, .inl (cJ, 96, .inr (.inl a_names))), (h_namePlaces, .inl (cI, 96, .inl a_namePlaces)), (h_nameUnits, .inl (cI, 96, .inl a_nameUnits)), (h_nameSettings, .inl (cI, 96, .inl a_nameSettings)), (h_tape_bytes, .inl (cB, 1200, .inl a_tape_bytes))] H → va_D A [(h_t, .inr (3, [.int v_fault, .int v_faultPlace, .ref h_tape, .ref h_draft, .ref h_names, .ref h_namePlaces, .ref h_nameUnits, .ref h_nameSettings, .int v_nameCount, .ref h_setNames, .ref h_setValues, .int v_setCount])), (h_tape, .inr (4, [.ref h_tape_bytes, .int v_tape_length, .int v_tape_next, .int v_tape_type, .int v_tape_place, .int v_tape_formerPlace, .long v_tape_word, .int v_tape_number])), (h_names, .inl (cJ, 96, .inr (.inl a_names))), (h_namePlaces, .inl (cI, 96, .inl a_namePlaces)), (h_nameUnits, .inl (cI, 96, .inl a_nameUnits)), (h_nameSettings, .inl (cI, 96, .inl a_nameSettings)), (h_tape_bytes, .inl (cB, 1200, .inl a_tape_bytes))] → va_S A s.heap H locs → lv_has ls 2 [(0, .ref h_t), (1, .int x1)] → W p l e rmX3_takeName s m ([.ref h_t] : List Value).toArray below meth c H locs 0 0 Q (F0 m 13 ls []) := by
    intro k13 ih13 v_fault v_faultPlace v_nameCount v_tape_next v_tape_type v_tape_place v_tape_formerPlace v_tape_word v_tape_number a_names a_namePlaces a_nameUnits a_nameSettings x1 H locs ls hF hP hD hS hl
    unfold FX3_takeName_13 at hF
    refine lv_iload_n hx hb dX3_takeName_13 rfl (lv_at hl 1 rfl) ?_
    refine lv_aload_n hx hb dX3_takeName_14 rfl (lv_at hl 0 rfl) ?_
    refine va_get (D := D) (ci := 3) (C := RX3) (T := TX3) (N := 12) hx hb ha inAX3 hown hK hP 0 rfl rfl 8 (by decide) (ha _ w_1_132) (fun _ h9 => h9) rfl dX3_takeName_15 ?_
    refine lv_icmp_ge (tgt := 44) hx hb dX3_takeName_18 (by decide) (fun c_4 => ?_) (fun c_4 => ?_)
    · replace hF := ifT c_4 hF
      exact L44 v_fault v_faultPlace v_nameCount v_tape_next v_tape_type v_tape_place v_tape_formerPlace v_tape_word v_tape_number a_names a_namePlaces a_nameUnits a_nameSettings x1 H locs ls hF hP hD hS (lv_sub hl [0, 1] rfl)
    · replace hF := ifF c_4 hF
      refine lv_aload_n hx hb dX3_takeName_21 rfl (lv_at hl 0 rfl) ?_
      refine va_get (D := D) (ci := 3) (C := RX3) (T := TX3) (N := 12) hx hb ha inAX3 hown hK hP 0 rfl rfl 4 (by decide) (ha _ w_1_128) (fun _ h9 => h9) rfl dX3_takeName_22 ?_
      refine lv_iload_n hx hb dX3_takeName_25 rfl (lv_at hl 1 rfl) ?_
      replace hF := ckP hN hF
      obtain ⟨c_5, hF⟩ := hF
      refine ld_l hx hb hK hP 2 rfl c_5 dX3_takeName_26 ?_
      refine lv_aload_n hx hb dX3_takeName_27 rfl (lv_at hl 0 rfl) ?_
      refine va_get (D := D) (ci := 3) (C := RX3) (T := TX3) (N := 12) hx hb ha inAX3 hown hK hP 0 rfl rfl 2 (by decide) (ha _ w_1_124) (fun _ h9 => h9) rfl dX3_takeName_28 ?_
      refine va_getN (D := D) (ci := 4) (C := RX4) (T := TX4) (N := 8) hx hb ha inAX4 hown hK hP 1 rfl rfl 6 (by decide) (va_Nw.use rfl (hE.2.1 _ w_1_97)) (fun _ h9 => h9) rfl dX3_takeName_31 ?_
      refine W.lcmp hx hb dX3_takeName_34 ?_
      refine lv_if_eq (tgt := 44) hx hb dX3_takeName_35 (by decide) (fun c_6 => ?_) (fun c_6 => ?_)
      · replace hF := ifT c_6 hF
        exact L44 v_fault v_faultPlace v_nameCount v_tape_next v_tape_type v_tape_place v_tape_formerPlace v_tape_word v_tape_number a_names a_namePlaces a_nameUnits a_nameSettings x1 H locs ls hF hP hD hS (lv_sub hl [0, 1] rfl)
      · replace hF := ifF c_6 hF
        obtain ⟨x_7, ex_7⟩ : ∃ y : Int32, y = x1 + (1 : Int32) := ⟨_, rfl⟩
        replace hF := ltP ex_7 hF
        refine lv_iinc (v := x_7) (lv' := [(1, .int x_7), (0, .ref h_t)]) hx hb dX3_takeName_38 hl (k := 1) rfl (by rw [ex_7]; rfl) (by decide) rfl (fun ls hl => ?_)
        refine lv_goto (tgt := 13) hx hb dX3_takeName_41 (by decide) ?_
        exact ih13 v_fault v_faultPlace v_nameCount v_tape_next v_tape_type v_tape_place v_tape_formerPlace v_tape_word v_tape_number a_names a_namePlaces a_nameUnits a_nameSettings x_7 H locs ls hF hP hD hS (lv_sub hl [1, 0] rfl)
  have Lc13 : ∀ (j : Nat), ∀ (v_fault : Int32) (v_faultPlace : Int32) (v_nameCount : Int32) (v_tape_next : Int32) (v_tape_type : Int32) (v_tape_place : Int32) (v_tape_formerPlace : Int32) (v_tape_word : Int64) (v_tape_number : Int32) (a_names : Nat → Int64) (a_namePlaces : Nat → Int32) (a_nameUnits : Nat → Int32) (a_nameSettings : Nat → Int32) (x1 : Int32) (H : Heap) (locs : List Loc) (ls : Array Slot), FX3_takeName_13L n v_tape_length a_tape_bytes j v_fault v_faultPlace v_nameCount v_tape_next v_tape_type v_tape_place v_tape_formerPlace v_tape_word v_tape_number a_names a_namePlaces a_nameUnits a_nameSettings x1 = O → va_P D classes [(h_t, .inr (3, [.int v_fault, .int v_faultPlace, .ref h_tape, .ref h_draft, .ref h_names, .ref h_namePlaces, .ref h_nameUnits, .ref h_nameSettings, .int v_nameCount, .ref h_setNames, .ref h_setValues, .int v_setCount])), (h_tape, .inr (4, [.ref h_tape_bytes, .int v_tape_length, .int v_tape_next, .int v_tape_type, .int v_tape_place, .int v_tape_formerPlace, .long v_tape_word, .int v_tape_number])), (h_names, .inl (cJ, 96, .inr (.inl a_names))), (h_namePlaces, .inl (cI, 96, .inl a_namePlaces)), (h_nameUnits, .inl (cI, 96, .inl a_nameUnits)), (h_nameSettings, .inl (cI, 96, .inl a_nameSettings)), (h_tape_bytes, .inl (cB, 1200, .inl a_tape_bytes))] H → va_D A [(h_t, .inr (3, [.int v_fault, .int v_faultPlace, .ref h_tape, .ref h_draft, .ref h_names, .ref h_namePlaces, .ref h_nameUnits, .ref h_nameSettings, .int v_nameCount, .ref h_setNames, .ref h_setValues, .int v_setCount])), (h_tape, .inr (4, [.ref h_tape_bytes, .int v_tape_length, .int v_tape_next, .int v_tape_type, .int v_tape_place, .int v_tape_formerPlace, .long v_tape_word, .int v_tape_number])), (h_names, .inl (cJ, 96, .inr (.inl a_names))), (h_namePlaces, .inl (cI, 96, .inl a_namePlaces)), (h_nameUnits, .inl (cI, 96, .inl a_nameUnits)), (h_nameSettings, .inl (cI, 96, .inl a_nameSettings)), (h_tape_bytes, .inl (cB, 1200, .inl a_tape_bytes))] → va_S A s.heap H locs → lv_has ls 2 [(0, .ref h_t), (1, .int x1)] → W p l e rmX3_takeName s m ([.ref h_t] : List Value).toArray below meth c H locs 0 0 Q (F0 m 13 ls []) := by
    intro j
    induction j with
    | zero => intro _ _ _ _ _ _ _ _ _ _ _ _ _ _ H locs ls hF; exact absurd hF.symm hN
    | succ j ih => exact L13 (FX3_takeName_13L n v_tape_length a_tape_bytes j) ih
  unfold FX3_takeName at hF
  obtain ⟨H, hH⟩ : ∃ H, H = s.heap := ⟨_, rfl⟩
  obtain ⟨locs, hlo⟩ : ∃ locs : List Loc, locs = [] := ⟨_, rfl⟩
  have hS : va_S A s.heap H locs := by rw [hH, hlo]; exact hS
  rw [← hH] at hP
  have goal : W p l e rmX3_takeName s m ([.ref h_t] : List Value).toArray below meth c H locs 0 0 Q (F0 m 0 ls []) := by
    refine lv_aload_n hx hb dX3_takeName_0 rfl (lv_at hl 0 rfl) ?_
    refine lv_bipush (v := 7) hx hb dX3_takeName_1 (by decide) ?_
    have hn_1 := bdN hN hF
    refine callVZ (As := [.int (7 : Int32)]) (rest := []) (wr := [(h_names, .inl (cJ, 96, .inr (.inl a_names))), (h_namePlaces, .inl (cI, 96, .inl a_namePlaces)), (h_nameUnits, .inl (cI, 96, .inl a_nameUnits)), (h_nameSettings, .inl (cI, 96, .inl a_nameSettings)), (h_tape_bytes, .inl (cB, 1200, .inl a_tape_bytes))]) (W2 := fun u_2 => [(h_t, .inr (3, [.int u_2.2.1, .int u_2.2.2, .ref h_tape, .ref h_draft, .ref h_names, .ref h_namePlaces, .ref h_nameUnits, .ref h_nameSettings, .int v_nameCount, .ref h_setNames, .ref h_setValues, .int v_setCount])), (h_tape, .inr (4, [.ref h_tape_bytes, .int v_tape_length, .int v_tape_next, .int v_tape_type, .int v_tape_place, .int v_tape_formerPlace, .long v_tape_word, .int v_tape_number])), (h_names, .inl (cJ, 96, .inr (.inl a_names))), (h_namePlaces, .inl (cI, 96, .inl a_namePlaces)), (h_nameUnits, .inl (cI, 96, .inl a_nameUnits)), (h_nameSettings, .inl (cI, 96, .inl a_nameSettings)), (h_tape_bytes, .inl (cB, 1200, .inl a_tape_bytes))]) X hE hP hD hS hA (kX3_accepts l D cB cI cJ cZ rz n H.size h_t h_tape h_draft h_names h_namePlaces h_nameUnits h_nameSettings h_setNames h_setValues h_tape_bytes v_fault v_faultPlace v_nameCount v_setCount v_tape_length v_tape_next v_tape_type v_tape_place v_tape_formerPlace v_tape_word v_tape_number (7 : Int32) hn_1) w_2_97 w_2_99 ws_11 w_1_3 w_2_100 cb_X3_accepts rfl rfl ⟨Nat.le_of_ble_eq_true rfl, Nat.le_of_ble_eq_true rfl⟩ rfl hl.1 rfl (Nat.le_of_ble_eq_true rfl) dX3_takeName_3 ⟨Nat.le_of_ble_eq_true rfl, Nat.le_of_ble_eq_true rfl⟩ (c2 := 0) (s2 := 0) rfl rfl (k0 := 0) rfl rfl [0, 1] [2, 3, 4, 5, 6] [5, 6, 0, 1, 2, 3, 4] rfl rfl (by decide) (by decide) (by decide) (by decide) (fun _ => rfl) (fun u_2 H locs hG hzu_2 hP hD hS => ?_)
    replace hF := bdQ hG hF
    refine lv_if_ne (tgt := 11) hx hb dX3_takeName_6 (by decide) (fun c_3 => ?_) (fun c_3 => ?_)
    · replace hF := ifF c_3 hF
      refine lv_iconst (v := 0) hx hb dX3_takeName_11 (by decide) ?_
      refine lv_istore_n (lv' := [(1, .int (0 : Int32)), (0, .ref h_t)]) hx hb dX3_takeName_12 rfl hl (by decide) rfl (fun ls hl => ?_)
      exact Lc13 n u_2.2.1 u_2.2.2 v_nameCount v_tape_next v_tape_type v_tape_place v_tape_formerPlace v_tape_word v_tape_number a_names a_namePlaces a_nameUnits a_nameSettings (0 : Int32) H locs ls hF hP hD hS (lv_sub hl [1, 0] rfl)
    · replace hF := ifT c_3 hF
      refine lv_iconst (v := 0) hx hb dX3_takeName_9 (by decide) ?_
      exact hret ((0 : Int32), u_2.2.1, u_2.2.2, v_nameCount, v_tape_next, v_tape_type, v_tape_place, v_tape_formerPlace, v_tape_word, v_tape_number, a_names, a_namePlaces, a_nameUnits, a_nameSettings) H locs ls _ hF hP hD hS dX3_takeName_10
  rw [hH, hlo] at goal
  exact goal
theorem dX3_take_0 : decode cX3_take 0 = .ok (.aload_n 0, 1) := by decide +kernel
theorem dX3_take_1 : decode cX3_take 1 = .ok (.iload_n 1, 1) := by decide +kernel
theorem dX3_take_2 : decode cX3_take 2 = .ok (.invokevirtual 133, 3) := by decide +kernel
theorem dX3_take_5 : decode cX3_take 5 = .ok (.ifCond .eq 10, 3) := by decide +kernel
theorem dX3_take_8 : decode cX3_take 8 = .ok (.aload_n 0, 1) := by decide +kernel
theorem dX3_take_9 : decode cX3_take 9 = .ok (.getfield 12, 3) := by decide +kernel
theorem dX3_take_12 : decode cX3_take 12 = .ok (.invokevirtual 88, 3) := by decide +kernel
theorem dX3_take_15 : decode cX3_take 15 = .ok (.return_, 1) := by decide +kernel
abbrev rmX3_take : Room := { frames := 3, cells := 0, slots := 0, locals := 63 }
theorem cb_X3_take : CBn yX3_take 1 := ⟨by decide +kernel, by decide +kernel, by decide +kernel⟩
def FX3_take (n : Nat) (v_fault : Int32) (v_faultPlace : Int32) (v_tape_length : Int32) (v_tape_next : Int32) (v_tape_type : Int32) (v_tape_place : Int32) (v_tape_formerPlace : Int32) (v_tape_word : Int64) (v_tape_number : Int32) (a_tape_bytes : Nat → Int32) (z1 : Int32) : Option (Unit × Int32 × Int32 × Int32 × Int32 × Int32 × Int32 × Int64 × Int32) := bd (FX3_accepts n v_fault v_faultPlace v_tape_type v_tape_place z1) (fun u_2 => if u_2.1 = 0 then (some ((), u_2.2.1, u_2.2.2, v_tape_next, v_tape_type, v_tape_place, v_tape_formerPlace, v_tape_word, v_tape_number)) else (bd (FX4_advance n v_tape_length v_tape_next v_tape_type v_tape_place v_tape_formerPlace v_tape_word v_tape_number a_tape_bytes) (fun u_5 => some ((), u_2.2.1, u_2.2.2, u_5.2.1, u_5.2.2.1, u_5.2.2.2.1, u_5.2.2.2.2.1, u_5.2.2.2.2.2.1, u_5.2.2.2.2.2.2))))
set_option maxHeartbeats 4000000 in
set_option maxRecDepth 100000 in
theorem kX3_take (l : Launch) (D : va_G) (cB cI cJ cZ : ClassId) (rz n sz : Nat) (h_t : Nat) (h_tape : Nat) (h_tape_bytes : Nat) (h_draft : Nat) (h_names : Nat) (h_namePlaces : Nat) (h_nameUnits : Nat) (h_nameSettings : Nat) (h_setNames : Nat) (h_setValues : Nat) (v_fault : Int32) (v_faultPlace : Int32) (v_nameCount : Int32) (v_setCount : Int32) (v_tape_length : Int32) (v_tape_next : Int32) (v_tape_type : Int32) (v_tape_place : Int32) (v_tape_formerPlace : Int32) (v_tape_word : Int64) (v_tape_number : Int32) (a_tape_bytes : Nat → Int32) (z1 : Int32) (hN : FX3_take n v_fault v_faultPlace v_tape_length v_tape_next v_tape_type v_tape_place v_tape_formerPlace v_tape_word v_tape_number a_tape_bytes z1 ≠ none) : Met l yX3_take (Cond.code yX3_take cX3_take 2 none :: AL) rmX3_take (PW D cB cI cJ cZ rz [.ref h_t, .int z1] [(h_t, .inr (3, [.int v_fault, .int v_faultPlace, .ref h_tape, .ref h_draft, .ref h_names, .ref h_namePlaces, .ref h_nameUnits, .ref h_nameSettings, .int v_nameCount, .ref h_setNames, .ref h_setValues, .int v_setCount])), (h_tape, .inr (4, [.ref h_tape_bytes, .int v_tape_length, .int v_tape_next, .int v_tape_type, .int v_tape_place, .int v_tape_formerPlace, .long v_tape_word, .int v_tape_number])), (h_tape_bytes, .inl (cB, 1200, .inl a_tape_bytes))] sz) (QV D (FX3_take n v_fault v_faultPlace v_tape_length v_tape_next v_tape_type v_tape_place v_tape_formerPlace v_tape_word v_tape_number a_tape_bytes z1) (fun u => [(h_t, .inr (3, [.int u.2.1, .int u.2.2.1, .ref h_tape, .ref h_draft, .ref h_names, .ref h_namePlaces, .ref h_nameUnits, .ref h_nameSettings, .int v_nameCount, .ref h_setNames, .ref h_setValues, .int v_setCount])), (h_tape, .inr (4, [.ref h_tape_bytes, .int v_tape_length, .int u.2.2.2.1, .int u.2.2.2.2.1, .int u.2.2.2.2.2.1, .int u.2.2.2.2.2.2.1, .long u.2.2.2.2.2.2.2.1, .int u.2.2.2.2.2.2.2.2])), (h_tape_bytes, .inl (cB, 1200, .inl a_tape_bytes))]) (va_A [(h_t, .inr (3, [.int v_fault, .int v_faultPlace, .ref h_tape, .ref h_draft, .ref h_names, .ref h_namePlaces, .ref h_nameUnits, .ref h_nameSettings, .int v_nameCount, .ref h_setNames, .ref h_setValues, .int v_setCount])), (h_tape, .inr (4, [.ref h_tape_bytes, .int v_tape_length, .int v_tape_next, .int v_tape_type, .int v_tape_place, .int v_tape_formerPlace, .long v_tape_word, .int v_tape_number])), (h_tape_bytes, .inl (cB, 1200, .inl a_tape_bytes))] sz)) 0 0 (va_A [(h_t, .inr (3, [.int v_fault, .int v_faultPlace, .ref h_tape, .ref h_draft, .ref h_names, .ref h_namePlaces, .ref h_nameUnits, .ref h_nameSettings, .int v_nameCount, .ref h_setNames, .ref h_setValues, .int v_setCount])), (h_tape, .inr (4, [.ref h_tape_bytes, .int v_tape_length, .int v_tape_next, .int v_tape_type, .int v_tape_place, .int v_tape_formerPlace, .long v_tape_word, .int v_tape_number])), (h_tape_bytes, .inl (cB, 1200, .inl a_tape_bytes))] sz) := by
  obtain ⟨O, hF⟩ : ∃ O, FX3_take n v_fault v_faultPlace v_tape_length v_tape_next v_tape_type v_tape_place v_tape_formerPlace v_tape_word v_tape_number a_tape_bytes z1 = O := ⟨_, rfl⟩
  rw [hF] at hN ⊢
  refine enterV (cc := cX3_take) (nL := 2) (by decide) (Nat.le_of_ble_eq_true rfl) ?_
  intro p e s m below meth c A Q X hA hE hnm hsz hP hD hS hret ls hl
  obtain ⟨hx, hb, hml, hown0, ha⟩ := id X
  have hown : s.vm.findClass RX3 = some m.cls := hown0
  have hK := hE.1
  have hl : lv_has ls 2 [(0, .ref h_t), (1, .int z1)] := hl
  have hX : CallFix p m c cX3_take 2 s ([.ref h_t, .int z1] : List Value).toArray AL RX3 := X
  have X := hX
  unfold FX3_take at hF
  obtain ⟨H, hH⟩ : ∃ H, H = s.heap := ⟨_, rfl⟩
  obtain ⟨locs, hlo⟩ : ∃ locs : List Loc, locs = [] := ⟨_, rfl⟩
  have hS : va_S A s.heap H locs := by rw [hH, hlo]; exact hS
  rw [← hH] at hP
  have goal : W p l e rmX3_take s m ([.ref h_t, .int z1] : List Value).toArray below meth c H locs 0 0 Q (F0 m 0 ls []) := by
    refine lv_aload_n hx hb dX3_take_0 rfl (lv_at hl 0 rfl) ?_
    refine lv_iload_n hx hb dX3_take_1 rfl (lv_at hl 1 rfl) ?_
    have hn_1 := bdN hN hF
    refine callVZ (As := [.int z1]) (rest := []) (wr := [(h_tape_bytes, .inl (cB, 1200, .inl a_tape_bytes))]) (W2 := fun u_2 => [(h_t, .inr (3, [.int u_2.2.1, .int u_2.2.2, .ref h_tape, .ref h_draft, .ref h_names, .ref h_namePlaces, .ref h_nameUnits, .ref h_nameSettings, .int v_nameCount, .ref h_setNames, .ref h_setValues, .int v_setCount])), (h_tape, .inr (4, [.ref h_tape_bytes, .int v_tape_length, .int v_tape_next, .int v_tape_type, .int v_tape_place, .int v_tape_formerPlace, .long v_tape_word, .int v_tape_number])), (h_tape_bytes, .inl (cB, 1200, .inl a_tape_bytes))]) X hE hP hD hS hA (kX3_accepts l D cB cI cJ cZ rz n H.size h_t h_tape h_draft h_names h_namePlaces h_nameUnits h_nameSettings h_setNames h_setValues h_tape_bytes v_fault v_faultPlace v_nameCount v_setCount v_tape_length v_tape_next v_tape_type v_tape_place v_tape_formerPlace v_tape_word v_tape_number z1 hn_1) w_2_97 w_2_99 ws_11 w_1_3 w_2_100 cb_X3_accepts rfl rfl ⟨Nat.le_of_ble_eq_true rfl, Nat.le_of_ble_eq_true rfl⟩ rfl hl.1 rfl (Nat.le_of_ble_eq_true rfl) dX3_take_2 ⟨Nat.le_of_ble_eq_true rfl, Nat.le_of_ble_eq_true rfl⟩ (c2 := 0) (s2 := 0) rfl rfl (k0 := 0) rfl rfl [0, 1] [2] [1, 2, 0] rfl rfl (by decide) (by decide) (by decide) (by decide) (fun _ => rfl) (fun u_2 H locs hG hzu_2 hP hD hS => ?_)
    replace hF := bdQ hG hF
    refine lv_if_eq (tgt := 15) hx hb dX3_take_5 (by decide) (fun c_3 => ?_) (fun c_3 => ?_)
    · replace hF := ifT c_3 hF
      exact hret ((), u_2.2.1, u_2.2.2, v_tape_next, v_tape_type, v_tape_place, v_tape_formerPlace, v_tape_word, v_tape_number) H locs ls _ hF hP hD hS dX3_take_15
    · replace hF := ifF c_3 hF
      refine lv_aload_n hx hb dX3_take_8 rfl (lv_at hl 0 rfl) ?_
      refine va_get (D := D) (ci := 3) (C := RX3) (T := TX3) (N := 12) hx hb ha inAX3 hown hK hP 0 rfl rfl 2 (by decide) (ha _ w_1_124) (fun _ h9 => h9) rfl dX3_take_9 ?_
      have hn_4 := bdN hN hF
      refine callVNV (As := []) (rest := []) (wr := [(h_t, .inr (3, [.int u_2.2.1, .int u_2.2.2, .ref h_tape, .ref h_draft, .ref h_names, .ref h_namePlaces, .ref h_nameUnits, .ref h_nameSettings, .int v_nameCount, .ref h_setNames, .ref h_setValues, .int v_setCount]))]) (W2 := fun u_5 => [(h_t, .inr (3, [.int u_2.2.1, .int u_2.2.2, .ref h_tape, .ref h_draft, .ref h_names, .ref h_namePlaces, .ref h_nameUnits, .ref h_nameSettings, .int v_nameCount, .ref h_setNames, .ref h_setValues, .int v_setCount])), (h_tape, .inr (4, [.ref h_tape_bytes, .int v_tape_length, .int u_5.2.1, .int u_5.2.2.1, .int u_5.2.2.2.1, .int u_5.2.2.2.2.1, .long u_5.2.2.2.2.2.1, .int u_5.2.2.2.2.2.2])), (h_tape_bytes, .inl (cB, 1200, .inl a_tape_bytes))]) X hE hP hD hS hA (kX4_advance l D cB cI cJ cZ rz n H.size h_tape h_tape_bytes v_tape_length v_tape_next v_tape_type v_tape_place v_tape_formerPlace v_tape_word v_tape_number a_tape_bytes hn_4) w_2_92 w_2_62 ws_4 w_1_4 w_2_63 cb_X4_advance rfl rfl ⟨Nat.le_of_ble_eq_true rfl, Nat.le_of_ble_eq_true rfl⟩ rfl hl.1 rfl (Nat.le_of_ble_eq_true rfl) dX3_take_12 ⟨Nat.le_of_ble_eq_true rfl, Nat.le_of_ble_eq_true rfl⟩ (c2 := 0) (s2 := 0) rfl rfl (k0 := 1) rfl rfl [1, 2] [0] [0, 1, 2] rfl rfl (by decide) (by decide) (by decide) (by decide) (fun _ => rfl) (fun u_5 H locs hG hP hD hS => ?_)
      replace hF := bdQ hG hF
      exact hret ((), u_2.2.1, u_2.2.2, u_5.2.1, u_5.2.2.1, u_5.2.2.2.1, u_5.2.2.2.2.1, u_5.2.2.2.2.2.1, u_5.2.2.2.2.2.2) H locs ls _ hF hP hD hS dX3_take_15
  rw [hH, hlo] at goal
  exact goal
