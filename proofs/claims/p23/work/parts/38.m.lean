theorem dX7_share_0 : decode cX7_share 0 = .ok (.iload_n 1, 1) := by decide +kernel
theorem dX7_share_1 : decode cX7_share 1 = .ok (.invokestatic 266, 3) := by decide +kernel
theorem dX7_share_4 : decode cX7_share 4 = .ok (.ifCond .eq 21, 3) := by decide +kernel
theorem dX7_share_7 : decode cX7_share 7 = .ok (.iload_n 2, 1) := by decide +kernel
theorem dX7_share_8 : decode cX7_share 8 = .ok (.invokestatic 187, 3) := by decide +kernel
theorem dX7_share_11 : decode cX7_share 11 = .ok (.ifCond .eq 14, 3) := by decide +kernel
theorem dX7_share_14 : decode cX7_share 14 = .ok (.iload_n 3, 1) := by decide +kernel
theorem dX7_share_15 : decode cX7_share 15 = .ok (.ifCond .lt 10, 3) := by decide +kernel
theorem dX7_share_18 : decode cX7_share 18 = .ok (.iload_n 3, 1) := by decide +kernel
theorem dX7_share_19 : decode cX7_share 19 = .ok (.ldc_w 306, 3) := by decide +kernel
theorem dX7_share_22 : decode cX7_share 22 = .ok (.if_icmp .le 5, 3) := by decide +kernel
theorem dX7_share_25 : decode cX7_share 25 = .ok (.iconst (-1), 1) := by decide +kernel
theorem dX7_share_26 : decode cX7_share 26 = .ok (.ireturn, 1) := by decide +kernel
theorem dX7_share_27 : decode cX7_share 27 = .ok (.aload_n 0, 1) := by decide +kernel
theorem dX7_share_28 : decode cX7_share 28 = .ok (.iload_n 2, 1) := by decide +kernel
theorem dX7_share_29 : decode cX7_share 29 = .ok (.invokevirtual 273, 3) := by decide +kernel
theorem dX7_share_32 : decode cX7_share 32 = .ok (.i2l, 1) := by decide +kernel
theorem dX7_share_33 : decode cX7_share 33 = .ok (.lstore 4, 2) := by decide +kernel
theorem dX7_share_35 : decode cX7_share 35 = .ok (.lload 4, 2) := by decide +kernel
theorem dX7_share_37 : decode cX7_share 37 = .ok (.lconst 0, 1) := by decide +kernel
theorem dX7_share_38 : decode cX7_share 38 = .ok (.lcmp, 1) := by decide +kernel
theorem dX7_share_39 : decode cX7_share 39 = .ok (.ifCond .ne 5, 3) := by decide +kernel
theorem dX7_share_42 : decode cX7_share 42 = .ok (.iconst 0, 1) := by decide +kernel
theorem dX7_share_43 : decode cX7_share 43 = .ok (.ireturn, 1) := by decide +kernel
theorem dX7_share_44 : decode cX7_share 44 = .ok (.iload_n 3, 1) := by decide +kernel
theorem dX7_share_45 : decode cX7_share 45 = .ok (.istore 6, 2) := by decide +kernel
theorem dX7_share_47 : decode cX7_share 47 = .ok (.iconst 0, 1) := by decide +kernel
theorem dX7_share_48 : decode cX7_share 48 = .ok (.istore 7, 2) := by decide +kernel
theorem dX7_share_50 : decode cX7_share 50 = .ok (.iload 7, 2) := by decide +kernel
theorem dX7_share_52 : decode cX7_share 52 = .ok (.iconst 5, 1) := by decide +kernel
theorem dX7_share_53 : decode cX7_share 53 = .ok (.if_icmp .ge 59, 3) := by decide +kernel
theorem dX7_share_56 : decode cX7_share 56 = .ok (.iload_n 3, 1) := by decide +kernel
theorem dX7_share_57 : decode cX7_share 57 = .ok (.i2l, 1) := by decide +kernel
theorem dX7_share_58 : decode cX7_share 58 = .ok (.aload_n 0, 1) := by decide +kernel
theorem dX7_share_59 : decode cX7_share 59 = .ok (.iload 7, 2) := by decide +kernel
theorem dX7_share_61 : decode cX7_share 61 = .ok (.iload_n 2, 1) := by decide +kernel
theorem dX7_share_62 : decode cX7_share 62 = .ok (.invokevirtual 269, 3) := by decide +kernel
theorem dX7_share_65 : decode cX7_share 65 = .ok (.i2l, 1) := by decide +kernel
theorem dX7_share_66 : decode cX7_share 66 = .ok (.lmul, 1) := by decide +kernel
theorem dX7_share_67 : decode cX7_share 67 = .ok (.lstore 8, 2) := by decide +kernel
theorem dX7_share_69 : decode cX7_share 69 = .ok (.aload_n 0, 1) := by decide +kernel
theorem dX7_share_70 : decode cX7_share 70 = .ok (.getfield 248, 3) := by decide +kernel
theorem dX7_share_73 : decode cX7_share 73 = .ok (.iload 7, 2) := by decide +kernel
theorem dX7_share_75 : decode cX7_share 75 = .ok (.lload 8, 2) := by decide +kernel
theorem dX7_share_77 : decode cX7_share 77 = .ok (.lload 4, 2) := by decide +kernel
theorem dX7_share_79 : decode cX7_share 79 = .ok (.ldiv, 1) := by decide +kernel
theorem dX7_share_80 : decode cX7_share 80 = .ok (.l2i, 1) := by decide +kernel
theorem dX7_share_81 : decode cX7_share 81 = .ok (.iastore, 1) := by decide +kernel
theorem dX7_share_82 : decode cX7_share 82 = .ok (.aload_n 0, 1) := by decide +kernel
theorem dX7_share_83 : decode cX7_share 83 = .ok (.getfield 251, 3) := by decide +kernel
theorem dX7_share_86 : decode cX7_share 86 = .ok (.iload 7, 2) := by decide +kernel
theorem dX7_share_88 : decode cX7_share 88 = .ok (.lload 8, 2) := by decide +kernel
theorem dX7_share_90 : decode cX7_share 90 = .ok (.lload 4, 2) := by decide +kernel
theorem dX7_share_92 : decode cX7_share 92 = .ok (.lrem, 1) := by decide +kernel
theorem dX7_share_93 : decode cX7_share 93 = .ok (.lastore, 1) := by decide +kernel
theorem dX7_share_94 : decode cX7_share 94 = .ok (.iload 6, 2) := by decide +kernel
theorem dX7_share_96 : decode cX7_share 96 = .ok (.aload_n 0, 1) := by decide +kernel
theorem dX7_share_97 : decode cX7_share 97 = .ok (.getfield 248, 3) := by decide +kernel
theorem dX7_share_100 : decode cX7_share 100 = .ok (.iload 7, 2) := by decide +kernel
theorem dX7_share_102 : decode cX7_share 102 = .ok (.iaload, 1) := by decide +kernel
theorem dX7_share_103 : decode cX7_share 103 = .ok (.isub, 1) := by decide +kernel
theorem dX7_share_104 : decode cX7_share 104 = .ok (.istore 6, 2) := by decide +kernel
theorem dX7_share_106 : decode cX7_share 106 = .ok (.iinc 7 1, 3) := by decide +kernel
theorem dX7_share_109 : decode cX7_share 109 = .ok (.goto (-59), 3) := by decide +kernel
theorem dX7_share_112 : decode cX7_share 112 = .ok (.iload 6, 2) := by decide +kernel
theorem dX7_share_114 : decode cX7_share 114 = .ok (.ifCond .le 70, 3) := by decide +kernel
theorem dX7_share_117 : decode cX7_share 117 = .ok (.iconst 0, 1) := by decide +kernel
theorem dX7_share_118 : decode cX7_share 118 = .ok (.istore 7, 2) := by decide +kernel
theorem dX7_share_120 : decode cX7_share 120 = .ok (.iconst 1, 1) := by decide +kernel
theorem dX7_share_121 : decode cX7_share 121 = .ok (.istore 8, 2) := by decide +kernel
theorem dX7_share_123 : decode cX7_share 123 = .ok (.iload 8, 2) := by decide +kernel
theorem dX7_share_125 : decode cX7_share 125 = .ok (.iconst 5, 1) := by decide +kernel
theorem dX7_share_126 : decode cX7_share 126 = .ok (.if_icmp .ge 31, 3) := by decide +kernel
theorem dX7_share_129 : decode cX7_share 129 = .ok (.aload_n 0, 1) := by decide +kernel
theorem dX7_share_130 : decode cX7_share 130 = .ok (.getfield 251, 3) := by decide +kernel
theorem dX7_share_133 : decode cX7_share 133 = .ok (.iload 8, 2) := by decide +kernel
theorem dX7_share_135 : decode cX7_share 135 = .ok (.laload, 1) := by decide +kernel
theorem dX7_share_136 : decode cX7_share 136 = .ok (.aload_n 0, 1) := by decide +kernel
theorem dX7_share_137 : decode cX7_share 137 = .ok (.getfield 251, 3) := by decide +kernel
theorem dX7_share_140 : decode cX7_share 140 = .ok (.iload 7, 2) := by decide +kernel
theorem dX7_share_142 : decode cX7_share 142 = .ok (.laload, 1) := by decide +kernel
theorem dX7_share_143 : decode cX7_share 143 = .ok (.lcmp, 1) := by decide +kernel
theorem dX7_share_144 : decode cX7_share 144 = .ok (.ifCond .le 7, 3) := by decide +kernel
theorem dX7_share_147 : decode cX7_share 147 = .ok (.iload 8, 2) := by decide +kernel
theorem dX7_share_149 : decode cX7_share 149 = .ok (.istore 7, 2) := by decide +kernel
theorem dX7_share_151 : decode cX7_share 151 = .ok (.iinc 8 1, 3) := by decide +kernel
theorem dX7_share_154 : decode cX7_share 154 = .ok (.goto (-31), 3) := by decide +kernel
theorem dX7_share_157 : decode cX7_share 157 = .ok (.aload_n 0, 1) := by decide +kernel
theorem dX7_share_158 : decode cX7_share 158 = .ok (.getfield 248, 3) := by decide +kernel
theorem dX7_share_161 : decode cX7_share 161 = .ok (.iload 7, 2) := by decide +kernel
theorem dX7_share_163 : decode cX7_share 163 = .ok (.dup2, 1) := by decide +kernel
theorem dX7_share_164 : decode cX7_share 164 = .ok (.iaload, 1) := by decide +kernel
theorem dX7_share_165 : decode cX7_share 165 = .ok (.iconst 1, 1) := by decide +kernel
theorem dX7_share_166 : decode cX7_share 166 = .ok (.iadd, 1) := by decide +kernel
theorem dX7_share_167 : decode cX7_share 167 = .ok (.iastore, 1) := by decide +kernel
theorem dX7_share_168 : decode cX7_share 168 = .ok (.aload_n 0, 1) := by decide +kernel
theorem dX7_share_169 : decode cX7_share 169 = .ok (.getfield 251, 3) := by decide +kernel
theorem dX7_share_172 : decode cX7_share 172 = .ok (.iload 7, 2) := by decide +kernel
theorem dX7_share_174 : decode cX7_share 174 = .ok (.ldc2_w 212, 3) := by decide +kernel
theorem dX7_share_177 : decode cX7_share 177 = .ok (.lastore, 1) := by decide +kernel
theorem dX7_share_178 : decode cX7_share 178 = .ok (.iinc 6 (-1), 3) := by decide +kernel
theorem dX7_share_181 : decode cX7_share 181 = .ok (.goto (-69), 3) := by decide +kernel
theorem dX7_share_184 : decode cX7_share 184 = .ok (.aload_n 0, 1) := by decide +kernel
theorem dX7_share_185 : decode cX7_share 185 = .ok (.getfield 248, 3) := by decide +kernel
theorem dX7_share_188 : decode cX7_share 188 = .ok (.iload_n 1, 1) := by decide +kernel
theorem dX7_share_189 : decode cX7_share 189 = .ok (.iaload, 1) := by decide +kernel
theorem dX7_share_190 : decode cX7_share 190 = .ok (.ireturn, 1) := by decide +kernel
abbrev rmX7_share : Room := { frames := 3, cells := 0, slots := 0, locals := 71 }
theorem cb_X7_share : CBn yX7_share 3 := ⟨by decide +kernel, by decide +kernel, by decide +kernel⟩
def FX7_share_151 (n : Nat) (v_lorries : Int32) (a_lTown : Nat → Int32) (a_isStruck : Nat → Int32) (a_lSampled : Nat → Int32) (a_lWeight : Nat → Int32) (z1 : Int32) (z2 : Int32) (z3 : Int32) (k112 : (Nat → Int32) → (Nat → Int64) → Int32 → Int32 → Option (Int32 × (Nat → Int32) × (Nat → Int64))) (k123 : (Nat → Int32) → (Nat → Int64) → Int32 → Int32 → Int32 → Int32 → Option (Int32 × (Nat → Int32) × (Nat → Int64))) (a_gets : Nat → Int32) (a_rests : Nat → Int64) (x1 : Int32) (x6 : Int32) (x7 : Int32) (x8 : Int32) : Option (Int32 × (Nat → Int32) × (Nat → Int64)) := lt1 (x8 + (1 : Int32)) (fun x_41 => k123 a_gets a_rests x1 x6 x7 x_41)
def FX7_share_123 (n : Nat) (v_lorries : Int32) (a_lTown : Nat → Int32) (a_isStruck : Nat → Int32) (a_lSampled : Nat → Int32) (a_lWeight : Nat → Int32) (z1 : Int32) (z2 : Int32) (z3 : Int32) (k112 : (Nat → Int32) → (Nat → Int64) → Int32 → Int32 → Option (Int32 × (Nat → Int32) × (Nat → Int64))) (k123 : (Nat → Int32) → (Nat → Int64) → Int32 → Int32 → Int32 → Int32 → Option (Int32 × (Nat → Int32) × (Nat → Int64))) (a_gets : Nat → Int32) (a_rests : Nat → Int64) (x1 : Int32) (x6 : Int32) (x7 : Int32) (x8 : Int32) : Option (Int32 × (Nat → Int32) × (Nat → Int64)) := if (5 : Int32) ≤ x8 then (if ¬ (x7 < 0 ∨ 5 ≤ (x7).toNatClampNeg) then (lt1 ((a_gets (x7).toNatClampNeg) + (1 : Int32)) (fun x_32 => if ¬ (x7 < 0 ∨ 5 ≤ (x7).toNatClampNeg) then (lt1 (upd a_gets (x7).toNatClampNeg x_32) (fun f_34 => if ¬ (x7 < 0 ∨ 5 ≤ (x7).toNatClampNeg) then (lt1 (vp_updL a_rests (x7).toNatClampNeg (-1 : Int64)) (fun f_36 => lt1 (x6 + (-1 : Int32)) (fun x_37 => k112 f_34 f_36 x1 x_37))) else none)) else none)) else none) else (if ¬ (x8 < 0 ∨ 5 ≤ (x8).toNatClampNeg) then (if ¬ (x7 < 0 ∨ 5 ≤ (x7).toNatClampNeg) then (if (lg_cmp (a_rests (x8).toNatClampNeg) (a_rests (x7).toNatClampNeg)) ≤ 0 then (FX7_share_151 n v_lorries a_lTown a_isStruck a_lSampled a_lWeight z1 z2 z3 k112 k123 a_gets a_rests x1 x6 x7 x8) else (FX7_share_151 n v_lorries a_lTown a_isStruck a_lSampled a_lWeight z1 z2 z3 k112 k123 a_gets a_rests x1 x6 x8 x8)) else none) else none)
def FX7_share_123L (n : Nat) (v_lorries : Int32) (a_lTown : Nat → Int32) (a_isStruck : Nat → Int32) (a_lSampled : Nat → Int32) (a_lWeight : Nat → Int32) (z1 : Int32) (z2 : Int32) (z3 : Int32) (k112 : (Nat → Int32) → (Nat → Int64) → Int32 → Int32 → Option (Int32 × (Nat → Int32) × (Nat → Int64))) (j : Nat) : (Nat → Int32) → (Nat → Int64) → Int32 → Int32 → Int32 → Int32 → Option (Int32 × (Nat → Int32) × (Nat → Int64)) := lpR (FX7_share_123 n v_lorries a_lTown a_isStruck a_lSampled a_lWeight z1 z2 z3 k112) (fun _ _ _ _ _ _ => none) j
def FX7_share_112 (n : Nat) (v_lorries : Int32) (a_lTown : Nat → Int32) (a_isStruck : Nat → Int32) (a_lSampled : Nat → Int32) (a_lWeight : Nat → Int32) (z1 : Int32) (z2 : Int32) (z3 : Int32) (k112 : (Nat → Int32) → (Nat → Int64) → Int32 → Int32 → Option (Int32 × (Nat → Int32) × (Nat → Int64))) (a_gets : Nat → Int32) (a_rests : Nat → Int64) (x1 : Int32) (x6 : Int32) : Option (Int32 × (Nat → Int32) × (Nat → Int64)) := if x6 ≤ 0 then (if ¬ (x1 < 0 ∨ 5 ≤ (x1).toNatClampNeg) then (some ((a_gets (x1).toNatClampNeg), a_gets, a_rests)) else none) else (FX7_share_123L n v_lorries a_lTown a_isStruck a_lSampled a_lWeight z1 z2 z3 k112 n a_gets a_rests x1 x6 (0 : Int32) (1 : Int32))
def FX7_share_112L (n : Nat) (v_lorries : Int32) (a_lTown : Nat → Int32) (a_isStruck : Nat → Int32) (a_lSampled : Nat → Int32) (a_lWeight : Nat → Int32) (z1 : Int32) (z2 : Int32) (z3 : Int32) (j : Nat) : (Nat → Int32) → (Nat → Int64) → Int32 → Int32 → Option (Int32 × (Nat → Int32) × (Nat → Int64)) := lpR (FX7_share_112 n v_lorries a_lTown a_isStruck a_lSampled a_lWeight z1 z2 z3) (fun _ _ _ _ => none) j
def FX7_share_50 (n : Nat) (v_lorries : Int32) (a_lTown : Nat → Int32) (a_isStruck : Nat → Int32) (a_lSampled : Nat → Int32) (a_lWeight : Nat → Int32) (z1 : Int32) (z2 : Int32) (z3 : Int32) (k50 : (Nat → Int32) → (Nat → Int64) → Int32 → Int32 → Int32 → Int64 → Int32 → Int32 → Option (Int32 × (Nat → Int32) × (Nat → Int64))) (a_gets : Nat → Int32) (a_rests : Nat → Int64) (x1 : Int32) (x2 : Int32) (x3 : Int32) (x4 : Int64) (x6 : Int32) (x7 : Int32) : Option (Int32 × (Nat → Int32) × (Nat → Int64)) := if (5 : Int32) ≤ x7 then (FX7_share_112L n v_lorries a_lTown a_isStruck a_lSampled a_lWeight z1 z2 z3 n a_gets a_rests x1 x6) else (bd (FX7_broughtBy n v_lorries a_lTown a_isStruck a_lSampled a_lWeight x7 x2) (fun u_15 => lt1 ((x3).toInt64 * (u_15.1).toInt64) (fun x_16 => if ¬ x4 = 0 then (lt1 (((x_16 / x4)).toInt32) (fun x_18 => if ¬ (x7 < 0 ∨ 5 ≤ (x7).toNatClampNeg) then (lt1 (upd a_gets (x7).toNatClampNeg x_18) (fun f_20 => if ¬ x4 = 0 then (lt1 (x_16 - x_16 / x4 * x4) (fun x_22 => if ¬ (x7 < 0 ∨ 5 ≤ (x7).toNatClampNeg) then (lt1 (vp_updL a_rests (x7).toNatClampNeg x_22) (fun f_24 => if ¬ (x7 < 0 ∨ 5 ≤ (x7).toNatClampNeg) then (lt1 (x6 - (f_20 (x7).toNatClampNeg)) (fun x_26 => lt1 (x7 + (1 : Int32)) (fun x_27 => k50 f_20 f_24 x1 x2 x3 x4 x_26 x_27))) else none)) else none)) else none)) else none)) else none)))
def FX7_share_50L (n : Nat) (v_lorries : Int32) (a_lTown : Nat → Int32) (a_isStruck : Nat → Int32) (a_lSampled : Nat → Int32) (a_lWeight : Nat → Int32) (z1 : Int32) (z2 : Int32) (z3 : Int32) (j : Nat) : (Nat → Int32) → (Nat → Int64) → Int32 → Int32 → Int32 → Int64 → Int32 → Int32 → Option (Int32 × (Nat → Int32) × (Nat → Int64)) := lpR (FX7_share_50 n v_lorries a_lTown a_isStruck a_lSampled a_lWeight z1 z2 z3) (fun _ _ _ _ _ _ _ _ => none) j
def FX7_share (n : Nat) (v_lorries : Int32) (a_lTown : Nat → Int32) (a_isStruck : Nat → Int32) (a_lSampled : Nat → Int32) (a_lWeight : Nat → Int32) (a_gets : Nat → Int32) (a_rests : Nat → Int64) (z1 : Int32) (z2 : Int32) (z3 : Int32) : Option (Int32 × (Nat → Int32) × (Nat → Int64)) := bd (FX7_isTown n z1) (fun u_2 => if u_2.1 = 0 then (some ((-1 : Int32), a_gets, a_rests)) else (bd (FX7_isKind n z2) (fun u_5 => if u_5.1 = 0 then (some ((-1 : Int32), a_gets, a_rests)) else (if z3 < 0 then (some ((-1 : Int32), a_gets, a_rests)) else (if z3 ≤ (10000000 : Int32) then (bd (FX7_broughtByAll n v_lorries a_lTown a_isStruck a_lSampled a_lWeight z2) (fun u_10 => lt1 ((u_10.1).toInt64) (fun x_11 => if (lg_cmp x_11 (0 : Int64)) = 0 then (some ((0 : Int32), a_gets, a_rests)) else (FX7_share_50L n v_lorries a_lTown a_isStruck a_lSampled a_lWeight z1 z2 z3 n a_gets a_rests z1 z2 z3 x_11 z3 (0 : Int32))))) else (some ((-1 : Int32), a_gets, a_rests)))))))
set_option maxHeartbeats 4000000 in
set_option maxRecDepth 100000 in
theorem kX7_share (l : Launch) (D : va_G) (cB cI cJ cZ : ClassId) (rz n sz : Nat) (h_t : Nat) (h_lTown : Nat) (h_isStruck : Nat) (h_lSampled : Nat) (h_lWeight : Nat) (h_gets : Nat) (h_rests : Nat) (h_tape : Nat) (h_text : Nat) (h_uName : Nat) (h_outName : Nat) (h_setName : Nat) (h_unitMany : Nat) (h_yesTo : Nat) (h_noTo : Nat) (h_settingMany : Nat) (h_shares : Nat) (h_gradeMany : Nat) (h_gKind : Nat) (h_gPurity : Nat) (h_gPrice : Nat) (h_outPlace : Nat) (h_setPlace : Nat) (h_setShare : Nat) (h_chosen : Nat) (h_rows : Nat) (h_parts : Nat) (h_hand : Nat) (h_all : Nat) (h_bestChosen : Nat) (v_taped : Int32) (v_size : Int32) (v_faultKind : Int32) (v_faultPlace : Int32) (v_at : Int32) (v_end : Int32) (v_token : Int32) (v_number : Int32) (v_name : Int64) (v_bank : Int32) (v_rb : Int32) (v_sets : Int32) (v_missing : Int32) (v_whole : Int64) (v_lorries : Int32) (v_cost : Int32) (a_lTown : Nat → Int32) (a_isStruck : Nat → Int32) (a_lSampled : Nat → Int32) (a_lWeight : Nat → Int32) (a_gets : Nat → Int32) (a_rests : Nat → Int64) (z1 : Int32) (z2 : Int32) (z3 : Int32) (hN : FX7_share n v_lorries a_lTown a_isStruck a_lSampled a_lWeight a_gets a_rests z1 z2 z3 ≠ none) : Met l yX7_share (Cond.code yX7_share cX7_share 10 (some .int) :: AL) rmX7_share (PW D cB cI cJ cZ rz [.ref h_t, .int z1, .int z2, .int z3] [(h_t, .inr (7, [.ref h_tape, .ref h_text, .int v_taped, .int v_size, .int v_faultKind, .int v_faultPlace, .int v_at, .int v_end, .int v_token, .int v_number, .long v_name, .ref h_uName, .ref h_outName, .ref h_setName, .ref h_unitMany, .ref h_yesTo, .ref h_noTo, .ref h_settingMany, .ref h_shares, .ref h_gradeMany, .ref h_gKind, .ref h_gPurity, .ref h_gPrice, .ref h_outPlace, .ref h_setPlace, .ref h_setShare, .ref h_chosen, .int v_bank, .int v_rb, .int v_sets, .int v_missing, .ref h_rows, .ref h_parts, .long v_whole, .ref h_lTown, .ref h_lWeight, .ref h_lSampled, .ref h_hand, .ref h_isStruck, .int v_lorries, .int v_cost, .ref h_all, .ref h_bestChosen, .ref h_gets, .ref h_rests])), (h_lTown, .inl (cI, 60, .inl a_lTown)), (h_isStruck, .inl (cZ, 60, .inl a_isStruck)), (h_lSampled, .inl (cI, 300, .inl a_lSampled)), (h_lWeight, .inl (cI, 60, .inl a_lWeight)), (h_gets, .inl (cI, 5, .inl a_gets)), (h_rests, .inl (cJ, 5, .inr (.inl a_rests)))] sz) (QI D (FX7_share n v_lorries a_lTown a_isStruck a_lSampled a_lWeight a_gets a_rests z1 z2 z3) (fun u => [(h_t, .inr (7, [.ref h_tape, .ref h_text, .int v_taped, .int v_size, .int v_faultKind, .int v_faultPlace, .int v_at, .int v_end, .int v_token, .int v_number, .long v_name, .ref h_uName, .ref h_outName, .ref h_setName, .ref h_unitMany, .ref h_yesTo, .ref h_noTo, .ref h_settingMany, .ref h_shares, .ref h_gradeMany, .ref h_gKind, .ref h_gPurity, .ref h_gPrice, .ref h_outPlace, .ref h_setPlace, .ref h_setShare, .ref h_chosen, .int v_bank, .int v_rb, .int v_sets, .int v_missing, .ref h_rows, .ref h_parts, .long v_whole, .ref h_lTown, .ref h_lWeight, .ref h_lSampled, .ref h_hand, .ref h_isStruck, .int v_lorries, .int v_cost, .ref h_all, .ref h_bestChosen, .ref h_gets, .ref h_rests])), (h_lTown, .inl (cI, 60, .inl a_lTown)), (h_isStruck, .inl (cZ, 60, .inl a_isStruck)), (h_lSampled, .inl (cI, 300, .inl a_lSampled)), (h_lWeight, .inl (cI, 60, .inl a_lWeight)), (h_gets, .inl (cI, 5, .inl u.2.1)), (h_rests, .inl (cJ, 5, .inr (.inl u.2.2)))]) (va_A [(h_t, .inr (7, [.ref h_tape, .ref h_text, .int v_taped, .int v_size, .int v_faultKind, .int v_faultPlace, .int v_at, .int v_end, .int v_token, .int v_number, .long v_name, .ref h_uName, .ref h_outName, .ref h_setName, .ref h_unitMany, .ref h_yesTo, .ref h_noTo, .ref h_settingMany, .ref h_shares, .ref h_gradeMany, .ref h_gKind, .ref h_gPurity, .ref h_gPrice, .ref h_outPlace, .ref h_setPlace, .ref h_setShare, .ref h_chosen, .int v_bank, .int v_rb, .int v_sets, .int v_missing, .ref h_rows, .ref h_parts, .long v_whole, .ref h_lTown, .ref h_lWeight, .ref h_lSampled, .ref h_hand, .ref h_isStruck, .int v_lorries, .int v_cost, .ref h_all, .ref h_bestChosen, .ref h_gets, .ref h_rests])), (h_lTown, .inl (cI, 60, .inl a_lTown)), (h_isStruck, .inl (cZ, 60, .inl a_isStruck)), (h_lSampled, .inl (cI, 300, .inl a_lSampled)), (h_lWeight, .inl (cI, 60, .inl a_lWeight)), (h_gets, .inl (cI, 5, .inl a_gets)), (h_rests, .inl (cJ, 5, .inr (.inl a_rests)))] sz)) 0 0 (va_A [(h_t, .inr (7, [.ref h_tape, .ref h_text, .int v_taped, .int v_size, .int v_faultKind, .int v_faultPlace, .int v_at, .int v_end, .int v_token, .int v_number, .long v_name, .ref h_uName, .ref h_outName, .ref h_setName, .ref h_unitMany, .ref h_yesTo, .ref h_noTo, .ref h_settingMany, .ref h_shares, .ref h_gradeMany, .ref h_gKind, .ref h_gPurity, .ref h_gPrice, .ref h_outPlace, .ref h_setPlace, .ref h_setShare, .ref h_chosen, .int v_bank, .int v_rb, .int v_sets, .int v_missing, .ref h_rows, .ref h_parts, .long v_whole, .ref h_lTown, .ref h_lWeight, .ref h_lSampled, .ref h_hand, .ref h_isStruck, .int v_lorries, .int v_cost, .ref h_all, .ref h_bestChosen, .ref h_gets, .ref h_rests])), (h_lTown, .inl (cI, 60, .inl a_lTown)), (h_isStruck, .inl (cZ, 60, .inl a_isStruck)), (h_lSampled, .inl (cI, 300, .inl a_lSampled)), (h_lWeight, .inl (cI, 60, .inl a_lWeight)), (h_gets, .inl (cI, 5, .inl a_gets)), (h_rests, .inl (cJ, 5, .inr (.inl a_rests)))] sz) := by
  obtain ⟨O, hF⟩ : ∃ O, FX7_share n v_lorries a_lTown a_isStruck a_lSampled a_lWeight a_gets a_rests z1 z2 z3 = O := ⟨_, rfl⟩
  rw [hF] at hN ⊢
  refine enterI (cc := cX7_share) (nL := 10) (by decide) (Nat.le_of_ble_eq_true rfl) ?_
  intro p e s m below meth c A Q X hA hE hnm hsz hP hD hS hret ls hl
  obtain ⟨hx, hb, hml, hown0, ha⟩ := id X
  have hown : s.vm.findClass RX7 = some m.cls := hown0
  have hK := hE.1
  have hl : lv_has ls 10 [(0, .ref h_t), (1, .int z1), (2, .int z2), (3, .int z3)] := hl
  have hX : CallFix p m c cX7_share 10 s ([.ref h_t, .int z1, .int z2, .int z3] : List Value).toArray AL RX7 := X
  have X := hX
  have L151 : ∀ (k112 : (Nat → Int32) → (Nat → Int64) → Int32 → Int32 → Option (Int32 × (Nat → Int32) × (Nat → Int64))) (ih112 : ∀ (a_gets : Nat → Int32) (a_rests : Nat → Int64) (x1 : Int32) (x6 : Int32) (H : Heap) (locs : List Loc) (ls : Array Slot), k112 a_gets a_rests x1 x6 = O → va_P D classes [(h_t, .inr (7, [.ref h_tape, .ref h_text, .int v_taped, .int v_size, .int v_faultKind, .int v_faultPlace, .int v_at, .int v_end, .int v_token, .int v_number, .long v_name, .ref h_uName, .ref h_outName, .ref h_setName, .ref h_unitMany, .ref h_yesTo, .ref h_noTo, .ref h_settingMany, .ref h_shares, .ref h_gradeMany, .ref h_gKind, .ref h_gPurity, .ref h_gPrice, .ref h_outPlace, .ref h_setPlace, .ref h_setShare, .ref h_chosen, .int v_bank, .int v_rb, .int v_sets, .int v_missing, .ref h_rows, .ref h_parts, .long v_whole, .ref h_lTown, .ref h_lWeight, .ref h_lSampled, .ref h_hand, .ref h_isStruck, .int v_lorries, .int v_cost, .ref h_all, .ref h_bestChosen, .ref h_gets, .ref h_rests])), (h_lTown, .inl (cI, 60, .inl a_lTown)), (h_isStruck, .inl (cZ, 60, .inl a_isStruck)), (h_lSampled, .inl (cI, 300, .inl a_lSampled)), (h_lWeight, .inl (cI, 60, .inl a_lWeight)), (h_gets, .inl (cI, 5, .inl a_gets)), (h_rests, .inl (cJ, 5, .inr (.inl a_rests)))] H → va_D A [(h_t, .inr (7, [.ref h_tape, .ref h_text, .int v_taped, .int v_size, .int v_faultKind, .int v_faultPlace, .int v_at, .int v_end, .int v_token, .int v_number, .long v_name, .ref h_uName, .ref h_outName, .ref h_setName, .ref h_unitMany, .ref h_yesTo, .ref h_noTo, .ref h_settingMany, .ref h_shares, .ref h_gradeMany, .ref h_gKind, .ref h_gPurity, .ref h_gPrice, .ref h_outPlace, .ref h_setPlace, .ref h_setShare, .ref h_chosen, .int v_bank, .int v_rb, .int v_sets, .int v_missing, .ref h_rows, .ref h_parts, .long v_whole, .ref h_lTown, .ref h_lWeight, .ref h_lSampled, .ref h_hand, .ref h_isStruck, .int v_lorries, .int v_cost, .ref h_all, .ref h_bestChosen, .ref h_gets, .ref h_rests])), (h_lTown, .inl (cI, 60, .inl a_lTown)), (h_isStruck, .inl (cZ, 60, .inl a_isStruck)), (h_lSampled, .inl (cI, 300, .inl a_lSampled)), (h_lWeight, .inl (cI, 60, .inl a_lWeight)), (h_gets, .inl (cI, 5, .inl a_gets)), (h_rests, .inl (cJ, 5, .inr (.inl a_rests)))] → va_S A s.heap H locs → lv_has ls 10 [(0, .ref h_t), (1, .int x1), (6, .int x6)] → W p l e rmX7_share s m ([.ref h_t, .int z1, .int z2, .int z3] : List Value).toArray below meth c H locs 0 0 Q (F0 m 112 ls [])) (k123 : (Nat → Int32) → (Nat → Int64) → Int32 → Int32 → Int32 → Int32 → Option (Int32 × (Nat → Int32) × (Nat → Int64))) (ih123 : ∀ (a_gets : Nat → Int32) (a_rests : Nat → Int64) (x1 : Int32) (x6 : Int32) (x7 : Int32) (x8 : Int32) (H : Heap) (locs : List Loc) (ls : Array Slot), k123 a_gets a_rests x1 x6 x7 x8 = O → va_P D classes [(h_t, .inr (7, [.ref h_tape, .ref h_text, .int v_taped, .int v_size, .int v_faultKind, .int v_faultPlace, .int v_at, .int v_end, .int v_token, .int v_number, .long v_name, .ref h_uName, .ref h_outName, .ref h_setName, .ref h_unitMany, .ref h_yesTo, .ref h_noTo, .ref h_settingMany, .ref h_shares, .ref h_gradeMany, .ref h_gKind, .ref h_gPurity, .ref h_gPrice, .ref h_outPlace, .ref h_setPlace, .ref h_setShare, .ref h_chosen, .int v_bank, .int v_rb, .int v_sets, .int v_missing, .ref h_rows, .ref h_parts, .long v_whole, .ref h_lTown, .ref h_lWeight, .ref h_lSampled, .ref h_hand, .ref h_isStruck, .int v_lorries, .int v_cost, .ref h_all, .ref h_bestChosen, .ref h_gets, .ref h_rests])), (h_lTown, .inl (cI, 60, .inl a_lTown)), (h_isStruck, .inl (cZ, 60, .inl a_isStruck)), (h_lSampled, .inl (cI, 300, .inl a_lSampled)), (h_lWeight, .inl (cI, 60, .inl a_lWeight)), (h_gets, .inl (cI, 5, .inl a_gets)), (h_rests, .inl (cJ, 5, .inr (.inl a_rests)))] H → va_D A [(h_t, .inr (7, [.ref h_tape, .ref h_text, .int v_taped, .int v_size, .int v_faultKind, .int v_faultPlace, .int v_at, .int v_end, .int v_token, .int v_number, .long v_name, .ref h_uName, .ref h_outName, .ref h_setName, .ref h_unitMany, .ref h_yesTo, .ref h_noTo, .ref h_settingMany, .ref h_shares, .ref h_gradeMany, .ref h_gKind, .ref h_gPurity, .ref h_gPrice, .ref h_outPlace, .ref h_setPlace, .ref h_setShare, .ref h_chosen, .int v_bank, .int v_rb, .int v_sets, .int v_missing, .ref h_rows, .ref h_parts, .long v_whole, .ref h_lTown, .ref h_lWeight, .ref h_lSampled, .ref h_hand, .ref h_isStruck, .int v_lorries, .int v_cost, .ref h_all, .ref h_bestChosen, .ref h_gets, .ref h_rests])), (h_lTown, .inl (cI, 60, .inl a_lTown)), (h_isStruck, .inl (cZ, 60, .inl a_isStruck)), (h_lSampled, .inl (cI, 300, .inl a_lSampled)), (h_lWeight, .inl (cI, 60, .inl a_lWeight)), (h_gets, .inl (cI, 5, .inl a_gets)), (h_rests, .inl (cJ, 5, .inr (.inl a_rests)))] → va_S A s.heap H locs → lv_has ls 10 [(0, .ref h_t), (1, .int x1), (6, .int x6), (7, .int x7), (8, .int x8)] → W p l e rmX7_share s m ([.ref h_t, .int z1, .int z2, .int z3] : List Value).toArray below meth c H locs 0 0 Q (F0 m 123 ls [])), ∀ (a_gets : Nat → Int32) (a_rests : Nat → Int64) (x1 : Int32) (x6 : Int32) (x7 : Int32) (x8 : Int32) (H : Heap) (locs : List Loc) (ls : Array Slot), FX7_share_151 n v_lorries a_lTown a_isStruck a_lSampled a_lWeight z1 z2 z3 k112 k123 a_gets a_rests x1 x6 x7 x8 = O → va_P D classes [(h_t, .inr (7, [.ref h_tape, .ref h_text, .int v_taped, .int v_size, .int v_faultKind, .int v_faultPlace, .int v_at, .int v_end, .int v_token, .int v_number, .long v_name, .ref h_uName, .ref h_outName, .ref h_setName, .ref h_unitMany, .ref h_yesTo, .ref h_noTo, .ref h_settingMany, .ref h_shares, .ref h_gradeMany, .ref h_gKind, .ref h_gPurity, .ref h_gPrice, .ref h_outPlace, .ref h_setPlace, .ref h_setShare, .ref h_chosen, .int v_bank, .int v_rb, .int v_sets, .int v_missing, .ref h_rows, .ref h_parts, .long v_whole, .ref h_lTown, .ref h_lWeight, .ref h_lSampled, .ref h_hand, .ref h_isStruck, .int v_lorries, .int v_cost, .ref h_all, .ref h_bestChosen, .ref h_gets, .ref h_rests])), (h_lTown, .inl (cI, 60, .inl a_lTown)), (h_isStruck, .inl (cZ, 60, .inl a_isStruck)), (h_lSampled, .inl (cI, 300, .inl a_lSampled)), (h_lWeight, .inl (cI, 60, .inl a_lWeight)), (h_gets, .inl (cI, 5, .inl a_gets)), (h_rests, .inl (cJ, 5, .inr (.inl a_rests)))] H → va_D A [(h_t, .inr (7, [.ref h_tape, .ref h_text, .int v_taped, .int v_size, .int v_faultKind, .int v_faultPlace, .int v_at, .int v_end, .int v_token, .int v_number, .long v_name, .ref h_uName, .ref h_outName, .ref h_setName, .ref h_unitMany, .ref h_yesTo, .ref h_noTo, .ref h_settingMany, .ref h_shares, .ref h_gradeMany, .ref h_gKind, .ref h_gPurity, .ref h_gPrice, .ref h_outPlace, .ref h_setPlace, .ref h_setShare, .ref h_chosen, .int v_bank, .int v_rb, .int v_sets, .int v_missing, .ref h_rows, .ref h_parts, .long v_whole, .ref h_lTown, .ref h_lWeight, .ref h_lSampled, .ref h_hand, .ref h_isStruck, .int v_lorries, .int v_cost, .ref h_all, .ref h_bestChosen, .ref h_gets, .ref h_rests])), (h_lTown, .inl (cI, 60, .inl a_lTown)), (h_isStruck, .inl (cZ, 60, .inl a_isStruck)), (h_lSampled, .inl (cI, 300, .inl a_lSampled)), (h_lWeight, .inl (cI, 60, .inl a_lWeight)), (h_gets, .inl (cI, 5, .inl a_gets)), (h_rests, .inl (cJ, 5, .inr (.inl a_rests)))] → va_S A s.heap H locs → lv_has ls 10 [(0, .ref h_t), (1, .int x1), (6, .int x6), (7, .int x7), (8, .int x8)] → W p l e rmX7_share s m ([.ref h_t, .int z1, .int z2, .int z3] : List Value).toArray below meth c H locs 0 0 Q (F0 m 151 ls []) := by
    intro k112 ih112 k123 ih123 a_gets a_rests x1 x6 x7 x8 H locs ls hF hP hD hS hl
    unfold FX7_share_151 at hF
    obtain ⟨x_41, ex_41⟩ : ∃ y : Int32, y = x8 + (1 : Int32) := ⟨_, rfl⟩
    replace hF := ltP ex_41 hF
    refine lv_iinc (v := x_41) (lv' := [(8, .int x_41), (0, .ref h_t), (1, .int x1), (6, .int x6), (7, .int x7)]) hx hb dX7_share_151 hl (k := 4) rfl (by rw [ex_41]; rfl) (by decide) rfl (fun ls hl => ?_)
    refine lv_goto (tgt := 123) hx hb dX7_share_154 (by decide) ?_
    exact ih123 a_gets a_rests x1 x6 x7 x_41 H locs ls hF hP hD hS (lv_sub hl [1, 2, 3, 4, 0] rfl)
  have L123 : ∀ (k112 : (Nat → Int32) → (Nat → Int64) → Int32 → Int32 → Option (Int32 × (Nat → Int32) × (Nat → Int64))) (ih112 : ∀ (a_gets : Nat → Int32) (a_rests : Nat → Int64) (x1 : Int32) (x6 : Int32) (H : Heap) (locs : List Loc) (ls : Array Slot), k112 a_gets a_rests x1 x6 = O → va_P D classes [(h_t, .inr (7, [.ref h_tape, .ref h_text, .int v_taped, .int v_size, .int v_faultKind, .int v_faultPlace, .int v_at, .int v_end, .int v_token, .int v_number, .long v_name, .ref h_uName, .ref h_outName, .ref h_setName, .ref h_unitMany, .ref h_yesTo, .ref h_noTo, .ref h_settingMany, .ref h_shares, .ref h_gradeMany, .ref h_gKind, .ref h_gPurity, .ref h_gPrice, .ref h_outPlace, .ref h_setPlace, .ref h_setShare, .ref h_chosen, .int v_bank, .int v_rb, .int v_sets, .int v_missing, .ref h_rows, .ref h_parts, .long v_whole, .ref h_lTown, .ref h_lWeight, .ref h_lSampled, .ref h_hand, .ref h_isStruck, .int v_lorries, .int v_cost, .ref h_all, .ref h_bestChosen, .ref h_gets, .ref h_rests])), (h_lTown, .inl (cI, 60, .inl a_lTown)), (h_isStruck, .inl (cZ, 60, .inl a_isStruck)), (h_lSampled, .inl (cI, 300, .inl a_lSampled)), (h_lWeight, .inl (cI, 60, .inl a_lWeight)), (h_gets, .inl (cI, 5, .inl a_gets)), (h_rests, .inl (cJ, 5, .inr (.inl a_rests)))] H → va_D A [(h_t, .inr (7, [.ref h_tape, .ref h_text, .int v_taped, .int v_size, .int v_faultKind, .int v_faultPlace, .int v_at, .int v_end, .int v_token, .int v_number, .long v_name, .ref h_uName, .ref h_outName, .ref h_setName, .ref h_unitMany, .ref h_yesTo, .ref h_noTo, .ref h_settingMany, .ref h_shares, .ref h_gradeMany, .ref h_gKind, .ref h_gPurity, .ref h_gPrice, .ref h_outPlace, .ref h_setPlace, .ref h_setShare, .ref h_chosen, .int v_bank, .int v_rb, .int v_sets, .int v_missing, .ref h_rows, .ref h_parts, .long v_whole, .ref h_lTown, .ref h_lWeight, .ref h_lSampled, .ref h_hand, .ref h_isStruck, .int v_lorries, .int v_cost, .ref h_all, .ref h_bestChosen, .ref h_gets, .ref h_rests])), (h_lTown, .inl (cI, 60, .inl a_lTown)), (h_isStruck, .inl (cZ, 60, .inl a_isStruck)), (h_lSampled, .inl (cI, 300, .inl a_lSampled)), (h_lWeight, .inl (cI, 60, .inl a_lWeight)), (h_gets, .inl (cI, 5, .inl a_gets)), (h_rests, .inl (cJ, 5, .inr (.inl a_rests)))] → va_S A s.heap H locs → lv_has ls 10 [(0, .ref h_t), (1, .int x1), (6, .int x6)] → W p l e rmX7_share s m ([.ref h_t, .int z1, .int z2, .int z3] : List Value).toArray below meth c H locs 0 0 Q (F0 m 112 ls [])) (k123 : (Nat → Int32) → (Nat → Int64) → Int32 → Int32 → Int32 → Int32 → Option (Int32 × (Nat → Int32) × (Nat → Int64))) (ih123 : ∀ (a_gets : Nat → Int32) (a_rests : Nat → Int64) (x1 : Int32) (x6 : Int32) (x7 : Int32) (x8 : Int32) (H : Heap) (locs : List Loc) (ls : Array Slot), k123 a_gets a_rests x1 x6 x7 x8 = O → va_P D classes [(h_t, .inr (7, [.ref h_tape, .ref h_text, .int v_taped, .int v_size, .int v_faultKind, .int v_faultPlace, .int v_at, .int v_end, .int v_token, .int v_number, .long v_name, .ref h_uName, .ref h_outName, .ref h_setName, .ref h_unitMany, .ref h_yesTo, .ref h_noTo, .ref h_settingMany, .ref h_shares, .ref h_gradeMany, .ref h_gKind, .ref h_gPurity, .ref h_gPrice, .ref h_outPlace, .ref h_setPlace, .ref h_setShare, .ref h_chosen, .int v_bank, .int v_rb, .int v_sets, .int v_missing, .ref h_rows, .ref h_parts, .long v_whole, .ref h_lTown, .ref h_lWeight, .ref h_lSampled, .ref h_hand, .ref h_isStruck, .int v_lorries, .int v_cost, .ref h_all, .ref h_bestChosen, .ref h_gets, .ref h_rests])), (h_lTown, .inl (cI, 60, .inl a_lTown)), (h_isStruck, .inl (cZ, 60, .inl a_isStruck)), (h_lSampled, .inl (cI, 300, .inl a_lSampled)), (h_lWeight, .inl (cI, 60, .inl a_lWeight)), (h_gets, .inl (cI, 5, .inl a_gets)), (h_rests, .inl (cJ, 5, .inr (.inl a_rests)))] H → va_D A [(h_t, .inr (7, [.ref h_tape, .ref h_text, .int v_taped, .int v_size, .int v_faultKind, .int v_faultPlace, .int v_at, .int v_end, .int v_token, .int v_number, .long v_name, .ref h_uName, .ref h_outName, .ref h_setName, .ref h_unitMany, .ref h_yesTo, .ref h_noTo, .ref h_settingMany, .ref h_shares, .ref h_gradeMany, .ref h_gKind, .ref h_gPurity, .ref h_gPrice, .ref h_outPlace, .ref h_setPlace, .ref h_setShare, .ref h_chosen, .int v_bank, .int v_rb, .int v_sets, .int v_missing, .ref h_rows, .ref h_parts, .long v_whole, .ref h_lTown, .ref h_lWeight, .ref h_lSampled, .ref h_hand, .ref h_isStruck, .int v_lorries, .int v_cost, .ref h_all, .ref h_bestChosen, .ref h_gets, .ref h_rests])), (h_lTown, .inl (cI, 60, .inl a_lTown)), (h_isStruck, .inl (cZ, 60, .inl a_isStruck)), (h_lSampled, .inl (cI, 300, .inl a_lSampled)), (h_lWeight, .inl (cI, 60, .inl a_lWeight)), (h_gets, .inl (cI, 5, .inl a_gets)), (h_rests, .inl (cJ, 5, .inr (.inl a_rests)))] → va_S A s.heap H locs → lv_has ls 10 [(0, .ref h_t), (1, .int x1), (6, .int x6), (7, .int x7), (8, .int x8)] → W p l e rmX7_share s m ([.ref h_t, .int z1, .int z2, .int z3] : List Value).toArray below meth c H locs 0 0 Q (F0 m 123 ls [])), ∀ (a_gets : Nat → Int32) (a_rests : Nat → Int64) (x1 : Int32) (x6 : Int32) (x7 : Int32) (x8 : Int32) (H : Heap) (locs : List Loc) (ls : Array Slot), FX7_share_123 n v_lorries a_lTown a_isStruck a_lSampled a_lWeight z1 z2 z3 k112 k123 a_gets a_rests x1 x6 x7 x8 = O → va_P D classes [(h_t, .inr (7, [.ref h_tape, .ref h_text, .int v_taped, .int v_size, .int v_faultKind, .int v_faultPlace, .int v_at, .int v_end, .int v_token, .int v_number, .long v_name, .ref h_uName, .ref h_outName, .ref h_setName, .ref h_unitMany, .ref h_yesTo, .ref h_noTo, .ref h_settingMany, .ref h_shares, .ref h_gradeMany, .ref h_gKind, .ref h_gPurity, .ref h_gPrice, .ref h_outPlace, .ref h_setPlace, .ref h_setShare, .ref h_chosen, .int v_bank, .int v_rb, .int v_sets, .int v_missing, .ref h_rows, .ref h_parts, .long v_whole, .ref h_lTown, .ref h_lWeight, .ref h_lSampled, .ref h_hand, .ref h_isStruck, .int v_lorries, .int v_cost, .ref h_all, .ref h_bestChosen, .ref h_gets, .ref h_rests])), (h_lTown, .inl (cI, 60, .inl a_lTown)), (h_isStruck, .inl (cZ, 60, .inl a_isStruck)), (h_lSampled, .inl (cI, 300, .inl a_lSampled)), (h_lWeight, .inl (cI, 60, .inl a_lWeight)), (h_gets, .inl (cI, 5, .inl a_gets)), (h_rests, .inl (cJ, 5, .inr (.inl a_rests)))] H → va_D A [(h_t, .inr (7, [.ref h_tape, .ref h_text, .int v_taped, .int v_size, .int v_faultKind, .int v_faultPlace, .int v_at, .int v_end, .int v_token, .int v_number, .long v_name, .ref h_uName, .ref h_outName, .ref h_setName, .ref h_unitMany, .ref h_yesTo, .ref h_noTo, .ref h_settingMany, .ref h_shares, .ref h_gradeMany, .ref h_gKind, .ref h_gPurity, .ref h_gPrice, .ref h_outPlace, .ref h_setPlace, .ref h_setShare, .ref h_chosen, .int v_bank, .int v_rb, .int v_sets, .int v_missing, .ref h_rows, .ref h_parts, .long v_whole, .ref h_lTown, .ref h_lWeight, .ref h_lSampled, .ref h_hand, .ref h_isStruck, .int v_lorries, .int v_cost, .ref h_all, .ref h_bestChosen, .ref h_gets, .ref h_rests])), (h_lTown, .inl (cI, 60, .inl a_lTown)), (h_isStruck, .inl (cZ, 60, .inl a_isStruck)), (h_lSampled, .inl (cI, 300, .inl a_lSampled)), (h_lWeight, .inl (cI, 60, .inl a_lWeight)), (h_gets, .inl (cI, 5, .inl a_gets)), (h_rests, .inl (cJ, 5, .inr (.inl a_rests)))] → va_S A s.heap H locs → lv_has ls 10 [(0, .ref h_t), (1, .int x1), (6, .int x6), (7, .int x7), (8, .int x8)] → W p l e rmX7_share s m ([.ref h_t, .int z1, .int z2, .int z3] : List Value).toArray below meth c H locs 0 0 Q (F0 m 123 ls []) := by
    intro k112 ih112 k123 ih123 a_gets a_rests x1 x6 x7 x8 H locs ls hF hP hD hS hl
    unfold FX7_share_123 at hF
    refine lv_iload hx hb dX7_share_123 (lv_at hl 4 rfl) ?_
    refine lv_iconst (v := 5) hx hb dX7_share_125 (by decide) ?_
    refine lv_icmp_ge (tgt := 157) hx hb dX7_share_126 (by decide) (fun c_30 => ?_) (fun c_30 => ?_)
    · replace hF := ifT c_30 hF
      refine lv_aload_n hx hb dX7_share_157 rfl (lv_at hl 0 rfl) ?_
      refine va_get (D := D) (ci := 7) (C := RX7) (T := TX7) (N := 45) hx hb ha inAX7 hown hK hP 0 rfl rfl 43 (by decide) (ha _ w_4_77) (fun _ h9 => h9) rfl dX7_share_158 ?_
      refine lv_iload hx hb dX7_share_161 (lv_at hl 3 rfl) ?_
      refine lv_dup2_11 hx hb dX7_share_163 rfl rfl ?_
      replace hF := ckP hN hF
      obtain ⟨c_31, hF⟩ := hF
      refine ld_i hx hb hK hP 5 rfl c_31 dX7_share_164 ?_
      refine lv_iconst (v := 1) hx hb dX7_share_165 (by decide) ?_
      refine lv_iadd hx hb dX7_share_166 ?_
      refine lv_topi (fun x_32 ex_32 => ?_)
      replace hF := ltP ex_32 hF
      replace hF := ckP hN hF
      obtain ⟨c_33, hF⟩ := hF
      obtain ⟨f_34, ef_34⟩ : ∃ g : Nat → Int32, g = upd a_gets (x7).toNatClampNeg x_32 := ⟨_, rfl⟩
      replace hF := ltP ef_34 hF
      refine st_i (g := f_34) (W2 := [(h_t, .inr (7, [.ref h_tape, .ref h_text, .int v_taped, .int v_size, .int v_faultKind, .int v_faultPlace, .int v_at, .int v_end, .int v_token, .int v_number, .long v_name, .ref h_uName, .ref h_outName, .ref h_setName, .ref h_unitMany, .ref h_yesTo, .ref h_noTo, .ref h_settingMany, .ref h_shares, .ref h_gradeMany, .ref h_gKind, .ref h_gPurity, .ref h_gPrice, .ref h_outPlace, .ref h_setPlace, .ref h_setShare, .ref h_chosen, .int v_bank, .int v_rb, .int v_sets, .int v_missing, .ref h_rows, .ref h_parts, .long v_whole, .ref h_lTown, .ref h_lWeight, .ref h_lSampled, .ref h_hand, .ref h_isStruck, .int v_lorries, .int v_cost, .ref h_all, .ref h_bestChosen, .ref h_gets, .ref h_rests])), (h_lTown, .inl (cI, 60, .inl a_lTown)), (h_isStruck, .inl (cZ, 60, .inl a_isStruck)), (h_lSampled, .inl (cI, 300, .inl a_lSampled)), (h_lWeight, .inl (cI, 60, .inl a_lWeight)), (h_gets, .inl (cI, 5, .inl f_34)), (h_rests, .inl (cJ, 5, .inr (.inl a_rests)))]) hx hb hK hP hD hS 5 rfl c_33 ef_34 dX7_share_167 rfl (fun H locs hP hD hS => ?_)
      refine lv_aload_n hx hb dX7_share_168 rfl (lv_at hl 0 rfl) ?_
      refine va_get (D := D) (ci := 7) (C := RX7) (T := TX7) (N := 45) hx hb ha inAX7 hown hK hP 0 rfl rfl 44 (by decide) (ha _ w_4_78) (fun _ h9 => h9) rfl dX7_share_169 ?_
      refine lv_iload hx hb dX7_share_172 (lv_at hl 3 rfl) ?_
      refine lv_ldc2 hx hb hown (ha _ w_4_11) dX7_share_174 ?_
      replace hF := ckP hN hF
      obtain ⟨c_35, hF⟩ := hF
      obtain ⟨f_36, ef_36⟩ : ∃ g : Nat → Int64, g = vp_updL a_rests (x7).toNatClampNeg (-1 : Int64) := ⟨_, rfl⟩
      replace hF := ltP ef_36 hF
      refine st_l (g := f_36) (W2 := [(h_t, .inr (7, [.ref h_tape, .ref h_text, .int v_taped, .int v_size, .int v_faultKind, .int v_faultPlace, .int v_at, .int v_end, .int v_token, .int v_number, .long v_name, .ref h_uName, .ref h_outName, .ref h_setName, .ref h_unitMany, .ref h_yesTo, .ref h_noTo, .ref h_settingMany, .ref h_shares, .ref h_gradeMany, .ref h_gKind, .ref h_gPurity, .ref h_gPrice, .ref h_outPlace, .ref h_setPlace, .ref h_setShare, .ref h_chosen, .int v_bank, .int v_rb, .int v_sets, .int v_missing, .ref h_rows, .ref h_parts, .long v_whole, .ref h_lTown, .ref h_lWeight, .ref h_lSampled, .ref h_hand, .ref h_isStruck, .int v_lorries, .int v_cost, .ref h_all, .ref h_bestChosen, .ref h_gets, .ref h_rests])), (h_lTown, .inl (cI, 60, .inl a_lTown)), (h_isStruck, .inl (cZ, 60, .inl a_isStruck)), (h_lSampled, .inl (cI, 300, .inl a_lSampled)), (h_lWeight, .inl (cI, 60, .inl a_lWeight)), (h_gets, .inl (cI, 5, .inl f_34)), (h_rests, .inl (cJ, 5, .inr (.inl f_36)))]) hx hb hK hP hD hS 6 rfl c_35 ef_36 dX7_share_177 rfl (fun H locs hP hD hS => ?_)
      obtain ⟨x_37, ex_37⟩ : ∃ y : Int32, y = x6 + (-1 : Int32) := ⟨_, rfl⟩
      replace hF := ltP ex_37 hF
      refine lv_iinc (v := x_37) (lv' := [(6, .int x_37), (0, .ref h_t), (1, .int x1), (7, .int x7), (8, .int x8)]) hx hb dX7_share_178 hl (k := 2) rfl (by rw [ex_37]; rfl) (by decide) rfl (fun ls hl => ?_)
      refine lv_goto (tgt := 112) hx hb dX7_share_181 (by decide) ?_
      exact ih112 f_34 f_36 x1 x_37 H locs ls hF hP hD hS (lv_sub hl [1, 2, 0] rfl)
    · replace hF := ifF c_30 hF
      refine lv_aload_n hx hb dX7_share_129 rfl (lv_at hl 0 rfl) ?_
      refine va_get (D := D) (ci := 7) (C := RX7) (T := TX7) (N := 45) hx hb ha inAX7 hown hK hP 0 rfl rfl 44 (by decide) (ha _ w_4_78) (fun _ h9 => h9) rfl dX7_share_130 ?_
      refine lv_iload hx hb dX7_share_133 (lv_at hl 4 rfl) ?_
      replace hF := ckP hN hF
      obtain ⟨c_38, hF⟩ := hF
      refine ld_l hx hb hK hP 6 rfl c_38 dX7_share_135 ?_
      refine lv_aload_n hx hb dX7_share_136 rfl (lv_at hl 0 rfl) ?_
      refine va_get (D := D) (ci := 7) (C := RX7) (T := TX7) (N := 45) hx hb ha inAX7 hown hK hP 0 rfl rfl 44 (by decide) (ha _ w_4_78) (fun _ h9 => h9) rfl dX7_share_137 ?_
      refine lv_iload hx hb dX7_share_140 (lv_at hl 3 rfl) ?_
      replace hF := ckP hN hF
      obtain ⟨c_39, hF⟩ := hF
      refine ld_l hx hb hK hP 6 rfl c_39 dX7_share_142 ?_
      refine W.lcmp hx hb dX7_share_143 ?_
      refine lv_if_le (tgt := 151) hx hb dX7_share_144 (by decide) (fun c_40 => ?_) (fun c_40 => ?_)
      · replace hF := ifT c_40 hF
        exact L151 k112 ih112 k123 ih123 a_gets a_rests x1 x6 x7 x8 H locs ls hF hP hD hS (lv_sub hl [0, 1, 2, 3, 4] rfl)
      · replace hF := ifF c_40 hF
        refine lv_iload hx hb dX7_share_147 (lv_at hl 4 rfl) ?_
        refine lv_istore (lv' := [(7, .int x8), (0, .ref h_t), (1, .int x1), (6, .int x6), (8, .int x8)]) hx hb dX7_share_149 hl (by decide) rfl (fun ls hl => ?_)
        exact L151 k112 ih112 k123 ih123 a_gets a_rests x1 x6 x8 x8 H locs ls hF hP hD hS (lv_sub hl [1, 2, 3, 0, 4] rfl)
  have Lc123 : ∀ (k112 : (Nat → Int32) → (Nat → Int64) → Int32 → Int32 → Option (Int32 × (Nat → Int32) × (Nat → Int64))) (ih112 : ∀ (a_gets : Nat → Int32) (a_rests : Nat → Int64) (x1 : Int32) (x6 : Int32) (H : Heap) (locs : List Loc) (ls : Array Slot), k112 a_gets a_rests x1 x6 = O → va_P D classes [(h_t, .inr (7, [.ref h_tape, .ref h_text, .int v_taped, .int v_size, .int v_faultKind, .int v_faultPlace, .int v_at, .int v_end, .int v_token, .int v_number, .long v_name, .ref h_uName, .ref h_outName, .ref h_setName, .ref h_unitMany, .ref h_yesTo, .ref h_noTo, .ref h_settingMany, .ref h_shares, .ref h_gradeMany, .ref h_gKind, .ref h_gPurity, .ref h_gPrice, .ref h_outPlace, .ref h_setPlace, .ref h_setShare, .ref h_chosen, .int v_bank, .int v_rb, .int v_sets, .int v_missing, .ref h_rows, .ref h_parts, .long v_whole, .ref h_lTown, .ref h_lWeight, .ref h_lSampled, .ref h_hand, .ref h_isStruck, .int v_lorries, .int v_cost, .ref h_all, .ref h_bestChosen, .ref h_gets, .ref h_rests])), (h_lTown, .inl (cI, 60, .inl a_lTown)), (h_isStruck, .inl (cZ, 60, .inl a_isStruck)), (h_lSampled, .inl (cI, 300, .inl a_lSampled)), (h_lWeight, .inl (cI, 60, .inl a_lWeight)), (h_gets, .inl (cI, 5, .inl a_gets)), (h_rests, .inl (cJ, 5, .inr (.inl a_rests)))] H → va_D A [(h_t, .inr (7, [.ref h_tape, .ref h_text, .int v_taped, .int v_size, .int v_faultKind, .int v_faultPlace, .int v_at, .int v_end, .int v_token, .int v_number, .long v_name, .ref h_uName, .ref h_outName, .ref h_setName, .ref h_unitMany, .ref h_yesTo, .ref h_noTo, .ref h_settingMany, .ref h_shares, .ref h_gradeMany, .ref h_gKind, .ref h_gPurity, .ref h_gPrice, .ref h_outPlace, .ref h_setPlace, .ref h_setShare, .ref h_chosen, .int v_bank, .int v_rb, .int v_sets, .int v_missing, .ref h_rows, .ref h_parts, .long v_whole, .ref h_lTown, .ref h_lWeight, .ref h_lSampled, .ref h_hand, .ref h_isStruck, .int v_lorries, .int v_cost, .ref h_all, .ref h_bestChosen, .ref h_gets, .ref h_rests])), (h_lTown, .inl (cI, 60, .inl a_lTown)), (h_isStruck, .inl (cZ, 60, .inl a_isStruck)), (h_lSampled, .inl (cI, 300, .inl a_lSampled)), (h_lWeight, .inl (cI, 60, .inl a_lWeight)), (h_gets, .inl (cI, 5, .inl a_gets)), (h_rests, .inl (cJ, 5, .inr (.inl a_rests)))] → va_S A s.heap H locs → lv_has ls 10 [(0, .ref h_t), (1, .int x1), (6, .int x6)] → W p l e rmX7_share s m ([.ref h_t, .int z1, .int z2, .int z3] : List Value).toArray below meth c H locs 0 0 Q (F0 m 112 ls [])) (j : Nat), ∀ (a_gets : Nat → Int32) (a_rests : Nat → Int64) (x1 : Int32) (x6 : Int32) (x7 : Int32) (x8 : Int32) (H : Heap) (locs : List Loc) (ls : Array Slot), FX7_share_123L n v_lorries a_lTown a_isStruck a_lSampled a_lWeight z1 z2 z3 k112 j a_gets a_rests x1 x6 x7 x8 = O → va_P D classes [(h_t, .inr (7, [.ref h_tape, .ref h_text, .int v_taped, .int v_size, .int v_faultKind, .int v_faultPlace, .int v_at, .int v_end, .int v_token, .int v_number, .long v_name, .ref h_uName, .ref h_outName, .ref h_setName, .ref h_unitMany, .ref h_yesTo, .ref h_noTo, .ref h_settingMany, .ref h_shares, .ref h_gradeMany, .ref h_gKind, .ref h_gPurity, .ref h_gPrice, .ref h_outPlace, .ref h_setPlace, .ref h_setShare, .ref h_chosen, .int v_bank, .int v_rb, .int v_sets, .int v_missing, .ref h_rows, .ref h_parts, .long v_whole, .ref h_lTown, .ref h_lWeight, .ref h_lSampled, .ref h_hand, .ref h_isStruck, .int v_lorries, .int v_cost, .ref h_all, .ref h_bestChosen, .ref h_gets, .ref h_rests])), (h_lTown, .inl (cI, 60, .inl a_lTown)), (h_isStruck, .inl (cZ, 60, .inl a_isStruck)), (h_lSampled, .inl (cI, 300, .inl a_lSampled)), (h_lWeight, .inl (cI, 60, .inl a_lWeight)), (h_gets, .inl (cI, 5, .inl a_gets)), (h_rests, .inl (cJ, 5, .inr (.inl a_rests)))] H → va_D A [(h_t, .inr (7, [.ref h_tape, .ref h_text, .int v_taped, .int v_size, .int v_faultKind, .int v_faultPlace, .int v_at, .int v_end, .int v_token, .int v_number, .long v_name, .ref h_uName, .ref h_outName, .ref h_setName, .ref h_unitMany, .ref h_yesTo, .ref h_noTo, .ref h_settingMany, .ref h_shares, .ref h_gradeMany, .ref h_gKind, .ref h_gPurity, .ref h_gPrice, .ref h_outPlace, .ref h_setPlace, .ref h_setShare, .ref h_chosen, .int v_bank, .int v_rb, .int v_sets, .int v_missing, .ref h_rows, .ref h_parts, .long v_whole, .ref h_lTown, .ref h_lWeight, .ref h_lSampled, .ref h_hand, .ref h_isStruck, .int v_lorries, .int v_cost, .ref h_all, .ref h_bestChosen, .ref h_gets, .ref h_rests])), (h_lTown, .inl (cI, 60, .inl a_lTown)), (h_isStruck, .inl (cZ, 60, .inl a_isStruck)), (h_lSampled, .inl (cI, 300, .inl a_lSampled)), (h_lWeight, .inl (cI, 60, .inl a_lWeight)), (h_gets, .inl (cI, 5, .inl a_gets)), (h_rests, .inl (cJ, 5, .inr (.inl a_rests)))] → va_S A s.heap H locs → lv_has ls 10 [(0, .ref h_t), (1, .int x1), (6, .int x6), (7, .int x7), (8, .int x8)] → W p l e rmX7_share s m ([.ref h_t, .int z1, .int z2, .int z3] : List Value).toArray below meth c H locs 0 0 Q (F0 m 123 ls []) := by
    intro k112 ih112 j
    induction j with
    | zero => intro _ _ _ _ _ _ H locs ls hF; exact absurd hF.symm hN
    | succ j ih => exact L123 k112 ih112 (FX7_share_123L n v_lorries a_lTown a_isStruck a_lSampled a_lWeight z1 z2 z3 k112 j) ih
  have L112 : ∀ (k112 : (Nat → Int32) → (Nat → Int64) → Int32 → Int32 → Option (Int32 × (Nat → Int32) × (Nat → Int64))) (ih112 : ∀ (a_gets : Nat → Int32) (a_rests : Nat → Int64) (x1 : Int32) (x6 : Int32) (H : Heap) (locs : List Loc) (ls : Array Slot), k112 a_gets a_rests x1 x6 = O → va_P D classes [(h_t, .inr (7, [.ref h_tape, .ref h_text, .int v_taped, .int v_size, .int v_faultKind, .int v_faultPlace, .int v_at, .int v_end, .int v_token, .int v_number, .long v_name, .ref h_uName, .ref h_outName, .ref h_setName, .ref h_unitMany, .ref h_yesTo, .ref h_noTo, .ref h_settingMany, .ref h_shares, .ref h_gradeMany, .ref h_gKind, .ref h_gPurity, .ref h_gPrice, .ref h_outPlace, .ref h_setPlace, .ref h_setShare, .ref h_chosen, .int v_bank, .int v_rb, .int v_sets, .int v_missing, .ref h_rows, .ref h_parts, .long v_whole, .ref h_lTown, .ref h_lWeight, .ref h_lSampled, .ref h_hand, .ref h_isStruck, .int v_lorries, .int v_cost, .ref h_all, .ref h_bestChosen, .ref h_gets, .ref h_rests])), (h_lTown, .inl (cI, 60, .inl a_lTown)), (h_isStruck, .inl (cZ, 60, .inl a_isStruck)), (h_lSampled, .inl (cI, 300, .inl a_lSampled)), (h_lWeight, .inl (cI, 60, .inl a_lWeight)), (h_gets, .inl (cI, 5, .inl a_gets)), (h_rests, .inl (cJ, 5, .inr (.inl a_rests)))] H → va_D A [(h_t, .inr (7, [.ref h_tape, .ref h_text, .int v_taped, .int v_size, .int v_faultKind, .int v_faultPlace, .int v_at, .int v_end, .int v_token, .int v_number, .long v_name, .ref h_uName, .ref h_outName, .ref h_setName, .ref h_unitMany, .ref h_yesTo, .ref h_noTo, .ref h_settingMany, .ref h_shares, .ref h_gradeMany, .ref h_gKind, .ref h_gPurity, .ref h_gPrice, .ref h_outPlace, .ref h_setPlace, .ref h_setShare, .ref h_chosen, .int v_bank, .int v_rb, .int v_sets, .int v_missing, .ref h_rows, .ref h_parts, .long v_whole, .ref h_lTown, .ref h_lWeight, .ref h_lSampled, .ref h_hand, .ref h_isStruck, .int v_lorries, .int v_cost, .ref h_all, .ref h_bestChosen, .ref h_gets, .ref h_rests])), (h_lTown, .inl (cI, 60, .inl a_lTown)), (h_isStruck, .inl (cZ, 60, .inl a_isStruck)), (h_lSampled, .inl (cI, 300, .inl a_lSampled)), (h_lWeight, .inl (cI, 60, .inl a_lWeight)), (h_gets, .inl (cI, 5, .inl a_gets)), (h_rests, .inl (cJ, 5, .inr (.inl a_rests)))] → va_S A s.heap H locs → lv_has ls 10 [(0, .ref h_t), (1, .int x1), (6, .int x6)] → W p l e rmX7_share s m ([.ref h_t, .int z1, .int z2, .int z3] : List Value).toArray below meth c H locs 0 0 Q (F0 m 112 ls [])), ∀ (a_gets : Nat → Int32) (a_rests : Nat → Int64) (x1 : Int32) (x6 : Int32) (H : Heap) (locs : List Loc) (ls : Array Slot), FX7_share_112 n v_lorries a_lTown a_isStruck a_lSampled a_lWeight z1 z2 z3 k112 a_gets a_rests x1 x6 = O → va_P D classes [(h_t, .inr (7, [.ref h_tape, .ref h_text, .int v_taped, .int v_size, .int v_faultKind, .int v_faultPlace, .int v_at, .int v_end, .int v_token, .int v_number, .long v_name, .ref h_uName, .ref h_outName, .ref h_setName, .ref h_unitMany, .ref h_yesTo, .ref h_noTo, .ref h_settingMany, .ref h_shares, .ref h_gradeMany, .ref h_gKind, .ref h_gPurity, .ref h_gPrice, .ref h_outPlace, .ref h_setPlace, .ref h_setShare, .ref h_chosen, .int v_bank, .int v_rb, .int v_sets, .int v_missing, .ref h_rows, .ref h_parts, .long v_whole, .ref h_lTown, .ref h_lWeight, .ref h_lSampled, .ref h_hand, .ref h_isStruck, .int v_lorries, .int v_cost, .ref h_all, .ref h_bestChosen, .ref h_gets, .ref h_rests])), (h_lTown, .inl (cI, 60, .inl a_lTown)), (h_isStruck, .inl (cZ, 60, .inl a_isStruck)), (h_lSampled, .inl (cI, 300, .inl a_lSampled)), (h_lWeight, .inl (cI, 60, .inl a_lWeight)), (h_gets, .inl (cI, 5, .inl a_gets)), (h_rests, .inl (cJ, 5, .inr (.inl a_rests)))] H → va_D A [(h_t, .inr (7, [.ref h_tape, .ref h_text, .int v_taped, .int v_size, .int v_faultKind, .int v_faultPlace, .int v_at, .int v_end, .int v_token, .int v_number, .long v_name, .ref h_uName, .ref h_outName, .ref h_setName, .ref h_unitMany, .ref h_yesTo, .ref h_noTo, .ref h_settingMany, .ref h_shares, .ref h_gradeMany, .ref h_gKind, .ref h_gPurity, .ref h_gPrice, .ref h_outPlace, .ref h_setPlace, .ref h_setShare, .ref h_chosen, .int v_bank, .int v_rb, .int v_sets, .int v_missing, .ref h_rows, .ref h_parts, .long v_whole, .ref h_lTown, .ref h_lWeight, .ref h_lSampled, .ref h_hand, .ref h_isStruck, .int v_lorries, .int v_cost, .ref h_all, .ref h_bestChosen, .ref h_gets, .ref h_rests])), (h_lTown, .inl (cI, 60, .inl a_lTown)), (h_isStruck, .inl (cZ, 60, .inl a_isStruck)), (h_lSampled, .inl (cI, 300, .inl a_lSampled)), (h_lWeight, .inl (cI, 60, .inl a_lWeight)), (h_gets, .inl (cI, 5, .inl a_gets)), (h_rests, .inl (cJ, 5, .inr (.inl a_rests)))] → va_S A s.heap H locs → lv_has ls 10 [(0, .ref h_t), (1, .int x1), (6, .int x6)] → W p l e rmX7_share s m ([.ref h_t, .int z1, .int z2, .int z3] : List Value).toArray below meth c H locs 0 0 Q (F0 m 112 ls []) := by
    intro k112 ih112 a_gets a_rests x1 x6 H locs ls hF hP hD hS hl
    unfold FX7_share_112 at hF
    refine lv_iload hx hb dX7_share_112 (lv_at hl 2 rfl) ?_
    refine lv_if_le (tgt := 184) hx hb dX7_share_114 (by decide) (fun c_28 => ?_) (fun c_28 => ?_)
    · replace hF := ifT c_28 hF
      refine lv_aload_n hx hb dX7_share_184 rfl (lv_at hl 0 rfl) ?_
      refine va_get (D := D) (ci := 7) (C := RX7) (T := TX7) (N := 45) hx hb ha inAX7 hown hK hP 0 rfl rfl 43 (by decide) (ha _ w_4_77) (fun _ h9 => h9) rfl dX7_share_185 ?_
      refine lv_iload_n hx hb dX7_share_188 rfl (lv_at hl 1 rfl) ?_
      replace hF := ckP hN hF
      obtain ⟨c_29, hF⟩ := hF
      refine ld_i hx hb hK hP 5 rfl c_29 dX7_share_189 ?_
      exact hret ((a_gets (x1).toNatClampNeg), a_gets, a_rests) H locs ls _ hF hP hD hS dX7_share_190
    · replace hF := ifF c_28 hF
      refine lv_iconst (v := 0) hx hb dX7_share_117 (by decide) ?_
      refine lv_istore (lv' := [(7, .int (0 : Int32)), (0, .ref h_t), (1, .int x1), (6, .int x6)]) hx hb dX7_share_118 hl (by decide) rfl (fun ls hl => ?_)
      refine lv_iconst (v := 1) hx hb dX7_share_120 (by decide) ?_
      refine lv_istore (lv' := [(8, .int (1 : Int32)), (7, .int (0 : Int32)), (0, .ref h_t), (1, .int x1), (6, .int x6)]) hx hb dX7_share_121 hl (by decide) rfl (fun ls hl => ?_)
      exact Lc123 k112 ih112 n a_gets a_rests x1 x6 (0 : Int32) (1 : Int32) H locs ls hF hP hD hS (lv_sub hl [2, 3, 4, 1, 0] rfl)
  have Lc112 : ∀ (j : Nat), ∀ (a_gets : Nat → Int32) (a_rests : Nat → Int64) (x1 : Int32) (x6 : Int32) (H : Heap) (locs : List Loc) (ls : Array Slot), FX7_share_112L n v_lorries a_lTown a_isStruck a_lSampled a_lWeight z1 z2 z3 j a_gets a_rests x1 x6 = O → va_P D classes [(h_t, .inr (7, [.ref h_tape, .ref h_text, .int v_taped, .int v_size, .int v_faultKind, .int v_faultPlace, .int v_at, .int v_end, .int v_token, .int v_number, .long v_name, .ref h_uName, .ref h_outName, .ref h_setName, .ref h_unitMany, .ref h_yesTo, .ref h_noTo, .ref h_settingMany, .ref h_shares, .ref h_gradeMany, .ref h_gKind, .ref h_gPurity, .ref h_gPrice, .ref h_outPlace, .ref h_setPlace, .ref h_setShare, .ref h_chosen, .int v_bank, .int v_rb, .int v_sets, .int v_missing, .ref h_rows, .ref h_parts, .long v_whole, .ref h_lTown, .ref h_lWeight, .ref h_lSampled, .ref h_hand, .ref h_isStruck, .int v_lorries, .int v_cost, .ref h_all, .ref h_bestChosen, .ref h_gets, .ref h_rests])), (h_lTown, .inl (cI, 60, .inl a_lTown)), (h_isStruck, .inl (cZ, 60, .inl a_isStruck)), (h_lSampled, .inl (cI, 300, .inl a_lSampled)), (h_lWeight, .inl (cI, 60, .inl a_lWeight)), (h_gets, .inl (cI, 5, .inl a_gets)), (h_rests, .inl (cJ, 5, .inr (.inl a_rests)))] H → va_D A [(h_t, .inr (7, [.ref h_tape, .ref h_text, .int v_taped, .int v_size, .int v_faultKind, .int v_faultPlace, .int v_at, .int v_end, .int v_token, .int v_number, .long v_name, .ref h_uName, .ref h_outName, .ref h_setName, .ref h_unitMany, .ref h_yesTo, .ref h_noTo, .ref h_settingMany, .ref h_shares, .ref h_gradeMany, .ref h_gKind, .ref h_gPurity, .ref h_gPrice, .ref h_outPlace, .ref h_setPlace, .ref h_setShare, .ref h_chosen, .int v_bank, .int v_rb, .int v_sets, .int v_missing, .ref h_rows, .ref h_parts, .long v_whole, .ref h_lTown, .ref h_lWeight, .ref h_lSampled, .ref h_hand, .ref h_isStruck, .int v_lorries, .int v_cost, .ref h_all, .ref h_bestChosen, .ref h_gets, .ref h_rests])), (h_lTown, .inl (cI, 60, .inl a_lTown)), (h_isStruck, .inl (cZ, 60, .inl a_isStruck)), (h_lSampled, .inl (cI, 300, .inl a_lSampled)), (h_lWeight, .inl (cI, 60, .inl a_lWeight)), (h_gets, .inl (cI, 5, .inl a_gets)), (h_rests, .inl (cJ, 5, .inr (.inl a_rests)))] → va_S A s.heap H locs → lv_has ls 10 [(0, .ref h_t), (1, .int x1), (6, .int x6)] → W p l e rmX7_share s m ([.ref h_t, .int z1, .int z2, .int z3] : List Value).toArray below meth c H locs 0 0 Q (F0 m 112 ls []) := by
    intro j
    induction j with
    | zero => intro _ _ _ _ H locs ls hF; exact absurd hF.symm hN
    | succ j ih => exact L112 (FX7_share_112L n v_lorries a_lTown a_isStruck a_lSampled a_lWeight z1 z2 z3 j) ih
  have L50 : ∀ (k50 : (Nat → Int32) → (Nat → Int64) → Int32 → Int32 → Int32 → Int64 → Int32 → Int32 → Option (Int32 × (Nat → Int32) × (Nat → Int64))) (ih50 : ∀ (a_gets : Nat → Int32) (a_rests : Nat → Int64) (x1 : Int32) (x2 : Int32) (x3 : Int32) (x4 : Int64) (x6 : Int32) (x7 : Int32) (H : Heap) (locs : List Loc) (ls : Array Slot), k50 a_gets a_rests x1 x2 x3 x4 x6 x7 = O → va_P D classes [(h_t, .inr (7, [.ref h_tape, .ref h_text, .int v_taped, .int v_size, .int v_faultKind, .int v_faultPlace, .int v_at, .int v_end, .int v_token, .int v_number, .long v_name, .ref h_uName, .ref h_outName, .ref h_setName, .ref h_unitMany, .ref h_yesTo, .ref h_noTo, .ref h_settingMany, .ref h_shares, .ref h_gradeMany, .ref h_gKind, .ref h_gPurity, .ref h_gPrice, .ref h_outPlace, .ref h_setPlace, .ref h_setShare, .ref h_chosen, .int v_bank, .int v_rb, .int v_sets, .int v_missing, .ref h_rows, .ref h_parts, .long v_whole, .ref h_lTown, .ref h_lWeight, .ref h_lSampled, .ref h_hand, .ref h_isStruck, .int v_lorries, .int v_cost, .ref h_all, .ref h_bestChosen, .ref h_gets, .ref h_rests])), (h_lTown, .inl (cI, 60, .inl a_lTown)), (h_isStruck, .inl (cZ, 60, .inl a_isStruck)), (h_lSampled, .inl (cI, 300, .inl a_lSampled)), (h_lWeight, .inl (cI, 60, .inl a_lWeight)), (h_gets, .inl (cI, 5, .inl a_gets)), (h_rests, .inl (cJ, 5, .inr (.inl a_rests)))] H → va_D A [(h_t, .inr (7, [.ref h_tape, .ref h_text, .int v_taped, .int v_size, .int v_faultKind, .int v_faultPlace, .int v_at, .int v_end, .int v_token, .int v_number, .long v_name, .ref h_uName, .ref h_outName, .ref h_setName, .ref h_unitMany, .ref h_yesTo, .ref h_noTo, .ref h_settingMany, .ref h_shares, .ref h_gradeMany, .ref h_gKind, .ref h_gPurity, .ref h_gPrice, .ref h_outPlace, .ref h_setPlace, .ref h_setShare, .ref h_chosen, .int v_bank, .int v_rb, .int v_sets, .int v_missing, .ref h_rows, .ref h_parts, .long v_whole, .ref h_lTown, .ref h_lWeight, .ref h_lSampled, .ref h_hand, .ref h_isStruck, .int v_lorries, .int v_cost, .ref h_all, .ref h_bestChosen, .ref h_gets, .ref h_rests])), (h_lTown, .inl (cI, 60, .inl a_lTown)), (h_isStruck, .inl (cZ, 60, .inl a_isStruck)), (h_lSampled, .inl (cI, 300, .inl a_lSampled)), (h_lWeight, .inl (cI, 60, .inl a_lWeight)), (h_gets, .inl (cI, 5, .inl a_gets)), (h_rests, .inl (cJ, 5, .inr (.inl a_rests)))] → va_S A s.heap H locs → lv_has ls 10 [(0, .ref h_t), (1, .int x1), (2, .int x2), (3, .int x3), (4, .long x4), (6, .int x6), (7, .int x7)] → W p l e rmX7_share s m ([.ref h_t, .int z1, .int z2, .int z3] : List Value).toArray below meth c H locs 0 0 Q (F0 m 50 ls [])), ∀ (a_gets : Nat → Int32) (a_rests : Nat → Int64) (x1 : Int32) (x2 : Int32) (x3 : Int32) (x4 : Int64) (x6 : Int32) (x7 : Int32) (H : Heap) (locs : List Loc) (ls : Array Slot), FX7_share_50 n v_lorries a_lTown a_isStruck a_lSampled a_lWeight z1 z2 z3 k50 a_gets a_rests x1 x2 x3 x4 x6 x7 = O → va_P D classes [(h_t, .inr (7, [.ref h_tape, .ref h_text, .int v_taped, .int v_size, .int v_faultKind, .int v_faultPlace, .int v_at, .int v_end, .int v_token, .int v_number, .long v_name, .ref h_uName, .ref h_outName, .ref h_setName, .ref h_unitMany, .ref h_yesTo, .ref h_noTo, .ref h_settingMany, .ref h_shares, .ref h_gradeMany, .ref h_gKind, .ref h_gPurity, .ref h_gPrice, .ref h_outPlace, .ref h_setPlace, .ref h_setShare, .ref h_chosen, .int v_bank, .int v_rb, .int v_sets, .int v_missing, .ref h_rows, .ref h_parts, .long v_whole, .ref h_lTown, .ref h_lWeight, .ref h_lSampled, .ref h_hand, .ref h_isStruck, .int v_lorries, .int v_cost, .ref h_all, .ref h_bestChosen, .ref h_gets, .ref h_rests])), (h_lTown, .inl (cI, 60, .inl a_lTown)), (h_isStruck, .inl (cZ, 60, .inl a_isStruck)), (h_lSampled, .inl (cI, 300, .inl a_lSampled)), (h_lWeight, .inl (cI, 60, .inl a_lWeight)), (h_gets, .inl (cI, 5, .inl a_gets)), (h_rests, .inl (cJ, 5, .inr (.inl a_rests)))] H → va_D A [(h_t, .inr (7, [.ref h_tape, .ref h_text, .int v_taped, .int v_size, .int v_faultKind, .int v_faultPlace, .int v_at, .int v_end, .int v_token, .int v_number, .long v_name, .ref h_uName, .ref h_outName, .ref h_setName, .ref h_unitMany, .ref h_yesTo, .ref h_noTo, .ref h_settingMany, .ref h_shares, .ref h_gradeMany, .ref h_gKind, .ref h_gPurity, .ref h_gPrice, .ref h_outPlace, .ref h_setPlace, .ref h_setShare, .ref h_chosen, .int v_bank, .int v_rb, .int v_sets, .int v_missing, .ref h_rows, .ref h_parts, .long v_whole, .ref h_lTown, .ref h_lWeight, .ref h_lSampled, .ref h_hand, .ref h_isStruck, .int v_lorries, .int v_cost, .ref h_all, .ref h_bestChosen, .ref h_gets, .ref h_rests])), (h_lTown, .inl (cI, 60, .inl a_lTown)), (h_isStruck, .inl (cZ, 60, .inl a_isStruck)), (h_lSampled, .inl (cI, 300, .inl a_lSampled)), (h_lWeight, .inl (cI, 60, .inl a_lWeight)), (h_gets, .inl (cI, 5, .inl a_gets)), (h_rests, .inl (cJ, 5, .inr (.inl a_rests)))] → va_S A s.heap H locs → lv_has ls 10 [(0, .ref h_t), (1, .int x1), (2, .int x2), (3, .int x3), (4, .long x4), (6, .int x6), (7, .int x7)] → W p l e rmX7_share s m ([.ref h_t, .int z1, .int z2, .int z3] : List Value).toArray below meth c H locs 0 0 Q (F0 m 50 ls []) := by
    intro k50 ih50 a_gets a_rests x1 x2 x3 x4 x6 x7 H locs ls hF hP hD hS hl
    unfold FX7_share_50 at hF
    refine lv_iload hx hb dX7_share_50 (lv_at hl 6 rfl) ?_
    refine lv_iconst (v := 5) hx hb dX7_share_52 (by decide) ?_
    refine lv_icmp_ge (tgt := 112) hx hb dX7_share_53 (by decide) (fun c_13 => ?_) (fun c_13 => ?_)
    · replace hF := ifT c_13 hF
      exact Lc112 n a_gets a_rests x1 x6 H locs ls hF hP hD hS (lv_sub hl [0, 1, 5] rfl)
    · replace hF := ifF c_13 hF
      refine lv_iload_n hx hb dX7_share_56 rfl (lv_at hl 3 rfl) ?_
      refine lv_i2l hx hb dX7_share_57 rfl ?_
      refine lv_aload_n hx hb dX7_share_58 rfl (lv_at hl 0 rfl) ?_
      refine lv_iload hx hb dX7_share_59 (lv_at hl 6 rfl) ?_
      refine lv_iload_n hx hb dX7_share_61 rfl (lv_at hl 2 rfl) ?_
      have hn_14 := bdN hN hF
      refine callVI (As := [.int x7, .int x2]) (rest := [.long ((x3).toInt64)]) (wr := [(h_gets, .inl (cI, 5, .inl a_gets)), (h_rests, .inl (cJ, 5, .inr (.inl a_rests)))]) (W2 := fun u_15 => [(h_t, .inr (7, [.ref h_tape, .ref h_text, .int v_taped, .int v_size, .int v_faultKind, .int v_faultPlace, .int v_at, .int v_end, .int v_token, .int v_number, .long v_name, .ref h_uName, .ref h_outName, .ref h_setName, .ref h_unitMany, .ref h_yesTo, .ref h_noTo, .ref h_settingMany, .ref h_shares, .ref h_gradeMany, .ref h_gKind, .ref h_gPurity, .ref h_gPrice, .ref h_outPlace, .ref h_setPlace, .ref h_setShare, .ref h_chosen, .int v_bank, .int v_rb, .int v_sets, .int v_missing, .ref h_rows, .ref h_parts, .long v_whole, .ref h_lTown, .ref h_lWeight, .ref h_lSampled, .ref h_hand, .ref h_isStruck, .int v_lorries, .int v_cost, .ref h_all, .ref h_bestChosen, .ref h_gets, .ref h_rests])), (h_lTown, .inl (cI, 60, .inl a_lTown)), (h_isStruck, .inl (cZ, 60, .inl a_isStruck)), (h_lSampled, .inl (cI, 300, .inl a_lSampled)), (h_lWeight, .inl (cI, 60, .inl a_lWeight)), (h_gets, .inl (cI, 5, .inl a_gets)), (h_rests, .inl (cJ, 5, .inr (.inl a_rests)))]) X hE hP hD hS hA (kX7_broughtBy l D cB cI cJ cZ rz n H.size h_t h_lTown h_isStruck h_lSampled h_lWeight h_tape h_text h_uName h_outName h_setName h_unitMany h_yesTo h_noTo h_settingMany h_shares h_gradeMany h_gKind h_gPurity h_gPrice h_outPlace h_setPlace h_setShare h_chosen h_rows h_parts h_hand h_all h_bestChosen h_gets h_rests v_taped v_size v_faultKind v_faultPlace v_at v_end v_token v_number v_name v_bank v_rb v_sets v_missing v_whole v_lorries v_cost a_lTown a_isStruck a_lSampled a_lWeight x7 x2 hn_14) w_4_188 w_4_190 ws_68 w_1_9 w_4_191 cb_X7_broughtBy rfl rfl ⟨Nat.le_of_ble_eq_true rfl, Nat.le_of_ble_eq_true rfl⟩ rfl hl.1 rfl (Nat.le_of_ble_eq_true rfl) dX7_share_62 ⟨Nat.le_of_ble_eq_true rfl, Nat.le_of_ble_eq_true rfl⟩ (c2 := 0) (s2 := 0) rfl rfl (k0 := 0) rfl rfl [0, 1, 2, 3, 4] [5, 6] [2, 3, 4, 5, 6, 0, 1] rfl rfl (by decide) (by decide) (by decide) (by decide) (fun _ => rfl) (fun u_15 H locs hG hP hD hS => ?_)
      replace hF := bdQ hG hF
      refine lv_i2l hx hb dX7_share_65 rfl ?_
      refine lv_lmul hx hb dX7_share_66 ?_
      refine lv_topl (fun x_16 ex_16 => ?_)
      replace hF := ltP ex_16 hF
      refine lv_lstore (lv' := [(8, .long x_16), (0, .ref h_t), (1, .int x1), (2, .int x2), (3, .int x3), (4, .long x4), (6, .int x6), (7, .int x7)]) hx hb dX7_share_67 hl (by decide) rfl (fun ls hl => ?_)
      refine lv_aload_n hx hb dX7_share_69 rfl (lv_at hl 1 rfl) ?_
      refine va_get (D := D) (ci := 7) (C := RX7) (T := TX7) (N := 45) hx hb ha inAX7 hown hK hP 0 rfl rfl 43 (by decide) (ha _ w_4_77) (fun _ h9 => h9) rfl dX7_share_70 ?_
      refine lv_iload hx hb dX7_share_73 (lv_at hl 7 rfl) ?_
      refine lv_lload hx hb dX7_share_75 (lv_at hl 0 rfl) ?_
      refine lv_lload hx hb dX7_share_77 (lv_at hl 5 rfl) ?_
      replace hF := ckP hN hF
      obtain ⟨c_17, hF⟩ := hF
      refine lv_ldiv hx hb dX7_share_79 c_17 ?_
      refine lv_l2i hx hb dX7_share_80 rfl ?_
      refine lv_topi (fun x_18 ex_18 => ?_)
      replace hF := ltP ex_18 hF
      replace hF := ckP hN hF
      obtain ⟨c_19, hF⟩ := hF
      obtain ⟨f_20, ef_20⟩ : ∃ g : Nat → Int32, g = upd a_gets (x7).toNatClampNeg x_18 := ⟨_, rfl⟩
      replace hF := ltP ef_20 hF
      refine st_i (g := f_20) (W2 := [(h_t, .inr (7, [.ref h_tape, .ref h_text, .int v_taped, .int v_size, .int v_faultKind, .int v_faultPlace, .int v_at, .int v_end, .int v_token, .int v_number, .long v_name, .ref h_uName, .ref h_outName, .ref h_setName, .ref h_unitMany, .ref h_yesTo, .ref h_noTo, .ref h_settingMany, .ref h_shares, .ref h_gradeMany, .ref h_gKind, .ref h_gPurity, .ref h_gPrice, .ref h_outPlace, .ref h_setPlace, .ref h_setShare, .ref h_chosen, .int v_bank, .int v_rb, .int v_sets, .int v_missing, .ref h_rows, .ref h_parts, .long v_whole, .ref h_lTown, .ref h_lWeight, .ref h_lSampled, .ref h_hand, .ref h_isStruck, .int v_lorries, .int v_cost, .ref h_all, .ref h_bestChosen, .ref h_gets, .ref h_rests])), (h_lTown, .inl (cI, 60, .inl a_lTown)), (h_isStruck, .inl (cZ, 60, .inl a_isStruck)), (h_lSampled, .inl (cI, 300, .inl a_lSampled)), (h_lWeight, .inl (cI, 60, .inl a_lWeight)), (h_gets, .inl (cI, 5, .inl f_20)), (h_rests, .inl (cJ, 5, .inr (.inl a_rests)))]) hx hb hK hP hD hS 5 rfl c_19 ef_20 dX7_share_81 rfl (fun H locs hP hD hS => ?_)
      refine lv_aload_n hx hb dX7_share_82 rfl (lv_at hl 1 rfl) ?_
      refine va_get (D := D) (ci := 7) (C := RX7) (T := TX7) (N := 45) hx hb ha inAX7 hown hK hP 0 rfl rfl 44 (by decide) (ha _ w_4_78) (fun _ h9 => h9) rfl dX7_share_83 ?_
      refine lv_iload hx hb dX7_share_86 (lv_at hl 7 rfl) ?_
      refine lv_lload hx hb dX7_share_88 (lv_at hl 0 rfl) ?_
      refine lv_lload hx hb dX7_share_90 (lv_at hl 5 rfl) ?_
      replace hF := ckP hN hF
      obtain ⟨c_21, hF⟩ := hF
      refine lv_lrem hx hb dX7_share_92 c_21 ?_
      refine lv_topl (fun x_22 ex_22 => ?_)
      replace hF := ltP ex_22 hF
      replace hF := ckP hN hF
      obtain ⟨c_23, hF⟩ := hF
      obtain ⟨f_24, ef_24⟩ : ∃ g : Nat → Int64, g = vp_updL a_rests (x7).toNatClampNeg x_22 := ⟨_, rfl⟩
      replace hF := ltP ef_24 hF
      refine st_l (g := f_24) (W2 := [(h_t, .inr (7, [.ref h_tape, .ref h_text, .int v_taped, .int v_size, .int v_faultKind, .int v_faultPlace, .int v_at, .int v_end, .int v_token, .int v_number, .long v_name, .ref h_uName, .ref h_outName, .ref h_setName, .ref h_unitMany, .ref h_yesTo, .ref h_noTo, .ref h_settingMany, .ref h_shares, .ref h_gradeMany, .ref h_gKind, .ref h_gPurity, .ref h_gPrice, .ref h_outPlace, .ref h_setPlace, .ref h_setShare, .ref h_chosen, .int v_bank, .int v_rb, .int v_sets, .int v_missing, .ref h_rows, .ref h_parts, .long v_whole, .ref h_lTown, .ref h_lWeight, .ref h_lSampled, .ref h_hand, .ref h_isStruck, .int v_lorries, .int v_cost, .ref h_all, .ref h_bestChosen, .ref h_gets, .ref h_rests])), (h_lTown, .inl (cI, 60, .inl a_lTown)), (h_isStruck, .inl (cZ, 60, .inl a_isStruck)), (h_lSampled, .inl (cI, 300, .inl a_lSampled)), (h_lWeight, .inl (cI, 60, .inl a_lWeight)), (h_gets, .inl (cI, 5, .inl f_20)), (h_rests, .inl (cJ, 5, .inr (.inl f_24)))]) hx hb hK hP hD hS 6 rfl c_23 ef_24 dX7_share_93 rfl (fun H locs hP hD hS => ?_)
      refine lv_iload hx hb dX7_share_94 (lv_at hl 6 rfl) ?_
      refine lv_aload_n hx hb dX7_share_96 rfl (lv_at hl 1 rfl) ?_
      refine va_get (D := D) (ci := 7) (C := RX7) (T := TX7) (N := 45) hx hb ha inAX7 hown hK hP 0 rfl rfl 43 (by decide) (ha _ w_4_77) (fun _ h9 => h9) rfl dX7_share_97 ?_
      refine lv_iload hx hb dX7_share_100 (lv_at hl 7 rfl) ?_
      replace hF := ckP hN hF
      obtain ⟨c_25, hF⟩ := hF
      refine ld_i hx hb hK hP 5 rfl c_25 dX7_share_102 ?_
      refine lv_isub hx hb dX7_share_103 ?_
      refine lv_topi (fun x_26 ex_26 => ?_)
      replace hF := ltP ex_26 hF
      refine lv_istore (lv' := [(6, .int x_26), (8, .long x_16), (0, .ref h_t), (1, .int x1), (2, .int x2), (3, .int x3), (4, .long x4), (7, .int x7)]) hx hb dX7_share_104 hl (by decide) rfl (fun ls hl => ?_)
      obtain ⟨x_27, ex_27⟩ : ∃ y : Int32, y = x7 + (1 : Int32) := ⟨_, rfl⟩
      replace hF := ltP ex_27 hF
      refine lv_iinc (v := x_27) (lv' := [(7, .int x_27), (6, .int x_26), (8, .long x_16), (0, .ref h_t), (1, .int x1), (2, .int x2), (3, .int x3), (4, .long x4)]) hx hb dX7_share_106 hl (k := 7) rfl (by rw [ex_27]; rfl) (by decide) rfl (fun ls hl => ?_)
      refine lv_goto (tgt := 50) hx hb dX7_share_109 (by decide) ?_
      exact ih50 f_20 f_24 x1 x2 x3 x4 x_26 x_27 H locs ls hF hP hD hS (lv_sub hl [3, 4, 5, 6, 7, 1, 0] rfl)
  have Lc50 : ∀ (j : Nat), ∀ (a_gets : Nat → Int32) (a_rests : Nat → Int64) (x1 : Int32) (x2 : Int32) (x3 : Int32) (x4 : Int64) (x6 : Int32) (x7 : Int32) (H : Heap) (locs : List Loc) (ls : Array Slot), FX7_share_50L n v_lorries a_lTown a_isStruck a_lSampled a_lWeight z1 z2 z3 j a_gets a_rests x1 x2 x3 x4 x6 x7 = O → va_P D classes [(h_t, .inr (7, [.ref h_tape, .ref h_text, .int v_taped, .int v_size, .int v_faultKind, .int v_faultPlace, .int v_at, .int v_end, .int v_token, .int v_number, .long v_name, .ref h_uName, .ref h_outName, .ref h_setName, .ref h_unitMany, .ref h_yesTo, .ref h_noTo, .ref h_settingMany, .ref h_shares, .ref h_gradeMany, .ref h_gKind, .ref h_gPurity, .ref h_gPrice, .ref h_outPlace, .ref h_setPlace, .ref h_setShare, .ref h_chosen, .int v_bank, .int v_rb, .int v_sets, .int v_missing, .ref h_rows, .ref h_parts, .long v_whole, .ref h_lTown, .ref h_lWeight, .ref h_lSampled, .ref h_hand, .ref h_isStruck, .int v_lorries, .int v_cost, .ref h_all, .ref h_bestChosen, .ref h_gets, .ref h_rests])), (h_lTown, .inl (cI, 60, .inl a_lTown)), (h_isStruck, .inl (cZ, 60, .inl a_isStruck)), (h_lSampled, .inl (cI, 300, .inl a_lSampled)), (h_lWeight, .inl (cI, 60, .inl a_lWeight)), (h_gets, .inl (cI, 5, .inl a_gets)), (h_rests, .inl (cJ, 5, .inr (.inl a_rests)))] H → va_D A [(h_t, .inr (7, [.ref h_tape, .ref h_text, .int v_taped, .int v_size, .int v_faultKind, .int v_faultPlace, .int v_at, .int v_end, .int v_token, .int v_number, .long v_name, .ref h_uName, .ref h_outName, .ref h_setName, .ref h_unitMany, .ref h_yesTo, .ref h_noTo, .ref h_settingMany, .ref h_shares, .ref h_gradeMany, .ref h_gKind, .ref h_gPurity, .ref h_gPrice, .ref h_outPlace, .ref h_setPlace, .ref h_setShare, .ref h_chosen, .int v_bank, .int v_rb, .int v_sets, .int v_missing, .ref h_rows, .ref h_parts, .long v_whole, .ref h_lTown, .ref h_lWeight, .ref h_lSampled, .ref h_hand, .ref h_isStruck, .int v_lorries, .int v_cost, .ref h_all, .ref h_bestChosen, .ref h_gets, .ref h_rests])), (h_lTown, .inl (cI, 60, .inl a_lTown)), (h_isStruck, .inl (cZ, 60, .inl a_isStruck)), (h_lSampled, .inl (cI, 300, .inl a_lSampled)), (h_lWeight, .inl (cI, 60, .inl a_lWeight)), (h_gets, .inl (cI, 5, .inl a_gets)), (h_rests, .inl (cJ, 5, .inr (.inl a_rests)))] → va_S A s.heap H locs → lv_has ls 10 [(0, .ref h_t), (1, .int x1), (2, .int x2), (3, .int x3), (4, .long x4), (6, .int x6), (7, .int x7)] → W p l e rmX7_share s m ([.ref h_t, .int z1, .int z2, .int z3] : List Value).toArray below meth c H locs 0 0 Q (F0 m 50 ls []) := by
    intro j
    induction j with
    | zero => intro _ _ _ _ _ _ _ _ H locs ls hF; exact absurd hF.symm hN
    | succ j ih => exact L50 (FX7_share_50L n v_lorries a_lTown a_isStruck a_lSampled a_lWeight z1 z2 z3 j) ih
  unfold FX7_share at hF
  obtain ⟨H, hH⟩ : ∃ H, H = s.heap := ⟨_, rfl⟩
  obtain ⟨locs, hlo⟩ : ∃ locs : List Loc, locs = [] := ⟨_, rfl⟩
  have hS : va_S A s.heap H locs := by rw [hH, hlo]; exact hS
  rw [← hH] at hP
  have goal : W p l e rmX7_share s m ([.ref h_t, .int z1, .int z2, .int z3] : List Value).toArray below meth c H locs 0 0 Q (F0 m 0 ls []) := by
    refine lv_iload_n hx hb dX7_share_0 rfl (lv_at hl 1 rfl) ?_
    have hn_1 := bdN hN hF
    refine callSZ (As := [.int z1]) (rest := []) (wr := [(h_t, .inr (7, [.ref h_tape, .ref h_text, .int v_taped, .int v_size, .int v_faultKind, .int v_faultPlace, .int v_at, .int v_end, .int v_token, .int v_number, .long v_name, .ref h_uName, .ref h_outName, .ref h_setName, .ref h_unitMany, .ref h_yesTo, .ref h_noTo, .ref h_settingMany, .ref h_shares, .ref h_gradeMany, .ref h_gKind, .ref h_gPurity, .ref h_gPrice, .ref h_outPlace, .ref h_setPlace, .ref h_setShare, .ref h_chosen, .int v_bank, .int v_rb, .int v_sets, .int v_missing, .ref h_rows, .ref h_parts, .long v_whole, .ref h_lTown, .ref h_lWeight, .ref h_lSampled, .ref h_hand, .ref h_isStruck, .int v_lorries, .int v_cost, .ref h_all, .ref h_bestChosen, .ref h_gets, .ref h_rests])), (h_lTown, .inl (cI, 60, .inl a_lTown)), (h_isStruck, .inl (cZ, 60, .inl a_isStruck)), (h_lSampled, .inl (cI, 300, .inl a_lSampled)), (h_lWeight, .inl (cI, 60, .inl a_lWeight)), (h_gets, .inl (cI, 5, .inl a_gets)), (h_rests, .inl (cJ, 5, .inr (.inl a_rests)))]) (W2 := fun u_2 => [(h_t, .inr (7, [.ref h_tape, .ref h_text, .int v_taped, .int v_size, .int v_faultKind, .int v_faultPlace, .int v_at, .int v_end, .int v_token, .int v_number, .long v_name, .ref h_uName, .ref h_outName, .ref h_setName, .ref h_unitMany, .ref h_yesTo, .ref h_noTo, .ref h_settingMany, .ref h_shares, .ref h_gradeMany, .ref h_gKind, .ref h_gPurity, .ref h_gPrice, .ref h_outPlace, .ref h_setPlace, .ref h_setShare, .ref h_chosen, .int v_bank, .int v_rb, .int v_sets, .int v_missing, .ref h_rows, .ref h_parts, .long v_whole, .ref h_lTown, .ref h_lWeight, .ref h_lSampled, .ref h_hand, .ref h_isStruck, .int v_lorries, .int v_cost, .ref h_all, .ref h_bestChosen, .ref h_gets, .ref h_rests])), (h_lTown, .inl (cI, 60, .inl a_lTown)), (h_isStruck, .inl (cZ, 60, .inl a_isStruck)), (h_lSampled, .inl (cI, 300, .inl a_lSampled)), (h_lWeight, .inl (cI, 60, .inl a_lWeight)), (h_gets, .inl (cI, 5, .inl a_gets)), (h_rests, .inl (cJ, 5, .inr (.inl a_rests)))]) X hE hP hD hS hA (kX7_isTown l D cB cI cJ cZ rz n H.size z1 hn_1) w_4_185 w_4_186 w_1_9 w_4_187 cb_X7_isTown rfl rfl ⟨Nat.le_of_ble_eq_true rfl, Nat.le_of_ble_eq_true rfl⟩ rfl hl.1 rfl (Nat.le_of_ble_eq_true rfl) dX7_share_1 ⟨Nat.le_of_ble_eq_true rfl, Nat.le_of_ble_eq_true rfl⟩ (c2 := 0) (s2 := 0) rfl rfl [] [0, 1, 2, 3, 4, 5, 6] [0, 1, 2, 3, 4, 5, 6] rfl rfl (by decide) (by decide) (by decide) (by decide) (fun _ => rfl) (fun u_2 H locs hG hzu_2 hP hD hS => ?_)
    replace hF := bdQ hG hF
    refine lv_if_eq (tgt := 25) hx hb dX7_share_4 (by decide) (fun c_3 => ?_) (fun c_3 => ?_)
    · replace hF := ifT c_3 hF
      refine lv_iconst (v := -1) hx hb dX7_share_25 (by decide) ?_
      exact hret ((-1 : Int32), a_gets, a_rests) H locs ls _ hF hP hD hS dX7_share_26
    · replace hF := ifF c_3 hF
      refine lv_iload_n hx hb dX7_share_7 rfl (lv_at hl 2 rfl) ?_
      have hn_4 := bdN hN hF
      refine callSZ (As := [.int z2]) (rest := []) (wr := [(h_t, .inr (7, [.ref h_tape, .ref h_text, .int v_taped, .int v_size, .int v_faultKind, .int v_faultPlace, .int v_at, .int v_end, .int v_token, .int v_number, .long v_name, .ref h_uName, .ref h_outName, .ref h_setName, .ref h_unitMany, .ref h_yesTo, .ref h_noTo, .ref h_settingMany, .ref h_shares, .ref h_gradeMany, .ref h_gKind, .ref h_gPurity, .ref h_gPrice, .ref h_outPlace, .ref h_setPlace, .ref h_setShare, .ref h_chosen, .int v_bank, .int v_rb, .int v_sets, .int v_missing, .ref h_rows, .ref h_parts, .long v_whole, .ref h_lTown, .ref h_lWeight, .ref h_lSampled, .ref h_hand, .ref h_isStruck, .int v_lorries, .int v_cost, .ref h_all, .ref h_bestChosen, .ref h_gets, .ref h_rests])), (h_lTown, .inl (cI, 60, .inl a_lTown)), (h_isStruck, .inl (cZ, 60, .inl a_isStruck)), (h_lSampled, .inl (cI, 300, .inl a_lSampled)), (h_lWeight, .inl (cI, 60, .inl a_lWeight)), (h_gets, .inl (cI, 5, .inl a_gets)), (h_rests, .inl (cJ, 5, .inr (.inl a_rests)))]) (W2 := fun u_5 => [(h_t, .inr (7, [.ref h_tape, .ref h_text, .int v_taped, .int v_size, .int v_faultKind, .int v_faultPlace, .int v_at, .int v_end, .int v_token, .int v_number, .long v_name, .ref h_uName, .ref h_outName, .ref h_setName, .ref h_unitMany, .ref h_yesTo, .ref h_noTo, .ref h_settingMany, .ref h_shares, .ref h_gradeMany, .ref h_gKind, .ref h_gPurity, .ref h_gPrice, .ref h_outPlace, .ref h_setPlace, .ref h_setShare, .ref h_chosen, .int v_bank, .int v_rb, .int v_sets, .int v_missing, .ref h_rows, .ref h_parts, .long v_whole, .ref h_lTown, .ref h_lWeight, .ref h_lSampled, .ref h_hand, .ref h_isStruck, .int v_lorries, .int v_cost, .ref h_all, .ref h_bestChosen, .ref h_gets, .ref h_rests])), (h_lTown, .inl (cI, 60, .inl a_lTown)), (h_isStruck, .inl (cZ, 60, .inl a_isStruck)), (h_lSampled, .inl (cI, 300, .inl a_lSampled)), (h_lWeight, .inl (cI, 60, .inl a_lWeight)), (h_gets, .inl (cI, 5, .inl a_gets)), (h_rests, .inl (cJ, 5, .inr (.inl a_rests)))]) X hE hP hD hS hA (kX7_isKind l D cB cI cJ cZ rz n H.size z2 hn_4) w_3_236 w_3_237 w_1_9 w_3_238 cb_X7_isKind rfl rfl ⟨Nat.le_of_ble_eq_true rfl, Nat.le_of_ble_eq_true rfl⟩ rfl hl.1 rfl (Nat.le_of_ble_eq_true rfl) dX7_share_8 ⟨Nat.le_of_ble_eq_true rfl, Nat.le_of_ble_eq_true rfl⟩ (c2 := 0) (s2 := 0) rfl rfl [] [0, 1, 2, 3, 4, 5, 6] [0, 1, 2, 3, 4, 5, 6] rfl rfl (by decide) (by decide) (by decide) (by decide) (fun _ => rfl) (fun u_5 H locs hG hzu_5 hP hD hS => ?_)
      replace hF := bdQ hG hF
      refine lv_if_eq (tgt := 25) hx hb dX7_share_11 (by decide) (fun c_6 => ?_) (fun c_6 => ?_)
      · replace hF := ifT c_6 hF
        refine lv_iconst (v := -1) hx hb dX7_share_25 (by decide) ?_
        exact hret ((-1 : Int32), a_gets, a_rests) H locs ls _ hF hP hD hS dX7_share_26
      · replace hF := ifF c_6 hF
        refine lv_iload_n hx hb dX7_share_14 rfl (lv_at hl 3 rfl) ?_
        refine lv_if_lt (tgt := 25) hx hb dX7_share_15 (by decide) (fun c_7 => ?_) (fun c_7 => ?_)
        · replace hF := ifT c_7 hF
          refine lv_iconst (v := -1) hx hb dX7_share_25 (by decide) ?_
          exact hret ((-1 : Int32), a_gets, a_rests) H locs ls _ hF hP hD hS dX7_share_26
        · replace hF := ifF c_7 hF
          refine lv_iload_n hx hb dX7_share_18 rfl (lv_at hl 3 rfl) ?_
          refine lv_ldcw hx hb hown (ha _ w_5_32) dX7_share_19 ?_
          refine lv_icmp_le (tgt := 27) hx hb dX7_share_22 (by decide) (fun c_8 => ?_) (fun c_8 => ?_)
          · replace hF := ifT c_8 hF
            refine lv_aload_n hx hb dX7_share_27 rfl (lv_at hl 0 rfl) ?_
            refine lv_iload_n hx hb dX7_share_28 rfl (lv_at hl 2 rfl) ?_
            have hn_9 := bdN hN hF
            refine callVI (As := [.int z2]) (rest := []) (wr := [(h_gets, .inl (cI, 5, .inl a_gets)), (h_rests, .inl (cJ, 5, .inr (.inl a_rests)))]) (W2 := fun u_10 => [(h_t, .inr (7, [.ref h_tape, .ref h_text, .int v_taped, .int v_size, .int v_faultKind, .int v_faultPlace, .int v_at, .int v_end, .int v_token, .int v_number, .long v_name, .ref h_uName, .ref h_outName, .ref h_setName, .ref h_unitMany, .ref h_yesTo, .ref h_noTo, .ref h_settingMany, .ref h_shares, .ref h_gradeMany, .ref h_gKind, .ref h_gPurity, .ref h_gPrice, .ref h_outPlace, .ref h_setPlace, .ref h_setShare, .ref h_chosen, .int v_bank, .int v_rb, .int v_sets, .int v_missing, .ref h_rows, .ref h_parts, .long v_whole, .ref h_lTown, .ref h_lWeight, .ref h_lSampled, .ref h_hand, .ref h_isStruck, .int v_lorries, .int v_cost, .ref h_all, .ref h_bestChosen, .ref h_gets, .ref h_rests])), (h_lTown, .inl (cI, 60, .inl a_lTown)), (h_isStruck, .inl (cZ, 60, .inl a_isStruck)), (h_lSampled, .inl (cI, 300, .inl a_lSampled)), (h_lWeight, .inl (cI, 60, .inl a_lWeight)), (h_gets, .inl (cI, 5, .inl a_gets)), (h_rests, .inl (cJ, 5, .inr (.inl a_rests)))]) X hE hP hD hS hA (kX7_broughtByAll l D cB cI cJ cZ rz n H.size h_t h_lTown h_isStruck h_lSampled h_lWeight h_tape h_text h_uName h_outName h_setName h_unitMany h_yesTo h_noTo h_settingMany h_shares h_gradeMany h_gKind h_gPurity h_gPrice h_outPlace h_setPlace h_setShare h_chosen h_rows h_parts h_hand h_all h_bestChosen h_gets h_rests v_taped v_size v_faultKind v_faultPlace v_at v_end v_token v_number v_name v_bank v_rb v_sets v_missing v_whole v_lorries v_cost a_lTown a_isStruck a_lSampled a_lWeight z2 hn_9) w_4_210 w_4_212 ws_71 w_1_9 w_4_213 cb_X7_broughtByAll rfl rfl ⟨Nat.le_of_ble_eq_true rfl, Nat.le_of_ble_eq_true rfl⟩ rfl hl.1 rfl (Nat.le_of_ble_eq_true rfl) dX7_share_29 ⟨Nat.le_of_ble_eq_true rfl, Nat.le_of_ble_eq_true rfl⟩ (c2 := 0) (s2 := 0) rfl rfl (k0 := 0) rfl rfl [0, 1, 2, 3, 4] [5, 6] [2, 3, 4, 5, 6, 0, 1] rfl rfl (by decide) (by decide) (by decide) (by decide) (fun _ => rfl) (fun u_10 H locs hG hP hD hS => ?_)
            replace hF := bdQ hG hF
            refine lv_i2l hx hb dX7_share_32 rfl ?_
            refine lv_topl (fun x_11 ex_11 => ?_)
            replace hF := ltP ex_11 hF
            refine lv_lstore (lv' := [(4, .long x_11), (0, .ref h_t), (1, .int z1), (2, .int z2), (3, .int z3)]) hx hb dX7_share_33 hl (by decide) rfl (fun ls hl => ?_)
            refine lv_lload hx hb dX7_share_35 (lv_at hl 0 rfl) ?_
            refine lv_lconst (v := 0) hx hb dX7_share_37 (by decide) ?_
            refine W.lcmp hx hb dX7_share_38 ?_
            refine lv_if_ne (tgt := 44) hx hb dX7_share_39 (by decide) (fun c_12 => ?_) (fun c_12 => ?_)
            · replace hF := ifF c_12 hF
              refine lv_iload_n hx hb dX7_share_44 rfl (lv_at hl 4 rfl) ?_
              refine lv_istore (lv' := [(6, .int z3), (4, .long x_11), (0, .ref h_t), (1, .int z1), (2, .int z2), (3, .int z3)]) hx hb dX7_share_45 hl (by decide) rfl (fun ls hl => ?_)
              refine lv_iconst (v := 0) hx hb dX7_share_47 (by decide) ?_
              refine lv_istore (lv' := [(7, .int (0 : Int32)), (6, .int z3), (4, .long x_11), (0, .ref h_t), (1, .int z1), (2, .int z2), (3, .int z3)]) hx hb dX7_share_48 hl (by decide) rfl (fun ls hl => ?_)
              exact Lc50 n a_gets a_rests z1 z2 z3 x_11 z3 (0 : Int32) H locs ls hF hP hD hS (lv_sub hl [3, 4, 5, 6, 2, 1, 0] rfl)
            · replace hF := ifT c_12 hF
              refine lv_iconst (v := 0) hx hb dX7_share_42 (by decide) ?_
              exact hret ((0 : Int32), a_gets, a_rests) H locs ls _ hF hP hD hS dX7_share_43
          · replace hF := ifF c_8 hF
            refine lv_iconst (v := -1) hx hb dX7_share_25 (by decide) ?_
            exact hret ((-1 : Int32), a_gets, a_rests) H locs ls _ hF hP hD hS dX7_share_26
  rw [hH, hlo] at goal
  exact goal
theorem dX7_about_0 : decode cX7_about 0 = .ok (.iload_n 1, 1) := by decide +kernel
theorem dX7_about_1 : decode cX7_about 1 = .ok (.tableswitch 56 0 3 #[31, 41, 46, 51], 31) := by decide +kernel
theorem dX7_about_32 : decode cX7_about 32 = .ok (.aload_n 0, 1) := by decide +kernel
theorem dX7_about_33 : decode cX7_about 33 = .ok (.getfield 89, 3) := by decide +kernel
theorem dX7_about_36 : decode cX7_about 36 = .ok (.aload_n 0, 1) := by decide +kernel
theorem dX7_about_37 : decode cX7_about 37 = .ok (.getfield 83, 3) := by decide +kernel
theorem dX7_about_40 : decode cX7_about 40 = .ok (.iaload, 1) := by decide +kernel
theorem dX7_about_41 : decode cX7_about 41 = .ok (.ireturn, 1) := by decide +kernel
theorem dX7_about_42 : decode cX7_about 42 = .ok (.aload_n 0, 1) := by decide +kernel
theorem dX7_about_43 : decode cX7_about 43 = .ok (.getfield 257, 3) := by decide +kernel
theorem dX7_about_46 : decode cX7_about 46 = .ok (.ireturn, 1) := by decide +kernel
theorem dX7_about_47 : decode cX7_about 47 = .ok (.aload_n 0, 1) := by decide +kernel
theorem dX7_about_48 : decode cX7_about 48 = .ok (.getfield 239, 3) := by decide +kernel
theorem dX7_about_51 : decode cX7_about 51 = .ok (.ireturn, 1) := by decide +kernel
theorem dX7_about_52 : decode cX7_about 52 = .ok (.aload_n 0, 1) := by decide +kernel
theorem dX7_about_53 : decode cX7_about 53 = .ok (.getfield 77, 3) := by decide +kernel
theorem dX7_about_56 : decode cX7_about 56 = .ok (.ireturn, 1) := by decide +kernel
theorem dX7_about_57 : decode cX7_about 57 = .ok (.iload_n 1, 1) := by decide +kernel
theorem dX7_about_58 : decode cX7_about 58 = .ok (.bipush 10, 2) := by decide +kernel
theorem dX7_about_60 : decode cX7_about 60 = .ok (.if_icmp .lt 28, 3) := by decide +kernel
theorem dX7_about_63 : decode cX7_about 63 = .ok (.iload_n 1, 1) := by decide +kernel
theorem dX7_about_64 : decode cX7_about 64 = .ok (.bipush 14, 2) := by decide +kernel
theorem dX7_about_66 : decode cX7_about 66 = .ok (.if_icmp .ge 22, 3) := by decide +kernel
theorem dX7_about_69 : decode cX7_about 69 = .ok (.aload_n 0, 1) := by decide +kernel
theorem dX7_about_70 : decode cX7_about 70 = .ok (.getfield 96, 3) := by decide +kernel
theorem dX7_about_73 : decode cX7_about 73 = .ok (.iconst 4, 1) := by decide +kernel
theorem dX7_about_74 : decode cX7_about 74 = .ok (.aload_n 0, 1) := by decide +kernel
theorem dX7_about_75 : decode cX7_about 75 = .ok (.getfield 83, 3) := by decide +kernel
theorem dX7_about_78 : decode cX7_about 78 = .ok (.imul, 1) := by decide +kernel
theorem dX7_about_79 : decode cX7_about 79 = .ok (.iload_n 1, 1) := by decide +kernel
theorem dX7_about_80 : decode cX7_about 80 = .ok (.iadd, 1) := by decide +kernel
theorem dX7_about_81 : decode cX7_about 81 = .ok (.bipush 10, 2) := by decide +kernel
theorem dX7_about_83 : decode cX7_about 83 = .ok (.isub, 1) := by decide +kernel
theorem dX7_about_84 : decode cX7_about 84 = .ok (.iaload, 1) := by decide +kernel
theorem dX7_about_85 : decode cX7_about 85 = .ok (.goto 4, 3) := by decide +kernel
theorem dX7_about_88 : decode cX7_about 88 = .ok (.iconst (-1), 1) := by decide +kernel
theorem dX7_about_89 : decode cX7_about 89 = .ok (.ireturn, 1) := by decide +kernel
abbrev rmX7_about : Room := { frames := 0, cells := 0, slots := 0, locals := 0 }
theorem cb_X7_about : CBn yX7_about 1 := ⟨by decide +kernel, by decide +kernel, by decide +kernel⟩
def FX7_about (n : Nat) (v_taped : Int32) (v_bank : Int32) (v_lorries : Int32) (v_cost : Int32) (a_gradeMany : Nat → Int32) (a_unitMany : Nat → Int32) (z1 : Int32) : Option (Int32 × Unit) := if z1 = (0 : Int32) then (if ¬ (v_bank < 0 ∨ 2 ≤ (v_bank).toNatClampNeg) then (some ((a_unitMany (v_bank).toNatClampNeg), ())) else none) else (if z1 = (1 : Int32) then (some (v_lorries, ())) else (if z1 = (2 : Int32) then (some (v_cost, ())) else (if z1 = (3 : Int32) then (some (v_taped, ())) else (if z1 < (10 : Int32) then (some ((-1 : Int32), ())) else (if (14 : Int32) ≤ z1 then (some ((-1 : Int32), ())) else (if ¬ (((((4 : Int32) * v_bank) + z1) - (10 : Int32)) < 0 ∨ 8 ≤ (((((4 : Int32) * v_bank) + z1) - (10 : Int32))).toNatClampNeg) then (some ((a_gradeMany (((((4 : Int32) * v_bank) + z1) - (10 : Int32))).toNatClampNeg), ())) else none))))))
set_option maxHeartbeats 4000000 in
set_option maxRecDepth 100000 in
theorem kX7_about (l : Launch) (D : va_G) (cB cI cJ cZ : ClassId) (rz n sz : Nat) (h_t : Nat) (h_gradeMany : Nat) (h_unitMany : Nat) (h_tape : Nat) (h_text : Nat) (h_uName : Nat) (h_outName : Nat) (h_setName : Nat) (h_yesTo : Nat) (h_noTo : Nat) (h_settingMany : Nat) (h_shares : Nat) (h_gKind : Nat) (h_gPurity : Nat) (h_gPrice : Nat) (h_outPlace : Nat) (h_setPlace : Nat) (h_setShare : Nat) (h_chosen : Nat) (h_rows : Nat) (h_parts : Nat) (h_lTown : Nat) (h_lWeight : Nat) (h_lSampled : Nat) (h_hand : Nat) (h_isStruck : Nat) (h_all : Nat) (h_bestChosen : Nat) (h_gets : Nat) (h_rests : Nat) (v_taped : Int32) (v_size : Int32) (v_faultKind : Int32) (v_faultPlace : Int32) (v_at : Int32) (v_end : Int32) (v_token : Int32) (v_number : Int32) (v_name : Int64) (v_bank : Int32) (v_rb : Int32) (v_sets : Int32) (v_missing : Int32) (v_whole : Int64) (v_lorries : Int32) (v_cost : Int32) (a_gradeMany : Nat → Int32) (a_unitMany : Nat → Int32) (z1 : Int32) (hN : FX7_about n v_taped v_bank v_lorries v_cost a_gradeMany a_unitMany z1 ≠ none) : Met l yX7_about (Cond.code yX7_about cX7_about 2 (some .int) :: AL) rmX7_about (PW D cB cI cJ cZ rz [.ref h_t, .int z1] [(h_t, .inr (7, [.ref h_tape, .ref h_text, .int v_taped, .int v_size, .int v_faultKind, .int v_faultPlace, .int v_at, .int v_end, .int v_token, .int v_number, .long v_name, .ref h_uName, .ref h_outName, .ref h_setName, .ref h_unitMany, .ref h_yesTo, .ref h_noTo, .ref h_settingMany, .ref h_shares, .ref h_gradeMany, .ref h_gKind, .ref h_gPurity, .ref h_gPrice, .ref h_outPlace, .ref h_setPlace, .ref h_setShare, .ref h_chosen, .int v_bank, .int v_rb, .int v_sets, .int v_missing, .ref h_rows, .ref h_parts, .long v_whole, .ref h_lTown, .ref h_lWeight, .ref h_lSampled, .ref h_hand, .ref h_isStruck, .int v_lorries, .int v_cost, .ref h_all, .ref h_bestChosen, .ref h_gets, .ref h_rests])), (h_gradeMany, .inl (cI, 8, .inl a_gradeMany)), (h_unitMany, .inl (cI, 2, .inl a_unitMany))] sz) (QI D (FX7_about n v_taped v_bank v_lorries v_cost a_gradeMany a_unitMany z1) (fun u => [(h_t, .inr (7, [.ref h_tape, .ref h_text, .int v_taped, .int v_size, .int v_faultKind, .int v_faultPlace, .int v_at, .int v_end, .int v_token, .int v_number, .long v_name, .ref h_uName, .ref h_outName, .ref h_setName, .ref h_unitMany, .ref h_yesTo, .ref h_noTo, .ref h_settingMany, .ref h_shares, .ref h_gradeMany, .ref h_gKind, .ref h_gPurity, .ref h_gPrice, .ref h_outPlace, .ref h_setPlace, .ref h_setShare, .ref h_chosen, .int v_bank, .int v_rb, .int v_sets, .int v_missing, .ref h_rows, .ref h_parts, .long v_whole, .ref h_lTown, .ref h_lWeight, .ref h_lSampled, .ref h_hand, .ref h_isStruck, .int v_lorries, .int v_cost, .ref h_all, .ref h_bestChosen, .ref h_gets, .ref h_rests])), (h_gradeMany, .inl (cI, 8, .inl a_gradeMany)), (h_unitMany, .inl (cI, 2, .inl a_unitMany))]) (va_A [(h_t, .inr (7, [.ref h_tape, .ref h_text, .int v_taped, .int v_size, .int v_faultKind, .int v_faultPlace, .int v_at, .int v_end, .int v_token, .int v_number, .long v_name, .ref h_uName, .ref h_outName, .ref h_setName, .ref h_unitMany, .ref h_yesTo, .ref h_noTo, .ref h_settingMany, .ref h_shares, .ref h_gradeMany, .ref h_gKind, .ref h_gPurity, .ref h_gPrice, .ref h_outPlace, .ref h_setPlace, .ref h_setShare, .ref h_chosen, .int v_bank, .int v_rb, .int v_sets, .int v_missing, .ref h_rows, .ref h_parts, .long v_whole, .ref h_lTown, .ref h_lWeight, .ref h_lSampled, .ref h_hand, .ref h_isStruck, .int v_lorries, .int v_cost, .ref h_all, .ref h_bestChosen, .ref h_gets, .ref h_rests])), (h_gradeMany, .inl (cI, 8, .inl a_gradeMany)), (h_unitMany, .inl (cI, 2, .inl a_unitMany))] sz)) 0 0 (va_A [(h_t, .inr (7, [.ref h_tape, .ref h_text, .int v_taped, .int v_size, .int v_faultKind, .int v_faultPlace, .int v_at, .int v_end, .int v_token, .int v_number, .long v_name, .ref h_uName, .ref h_outName, .ref h_setName, .ref h_unitMany, .ref h_yesTo, .ref h_noTo, .ref h_settingMany, .ref h_shares, .ref h_gradeMany, .ref h_gKind, .ref h_gPurity, .ref h_gPrice, .ref h_outPlace, .ref h_setPlace, .ref h_setShare, .ref h_chosen, .int v_bank, .int v_rb, .int v_sets, .int v_missing, .ref h_rows, .ref h_parts, .long v_whole, .ref h_lTown, .ref h_lWeight, .ref h_lSampled, .ref h_hand, .ref h_isStruck, .int v_lorries, .int v_cost, .ref h_all, .ref h_bestChosen, .ref h_gets, .ref h_rests])), (h_gradeMany, .inl (cI, 8, .inl a_gradeMany)), (h_unitMany, .inl (cI, 2, .inl a_unitMany))] sz) := by
  obtain ⟨O, hF⟩ : ∃ O, FX7_about n v_taped v_bank v_lorries v_cost a_gradeMany a_unitMany z1 = O := ⟨_, rfl⟩
  rw [hF] at hN ⊢
  refine enterI (cc := cX7_about) (nL := 2) (by decide) (Nat.le_of_ble_eq_true rfl) ?_
  intro p e s m below meth c A Q X hA hE hnm hsz hP hD hS hret ls hl
  obtain ⟨hx, hb, hml, hown0, ha⟩ := id X
  have hown : s.vm.findClass RX7 = some m.cls := hown0
  have hK := hE.1
  have hl : lv_has ls 2 [(0, .ref h_t), (1, .int z1)] := hl
  have hX : CallFix p m c cX7_about 2 s ([.ref h_t, .int z1] : List Value).toArray AL RX7 := X
  have X := hX
  unfold FX7_about at hF
  obtain ⟨H, hH⟩ : ∃ H, H = s.heap := ⟨_, rfl⟩
  obtain ⟨locs, hlo⟩ : ∃ locs : List Loc, locs = [] := ⟨_, rfl⟩
  have hS : va_S A s.heap H locs := by rw [hH, hlo]; exact hS
  rw [← hH] at hP
  have goal : W p l e rmX7_about s m ([.ref h_t, .int z1] : List Value).toArray below meth c H locs 0 0 Q (F0 m 0 ls []) := by
    refine lv_iload_n hx hb dX7_about_0 rfl (lv_at hl 1 rfl) ?_
    by_cases c_1 : z1 = (0 : Int32)
    · replace hF := ifT c_1 hF
      refine tsI (k := 0) (off := 31) (tgt := 32) hx hb c_1 dX7_about_1 (by decide) (by decide) (by decide) (by decide) ?_
      refine lv_aload_n hx hb dX7_about_32 rfl (lv_at hl 0 rfl) ?_
      refine va_get (D := D) (ci := 7) (C := RX7) (T := TX7) (N := 45) hx hb ha inAX7 hown hK hP 0 rfl rfl 14 (by decide) (ha _ w_4_48) (fun _ h9 => h9) rfl dX7_about_33 ?_
      refine lv_aload_n hx hb dX7_about_36 rfl (lv_at hl 0 rfl) ?_
      refine va_get (D := D) (ci := 7) (C := RX7) (T := TX7) (N := 45) hx hb ha inAX7 hown hK hP 0 rfl rfl 27 (by decide) (ha _ w_4_61) (fun _ h9 => h9) rfl dX7_about_37 ?_
      replace hF := ckP hN hF
      obtain ⟨c_2, hF⟩ := hF
      refine ld_i hx hb hK hP 2 rfl c_2 dX7_about_40 ?_
      exact hret ((a_unitMany (v_bank).toNatClampNeg), ()) H locs ls _ hF hP hD hS dX7_about_41
    · replace hF := ifF c_1 hF
      by_cases c_3 : z1 = (1 : Int32)
      · replace hF := ifT c_3 hF
        refine tsI (k := 1) (off := 41) (tgt := 42) hx hb c_3 dX7_about_1 (by decide) (by decide) (by decide) (by decide) ?_
        refine lv_aload_n hx hb dX7_about_42 rfl (lv_at hl 0 rfl) ?_
        refine va_get (D := D) (ci := 7) (C := RX7) (T := TX7) (N := 45) hx hb ha inAX7 hown hK hP 0 rfl rfl 39 (by decide) (ha _ w_4_73) (fun _ h9 => h9) rfl dX7_about_43 ?_
        exact hret (v_lorries, ()) H locs ls _ hF hP hD hS dX7_about_46
      · replace hF := ifF c_3 hF
        by_cases c_4 : z1 = (2 : Int32)
        · replace hF := ifT c_4 hF
          refine tsI (k := 2) (off := 46) (tgt := 47) hx hb c_4 dX7_about_1 (by decide) (by decide) (by decide) (by decide) ?_
          refine lv_aload_n hx hb dX7_about_47 rfl (lv_at hl 0 rfl) ?_
          refine va_get (D := D) (ci := 7) (C := RX7) (T := TX7) (N := 45) hx hb ha inAX7 hown hK hP 0 rfl rfl 40 (by decide) (ha _ w_4_74) (fun _ h9 => h9) rfl dX7_about_48 ?_
          exact hret (v_cost, ()) H locs ls _ hF hP hD hS dX7_about_51
        · replace hF := ifF c_4 hF
          by_cases c_5 : z1 = (3 : Int32)
          · replace hF := ifT c_5 hF
            refine tsI (k := 3) (off := 51) (tgt := 52) hx hb c_5 dX7_about_1 (by decide) (by decide) (by decide) (by decide) ?_
            refine lv_aload_n hx hb dX7_about_52 rfl (lv_at hl 0 rfl) ?_
            refine va_get (D := D) (ci := 7) (C := RX7) (T := TX7) (N := 45) hx hb ha inAX7 hown hK hP 0 rfl rfl 2 (by decide) (ha _ w_4_36) (fun _ h9 => h9) rfl dX7_about_53 ?_
            exact hret (v_taped, ()) H locs ls _ hF hP hD hS dX7_about_56
          · replace hF := ifF c_5 hF
            refine tsO (hi := 3) (tgt := 57) hx hb (fun k hk => match k, hk with | 0, _ => c_1 | 1, _ => c_3 | 2, _ => c_4 | 3, _ => c_5 | k + 4, hk => absurd hk (by omega)) dX7_about_1 (by decide) (by decide) ?_
            refine lv_iload_n hx hb dX7_about_57 rfl (lv_at hl 1 rfl) ?_
            refine lv_bipush (v := 10) hx hb dX7_about_58 (by decide) ?_
            refine lv_icmp_lt (tgt := 88) hx hb dX7_about_60 (by decide) (fun c_6 => ?_) (fun c_6 => ?_)
            · replace hF := ifT c_6 hF
              refine lv_iconst (v := -1) hx hb dX7_about_88 (by decide) ?_
              exact hret ((-1 : Int32), ()) H locs ls _ hF hP hD hS dX7_about_89
            · replace hF := ifF c_6 hF
              refine lv_iload_n hx hb dX7_about_63 rfl (lv_at hl 1 rfl) ?_
              refine lv_bipush (v := 14) hx hb dX7_about_64 (by decide) ?_
              refine lv_icmp_ge (tgt := 88) hx hb dX7_about_66 (by decide) (fun c_7 => ?_) (fun c_7 => ?_)
              · replace hF := ifT c_7 hF
                refine lv_iconst (v := -1) hx hb dX7_about_88 (by decide) ?_
                exact hret ((-1 : Int32), ()) H locs ls _ hF hP hD hS dX7_about_89
              · replace hF := ifF c_7 hF
                refine lv_aload_n hx hb dX7_about_69 rfl (lv_at hl 0 rfl) ?_
                refine va_get (D := D) (ci := 7) (C := RX7) (T := TX7) (N := 45) hx hb ha inAX7 hown hK hP 0 rfl rfl 19 (by decide) (ha _ w_4_53) (fun _ h9 => h9) rfl dX7_about_70 ?_
                refine lv_iconst (v := 4) hx hb dX7_about_73 (by decide) ?_
                refine lv_aload_n hx hb dX7_about_74 rfl (lv_at hl 0 rfl) ?_
                refine va_get (D := D) (ci := 7) (C := RX7) (T := TX7) (N := 45) hx hb ha inAX7 hown hK hP 0 rfl rfl 27 (by decide) (ha _ w_4_61) (fun _ h9 => h9) rfl dX7_about_75 ?_
                refine lv_imul hx hb dX7_about_78 ?_
                refine lv_iload_n hx hb dX7_about_79 rfl (lv_at hl 1 rfl) ?_
                refine lv_iadd hx hb dX7_about_80 ?_
                refine lv_bipush (v := 10) hx hb dX7_about_81 (by decide) ?_
                refine lv_isub hx hb dX7_about_83 ?_
                replace hF := ckP hN hF
                obtain ⟨c_8, hF⟩ := hF
                refine ld_i hx hb hK hP 1 rfl c_8 dX7_about_84 ?_
                refine lv_goto (tgt := 89) hx hb dX7_about_85 (by decide) ?_
                exact hret ((a_gradeMany (((((4 : Int32) * v_bank) + z1) - (10 : Int32))).toNatClampNeg), ()) H locs ls _ hF hP hD hS dX7_about_89
  rw [hH, hlo] at goal
  exact goal
theorem dX7_feed_0 : decode cX7_feed 0 = .ok (.aload_n 0, 1) := by decide +kernel
theorem dX7_feed_1 : decode cX7_feed 1 = .ok (.getfield 77, 3) := by decide +kernel
theorem dX7_feed_4 : decode cX7_feed 4 = .ok (.bipush 20, 2) := by decide +kernel
theorem dX7_feed_6 : decode cX7_feed 6 = .ok (.iadd, 1) := by decide +kernel
theorem dX7_feed_7 : decode cX7_feed 7 = .ok (.sipush 1200, 3) := by decide +kernel
theorem dX7_feed_10 : decode cX7_feed 10 = .ok (.if_icmp .le 5, 3) := by decide +kernel
theorem dX7_feed_13 : decode cX7_feed 13 = .ok (.iconst (-1), 1) := by decide +kernel
theorem dX7_feed_14 : decode cX7_feed 14 = .ok (.ireturn, 1) := by decide +kernel
theorem dX7_feed_15 : decode cX7_feed 15 = .ok (.iconst 0, 1) := by decide +kernel
theorem dX7_feed_16 : decode cX7_feed 16 = .ok (.istore 6, 2) := by decide +kernel
theorem dX7_feed_18 : decode cX7_feed 18 = .ok (.iload 6, 2) := by decide +kernel
theorem dX7_feed_20 : decode cX7_feed 20 = .ok (.bipush 20, 2) := by decide +kernel
theorem dX7_feed_22 : decode cX7_feed 22 = .ok (.if_icmp .ge 83, 3) := by decide +kernel
theorem dX7_feed_25 : decode cX7_feed 25 = .ok (.iload 6, 2) := by decide +kernel
theorem dX7_feed_27 : decode cX7_feed 27 = .ok (.iconst 4, 1) := by decide +kernel
theorem dX7_feed_28 : decode cX7_feed 28 = .ok (.if_icmp .ge 7, 3) := by decide +kernel
theorem dX7_feed_31 : decode cX7_feed 31 = .ok (.iload_n 1, 1) := by decide +kernel
theorem dX7_feed_32 : decode cX7_feed 32 = .ok (.goto 39, 3) := by decide +kernel
theorem dX7_feed_35 : decode cX7_feed 35 = .ok (.iload 6, 2) := by decide +kernel
theorem dX7_feed_37 : decode cX7_feed 37 = .ok (.bipush 8, 2) := by decide +kernel
theorem dX7_feed_39 : decode cX7_feed 39 = .ok (.if_icmp .ge 7, 3) := by decide +kernel
theorem dX7_feed_42 : decode cX7_feed 42 = .ok (.iload_n 2, 1) := by decide +kernel
theorem dX7_feed_43 : decode cX7_feed 43 = .ok (.goto 28, 3) := by decide +kernel
theorem dX7_feed_46 : decode cX7_feed 46 = .ok (.iload 6, 2) := by decide +kernel
theorem dX7_feed_48 : decode cX7_feed 48 = .ok (.bipush 12, 2) := by decide +kernel
theorem dX7_feed_50 : decode cX7_feed 50 = .ok (.if_icmp .ge 7, 3) := by decide +kernel
theorem dX7_feed_53 : decode cX7_feed 53 = .ok (.iload_n 3, 1) := by decide +kernel
theorem dX7_feed_54 : decode cX7_feed 54 = .ok (.goto 17, 3) := by decide +kernel
theorem dX7_feed_57 : decode cX7_feed 57 = .ok (.iload 6, 2) := by decide +kernel
theorem dX7_feed_59 : decode cX7_feed 59 = .ok (.bipush 16, 2) := by decide +kernel
theorem dX7_feed_61 : decode cX7_feed 61 = .ok (.if_icmp .ge 8, 3) := by decide +kernel
theorem dX7_feed_64 : decode cX7_feed 64 = .ok (.iload 4, 2) := by decide +kernel
theorem dX7_feed_66 : decode cX7_feed 66 = .ok (.goto 5, 3) := by decide +kernel
theorem dX7_feed_69 : decode cX7_feed 69 = .ok (.iload 5, 2) := by decide +kernel
theorem dX7_feed_71 : decode cX7_feed 71 = .ok (.istore 7, 2) := by decide +kernel
theorem dX7_feed_73 : decode cX7_feed 73 = .ok (.aload_n 0, 1) := by decide +kernel
theorem dX7_feed_74 : decode cX7_feed 74 = .ok (.getfield 80, 3) := by decide +kernel
theorem dX7_feed_77 : decode cX7_feed 77 = .ok (.aload_n 0, 1) := by decide +kernel
theorem dX7_feed_78 : decode cX7_feed 78 = .ok (.getfield 77, 3) := by decide +kernel
theorem dX7_feed_81 : decode cX7_feed 81 = .ok (.iload 6, 2) := by decide +kernel
theorem dX7_feed_83 : decode cX7_feed 83 = .ok (.iadd, 1) := by decide +kernel
theorem dX7_feed_84 : decode cX7_feed 84 = .ok (.iload 7, 2) := by decide +kernel
theorem dX7_feed_86 : decode cX7_feed 86 = .ok (.bipush 24, 2) := by decide +kernel
theorem dX7_feed_88 : decode cX7_feed 88 = .ok (.bipush 8, 2) := by decide +kernel
theorem dX7_feed_90 : decode cX7_feed 90 = .ok (.iload 6, 2) := by decide +kernel
theorem dX7_feed_92 : decode cX7_feed 92 = .ok (.iconst 3, 1) := by decide +kernel
theorem dX7_feed_93 : decode cX7_feed 93 = .ok (.iand, 1) := by decide +kernel
theorem dX7_feed_94 : decode cX7_feed 94 = .ok (.imul, 1) := by decide +kernel
theorem dX7_feed_95 : decode cX7_feed 95 = .ok (.isub, 1) := by decide +kernel
theorem dX7_feed_96 : decode cX7_feed 96 = .ok (.ishr, 1) := by decide +kernel
theorem dX7_feed_97 : decode cX7_feed 97 = .ok (.i2b, 1) := by decide +kernel
theorem dX7_feed_98 : decode cX7_feed 98 = .ok (.bastore, 1) := by decide +kernel
theorem dX7_feed_99 : decode cX7_feed 99 = .ok (.iinc 6 1, 3) := by decide +kernel
theorem dX7_feed_102 : decode cX7_feed 102 = .ok (.goto (-84), 3) := by decide +kernel
theorem dX7_feed_105 : decode cX7_feed 105 = .ok (.aload_n 0, 1) := by decide +kernel
theorem dX7_feed_106 : decode cX7_feed 106 = .ok (.dup, 1) := by decide +kernel
theorem dX7_feed_107 : decode cX7_feed 107 = .ok (.getfield 77, 3) := by decide +kernel
theorem dX7_feed_110 : decode cX7_feed 110 = .ok (.bipush 20, 2) := by decide +kernel
theorem dX7_feed_112 : decode cX7_feed 112 = .ok (.iadd, 1) := by decide +kernel
theorem dX7_feed_113 : decode cX7_feed 113 = .ok (.putfield 77, 3) := by decide +kernel
theorem dX7_feed_116 : decode cX7_feed 116 = .ok (.aload_n 0, 1) := by decide +kernel
theorem dX7_feed_117 : decode cX7_feed 117 = .ok (.getfield 77, 3) := by decide +kernel
theorem dX7_feed_120 : decode cX7_feed 120 = .ok (.ireturn, 1) := by decide +kernel
abbrev rmX7_feed : Room := { frames := 0, cells := 0, slots := 0, locals := 0 }
theorem cb_X7_feed : CBn yX7_feed 5 := ⟨by decide +kernel, by decide +kernel, by decide +kernel⟩
def FX7_feed_71 (n : Nat) (z1 : Int32) (z2 : Int32) (z3 : Int32) (z4 : Int32) (z5 : Int32) (k18 : Int32 → (Nat → Int32) → Int32 → Int32 → Int32 → Int32 → Int32 → Int32 → Option (Int32 × Int32 × (Nat → Int32))) (v_taped : Int32) (a_tape : Nat → Int32) (x1 : Int32) (x2 : Int32) (x3 : Int32) (x4 : Int32) (x5 : Int32) (x6 : Int32) (y0 : Int32) : Option (Int32 × Int32 × (Nat → Int32)) := lt1 (((y0 >>> (((24 : Int32) - ((8 : Int32) * (x6 &&& (3 : Int32)))) &&& 31))).toInt8.toInt32) (fun x_8 => if ¬ ((v_taped + x6) < 0 ∨ 1220 ≤ ((v_taped + x6)).toNatClampNeg) then (lt1 (upd a_tape ((v_taped + x6)).toNatClampNeg (vp_nar .byte x_8)) (fun f_10 => lt1 (x6 + (1 : Int32)) (fun x_11 => k18 v_taped f_10 x1 x2 x3 x4 x5 x_11))) else none)
def FX7_feed_18 (n : Nat) (z1 : Int32) (z2 : Int32) (z3 : Int32) (z4 : Int32) (z5 : Int32) (k18 : Int32 → (Nat → Int32) → Int32 → Int32 → Int32 → Int32 → Int32 → Int32 → Option (Int32 × Int32 × (Nat → Int32))) (v_taped : Int32) (a_tape : Nat → Int32) (x1 : Int32) (x2 : Int32) (x3 : Int32) (x4 : Int32) (x5 : Int32) (x6 : Int32) : Option (Int32 × Int32 × (Nat → Int32)) := if (20 : Int32) ≤ x6 then (lt1 (v_taped + (20 : Int32)) (fun x_3 => some (x_3, x_3, a_tape))) else (if (4 : Int32) ≤ x6 then (if (8 : Int32) ≤ x6 then (if (12 : Int32) ≤ x6 then (if (16 : Int32) ≤ x6 then (FX7_feed_71 n z1 z2 z3 z4 z5 k18 v_taped a_tape x1 x2 x3 x4 x5 x6 x5) else (FX7_feed_71 n z1 z2 z3 z4 z5 k18 v_taped a_tape x1 x2 x3 x4 x5 x6 x4)) else (FX7_feed_71 n z1 z2 z3 z4 z5 k18 v_taped a_tape x1 x2 x3 x4 x5 x6 x3)) else (FX7_feed_71 n z1 z2 z3 z4 z5 k18 v_taped a_tape x1 x2 x3 x4 x5 x6 x2)) else (FX7_feed_71 n z1 z2 z3 z4 z5 k18 v_taped a_tape x1 x2 x3 x4 x5 x6 x1))
def FX7_feed_18L (n : Nat) (z1 : Int32) (z2 : Int32) (z3 : Int32) (z4 : Int32) (z5 : Int32) (j : Nat) : Int32 → (Nat → Int32) → Int32 → Int32 → Int32 → Int32 → Int32 → Int32 → Option (Int32 × Int32 × (Nat → Int32)) := lpR (FX7_feed_18 n z1 z2 z3 z4 z5) (fun _ _ _ _ _ _ _ _ => none) j
def FX7_feed (n : Nat) (v_taped : Int32) (a_tape : Nat → Int32) (z1 : Int32) (z2 : Int32) (z3 : Int32) (z4 : Int32) (z5 : Int32) : Option (Int32 × Int32 × (Nat → Int32)) := if (v_taped + (20 : Int32)) ≤ (1200 : Int32) then (FX7_feed_18L n z1 z2 z3 z4 z5 n v_taped a_tape z1 z2 z3 z4 z5 (0 : Int32)) else (some ((-1 : Int32), v_taped, a_tape))
set_option maxHeartbeats 4000000 in
set_option maxRecDepth 100000 in
theorem kX7_feed (l : Launch) (D : va_G) (cB cI cJ cZ : ClassId) (rz n sz : Nat) (h_t : Nat) (h_tape : Nat) (h_text : Nat) (h_uName : Nat) (h_outName : Nat) (h_setName : Nat) (h_unitMany : Nat) (h_yesTo : Nat) (h_noTo : Nat) (h_settingMany : Nat) (h_shares : Nat) (h_gradeMany : Nat) (h_gKind : Nat) (h_gPurity : Nat) (h_gPrice : Nat) (h_outPlace : Nat) (h_setPlace : Nat) (h_setShare : Nat) (h_chosen : Nat) (h_rows : Nat) (h_parts : Nat) (h_lTown : Nat) (h_lWeight : Nat) (h_lSampled : Nat) (h_hand : Nat) (h_isStruck : Nat) (h_all : Nat) (h_bestChosen : Nat) (h_gets : Nat) (h_rests : Nat) (v_taped : Int32) (v_size : Int32) (v_faultKind : Int32) (v_faultPlace : Int32) (v_at : Int32) (v_end : Int32) (v_token : Int32) (v_number : Int32) (v_name : Int64) (v_bank : Int32) (v_rb : Int32) (v_sets : Int32) (v_missing : Int32) (v_whole : Int64) (v_lorries : Int32) (v_cost : Int32) (a_tape : Nat → Int32) (z1 : Int32) (z2 : Int32) (z3 : Int32) (z4 : Int32) (z5 : Int32) (hN : FX7_feed n v_taped a_tape z1 z2 z3 z4 z5 ≠ none) : Met l yX7_feed (Cond.code yX7_feed cX7_feed 8 (some .int) :: AL) rmX7_feed (PW D cB cI cJ cZ rz [.ref h_t, .int z1, .int z2, .int z3, .int z4, .int z5] [(h_t, .inr (7, [.ref h_tape, .ref h_text, .int v_taped, .int v_size, .int v_faultKind, .int v_faultPlace, .int v_at, .int v_end, .int v_token, .int v_number, .long v_name, .ref h_uName, .ref h_outName, .ref h_setName, .ref h_unitMany, .ref h_yesTo, .ref h_noTo, .ref h_settingMany, .ref h_shares, .ref h_gradeMany, .ref h_gKind, .ref h_gPurity, .ref h_gPrice, .ref h_outPlace, .ref h_setPlace, .ref h_setShare, .ref h_chosen, .int v_bank, .int v_rb, .int v_sets, .int v_missing, .ref h_rows, .ref h_parts, .long v_whole, .ref h_lTown, .ref h_lWeight, .ref h_lSampled, .ref h_hand, .ref h_isStruck, .int v_lorries, .int v_cost, .ref h_all, .ref h_bestChosen, .ref h_gets, .ref h_rests])), (h_tape, .inl (cB, 1220, .inl a_tape))] sz) (QI D (FX7_feed n v_taped a_tape z1 z2 z3 z4 z5) (fun u => [(h_t, .inr (7, [.ref h_tape, .ref h_text, .int u.2.1, .int v_size, .int v_faultKind, .int v_faultPlace, .int v_at, .int v_end, .int v_token, .int v_number, .long v_name, .ref h_uName, .ref h_outName, .ref h_setName, .ref h_unitMany, .ref h_yesTo, .ref h_noTo, .ref h_settingMany, .ref h_shares, .ref h_gradeMany, .ref h_gKind, .ref h_gPurity, .ref h_gPrice, .ref h_outPlace, .ref h_setPlace, .ref h_setShare, .ref h_chosen, .int v_bank, .int v_rb, .int v_sets, .int v_missing, .ref h_rows, .ref h_parts, .long v_whole, .ref h_lTown, .ref h_lWeight, .ref h_lSampled, .ref h_hand, .ref h_isStruck, .int v_lorries, .int v_cost, .ref h_all, .ref h_bestChosen, .ref h_gets, .ref h_rests])), (h_tape, .inl (cB, 1220, .inl u.2.2))]) (va_A [(h_t, .inr (7, [.ref h_tape, .ref h_text, .int v_taped, .int v_size, .int v_faultKind, .int v_faultPlace, .int v_at, .int v_end, .int v_token, .int v_number, .long v_name, .ref h_uName, .ref h_outName, .ref h_setName, .ref h_unitMany, .ref h_yesTo, .ref h_noTo, .ref h_settingMany, .ref h_shares, .ref h_gradeMany, .ref h_gKind, .ref h_gPurity, .ref h_gPrice, .ref h_outPlace, .ref h_setPlace, .ref h_setShare, .ref h_chosen, .int v_bank, .int v_rb, .int v_sets, .int v_missing, .ref h_rows, .ref h_parts, .long v_whole, .ref h_lTown, .ref h_lWeight, .ref h_lSampled, .ref h_hand, .ref h_isStruck, .int v_lorries, .int v_cost, .ref h_all, .ref h_bestChosen, .ref h_gets, .ref h_rests])), (h_tape, .inl (cB, 1220, .inl a_tape))] sz)) 0 0 (va_A [(h_t, .inr (7, [.ref h_tape, .ref h_text, .int v_taped, .int v_size, .int v_faultKind, .int v_faultPlace, .int v_at, .int v_end, .int v_token, .int v_number, .long v_name, .ref h_uName, .ref h_outName, .ref h_setName, .ref h_unitMany, .ref h_yesTo, .ref h_noTo, .ref h_settingMany, .ref h_shares, .ref h_gradeMany, .ref h_gKind, .ref h_gPurity, .ref h_gPrice, .ref h_outPlace, .ref h_setPlace, .ref h_setShare, .ref h_chosen, .int v_bank, .int v_rb, .int v_sets, .int v_missing, .ref h_rows, .ref h_parts, .long v_whole, .ref h_lTown, .ref h_lWeight, .ref h_lSampled, .ref h_hand, .ref h_isStruck, .int v_lorries, .int v_cost, .ref h_all, .ref h_bestChosen, .ref h_gets, .ref h_rests])), (h_tape, .inl (cB, 1220, .inl a_tape))] sz) := by
  obtain ⟨O, hF⟩ : ∃ O, FX7_feed n v_taped a_tape z1 z2 z3 z4 z5 = O := ⟨_, rfl⟩
  rw [hF] at hN ⊢
  refine enterI (cc := cX7_feed) (nL := 8) (by decide) (Nat.le_of_ble_eq_true rfl) ?_
  intro p e s m below meth c A Q X hA hE hnm hsz hP hD hS hret ls hl
  obtain ⟨hx, hb, hml, hown0, ha⟩ := id X
  have hown : s.vm.findClass RX7 = some m.cls := hown0
  have hK := hE.1
  have hl : lv_has ls 8 [(0, .ref h_t), (1, .int z1), (2, .int z2), (3, .int z3), (4, .int z4), (5, .int z5)] := hl
  have hX : CallFix p m c cX7_feed 8 s ([.ref h_t, .int z1, .int z2, .int z3, .int z4, .int z5] : List Value).toArray AL RX7 := X
  have X := hX
  have L71 : ∀ (k18 : Int32 → (Nat → Int32) → Int32 → Int32 → Int32 → Int32 → Int32 → Int32 → Option (Int32 × Int32 × (Nat → Int32))) (ih18 : ∀ (v_taped : Int32) (a_tape : Nat → Int32) (x1 : Int32) (x2 : Int32) (x3 : Int32) (x4 : Int32) (x5 : Int32) (x6 : Int32) (H : Heap) (locs : List Loc) (ls : Array Slot), k18 v_taped a_tape x1 x2 x3 x4 x5 x6 = O → va_P D classes [(h_t, .inr (7, [.ref h_tape, .ref h_text, .int v_taped, .int v_size, .int v_faultKind, .int v_faultPlace, .int v_at, .int v_end, .int v_token, .int v_number, .long v_name, .ref h_uName, .ref h_outName, .ref h_setName, .ref h_unitMany, .ref h_yesTo, .ref h_noTo, .ref h_settingMany, .ref h_shares, .ref h_gradeMany, .ref h_gKind, .ref h_gPurity, .ref h_gPrice, .ref h_outPlace, .ref h_setPlace, .ref h_setShare, .ref h_chosen, .int v_bank, .int v_rb, .int v_sets, .int v_missing, .ref h_rows, .ref h_parts, .long v_whole, .ref h_lTown, .ref h_lWeight, .ref h_lSampled, .ref h_hand, .ref h_isStruck, .int v_lorries, .int v_cost, .ref h_all, .ref h_bestChosen, .ref h_gets, .ref h_rests])), (h_tape, .inl (cB, 1220, .inl a_tape))] H → va_D A [(h_t, .inr (7, [.ref h_tape, .ref h_text, .int v_taped, .int v_size, .int v_faultKind, .int v_faultPlace, .int v_at, .int v_end, .int v_token, .int v_number, .long v_name, .ref h_uName, .ref h_outName, .ref h_setName, .ref h_unitMany, .ref h_yesTo, .ref h_noTo, .ref h_settingMany, .ref h_shares, .ref h_gradeMany, .ref h_gKind, .ref h_gPurity, .ref h_gPrice, .ref h_outPlace, .ref h_setPlace, .ref h_setShare, .ref h_chosen, .int v_bank, .int v_rb, .int v_sets, .int v_missing, .ref h_rows, .ref h_parts, .long v_whole, .ref h_lTown, .ref h_lWeight, .ref h_lSampled, .ref h_hand, .ref h_isStruck, .int v_lorries, .int v_cost, .ref h_all, .ref h_bestChosen, .ref h_gets, .ref h_rests])), (h_tape, .inl (cB, 1220, .inl a_tape))] → va_S A s.heap H locs → lv_has ls 8 [(0, .ref h_t), (1, .int x1), (2, .int x2), (3, .int x3), (4, .int x4), (5, .int x5), (6, .int x6)] → W p l e rmX7_feed s m ([.ref h_t, .int z1, .int z2, .int z3, .int z4, .int z5] : List Value).toArray below meth c H locs 0 0 Q (F0 m 18 ls [])), ∀ (v_taped : Int32) (a_tape : Nat → Int32) (x1 : Int32) (x2 : Int32) (x3 : Int32) (x4 : Int32) (x5 : Int32) (x6 : Int32) (y0 : Int32) (H : Heap) (locs : List Loc) (ls : Array Slot), FX7_feed_71 n z1 z2 z3 z4 z5 k18 v_taped a_tape x1 x2 x3 x4 x5 x6 y0 = O → va_P D classes [(h_t, .inr (7, [.ref h_tape, .ref h_text, .int v_taped, .int v_size, .int v_faultKind, .int v_faultPlace, .int v_at, .int v_end, .int v_token, .int v_number, .long v_name, .ref h_uName, .ref h_outName, .ref h_setName, .ref h_unitMany, .ref h_yesTo, .ref h_noTo, .ref h_settingMany, .ref h_shares, .ref h_gradeMany, .ref h_gKind, .ref h_gPurity, .ref h_gPrice, .ref h_outPlace, .ref h_setPlace, .ref h_setShare, .ref h_chosen, .int v_bank, .int v_rb, .int v_sets, .int v_missing, .ref h_rows, .ref h_parts, .long v_whole, .ref h_lTown, .ref h_lWeight, .ref h_lSampled, .ref h_hand, .ref h_isStruck, .int v_lorries, .int v_cost, .ref h_all, .ref h_bestChosen, .ref h_gets, .ref h_rests])), (h_tape, .inl (cB, 1220, .inl a_tape))] H → va_D A [(h_t, .inr (7, [.ref h_tape, .ref h_text, .int v_taped, .int v_size, .int v_faultKind, .int v_faultPlace, .int v_at, .int v_end, .int v_token, .int v_number, .long v_name, .ref h_uName, .ref h_outName, .ref h_setName, .ref h_unitMany, .ref h_yesTo, .ref h_noTo, .ref h_settingMany, .ref h_shares, .ref h_gradeMany, .ref h_gKind, .ref h_gPurity, .ref h_gPrice, .ref h_outPlace, .ref h_setPlace, .ref h_setShare, .ref h_chosen, .int v_bank, .int v_rb, .int v_sets, .int v_missing, .ref h_rows, .ref h_parts, .long v_whole, .ref h_lTown, .ref h_lWeight, .ref h_lSampled, .ref h_hand, .ref h_isStruck, .int v_lorries, .int v_cost, .ref h_all, .ref h_bestChosen, .ref h_gets, .ref h_rests])), (h_tape, .inl (cB, 1220, .inl a_tape))] → va_S A s.heap H locs → lv_has ls 8 [(0, .ref h_t), (1, .int x1), (2, .int x2), (3, .int x3), (4, .int x4), (5, .int x5), (6, .int x6)] → W p l e rmX7_feed s m ([.ref h_t, .int z1, .int z2, .int z3, .int z4, .int z5] : List Value).toArray below meth c H locs 0 0 Q (F0 m 71 ls [.int y0]) := by
    intro k18 ih18 v_taped a_tape x1 x2 x3 x4 x5 x6 y0 H locs ls hF hP hD hS hl
    unfold FX7_feed_71 at hF
    refine lv_istore (lv' := [(7, .int y0), (0, .ref h_t), (1, .int x1), (2, .int x2), (3, .int x3), (4, .int x4), (5, .int x5), (6, .int x6)]) hx hb dX7_feed_71 hl (by decide) rfl (fun ls hl => ?_)
    refine lv_aload_n hx hb dX7_feed_73 rfl (lv_at hl 1 rfl) ?_
    refine va_get (D := D) (ci := 7) (C := RX7) (T := TX7) (N := 45) hx hb ha inAX7 hown hK hP 0 rfl rfl 0 (by decide) (ha _ w_4_34) (fun _ h9 => h9) rfl dX7_feed_74 ?_
    refine lv_aload_n hx hb dX7_feed_77 rfl (lv_at hl 1 rfl) ?_
    refine va_get (D := D) (ci := 7) (C := RX7) (T := TX7) (N := 45) hx hb ha inAX7 hown hK hP 0 rfl rfl 2 (by decide) (ha _ w_4_36) (fun _ h9 => h9) rfl dX7_feed_78 ?_
    refine lv_iload hx hb dX7_feed_81 (lv_at hl 7 rfl) ?_
    refine lv_iadd hx hb dX7_feed_83 ?_
    refine lv_iload hx hb dX7_feed_84 (lv_at hl 0 rfl) ?_
    refine lv_bipush (v := 24) hx hb dX7_feed_86 (by decide) ?_
    refine lv_bipush (v := 8) hx hb dX7_feed_88 (by decide) ?_
    refine lv_iload hx hb dX7_feed_90 (lv_at hl 7 rfl) ?_
    refine lv_iconst (v := 3) hx hb dX7_feed_92 (by decide) ?_
    refine lv_iand hx hb dX7_feed_93 ?_
    refine lv_imul hx hb dX7_feed_94 ?_
    refine lv_isub hx hb dX7_feed_95 ?_
    refine lv_ishr hx hb dX7_feed_96 ?_
    refine lv_i2b hx hb dX7_feed_97 rfl ?_
    refine lv_topi (fun x_8 ex_8 => ?_)
    replace hF := ltP ex_8 hF
    replace hF := ckP hN hF
    obtain ⟨c_9, hF⟩ := hF
    obtain ⟨f_10, ef_10⟩ : ∃ g : Nat → Int32, g = upd a_tape ((v_taped + x6)).toNatClampNeg (vp_nar .byte x_8) := ⟨_, rfl⟩
    replace hF := ltP ef_10 hF
    refine st_b (g := f_10) (W2 := [(h_t, .inr (7, [.ref h_tape, .ref h_text, .int v_taped, .int v_size, .int v_faultKind, .int v_faultPlace, .int v_at, .int v_end, .int v_token, .int v_number, .long v_name, .ref h_uName, .ref h_outName, .ref h_setName, .ref h_unitMany, .ref h_yesTo, .ref h_noTo, .ref h_settingMany, .ref h_shares, .ref h_gradeMany, .ref h_gKind, .ref h_gPurity, .ref h_gPrice, .ref h_outPlace, .ref h_setPlace, .ref h_setShare, .ref h_chosen, .int v_bank, .int v_rb, .int v_sets, .int v_missing, .ref h_rows, .ref h_parts, .long v_whole, .ref h_lTown, .ref h_lWeight, .ref h_lSampled, .ref h_hand, .ref h_isStruck, .int v_lorries, .int v_cost, .ref h_all, .ref h_bestChosen, .ref h_gets, .ref h_rests])), (h_tape, .inl (cB, 1220, .inl f_10))]) hx hb hK hP hD hS 1 rfl c_9 ef_10 dX7_feed_98 rfl (fun H locs hP hD hS => ?_)
    obtain ⟨x_11, ex_11⟩ : ∃ y : Int32, y = x6 + (1 : Int32) := ⟨_, rfl⟩
    replace hF := ltP ex_11 hF
    refine lv_iinc (v := x_11) (lv' := [(6, .int x_11), (7, .int y0), (0, .ref h_t), (1, .int x1), (2, .int x2), (3, .int x3), (4, .int x4), (5, .int x5)]) hx hb dX7_feed_99 hl (k := 7) rfl (by rw [ex_11]; rfl) (by decide) rfl (fun ls hl => ?_)
    refine lv_goto (tgt := 18) hx hb dX7_feed_102 (by decide) ?_
    exact ih18 v_taped f_10 x1 x2 x3 x4 x5 x_11 H locs ls hF hP hD hS (lv_sub hl [2, 3, 4, 5, 6, 7, 0] rfl)
  have L18 : ∀ (k18 : Int32 → (Nat → Int32) → Int32 → Int32 → Int32 → Int32 → Int32 → Int32 → Option (Int32 × Int32 × (Nat → Int32))) (ih18 : ∀ (v_taped : Int32) (a_tape : Nat → Int32) (x1 : Int32) (x2 : Int32) (x3 : Int32) (x4 : Int32) (x5 : Int32) (x6 : Int32) (H : Heap) (locs : List Loc) (ls : Array Slot), k18 v_taped a_tape x1 x2 x3 x4 x5 x6 = O → va_P D classes [(h_t, .inr (7, [.ref h_tape, .ref h_text, .int v_taped, .int v_size, .int v_faultKind, .int v_faultPlace, .int v_at, .int v_end, .int v_token, .int v_number, .long v_name, .ref h_uName, .ref h_outName, .ref h_setName, .ref h_unitMany, .ref h_yesTo, .ref h_noTo, .ref h_settingMany, .ref h_shares, .ref h_gradeMany, .ref h_gKind, .ref h_gPurity, .ref h_gPrice, .ref h_outPlace, .ref h_setPlace, .ref h_setShare, .ref h_chosen, .int v_bank, .int v_rb, .int v_sets, .int v_missing, .ref h_rows, .ref h_parts, .long v_whole, .ref h_lTown, .ref h_lWeight, .ref h_lSampled, .ref h_hand, .ref h_isStruck, .int v_lorries, .int v_cost, .ref h_all, .ref h_bestChosen, .ref h_gets, .ref h_rests])), (h_tape, .inl (cB, 1220, .inl a_tape))] H → va_D A [(h_t, .inr (7, [.ref h_tape, .ref h_text, .int v_taped, .int v_size, .int v_faultKind, .int v_faultPlace, .int v_at, .int v_end, .int v_token, .int v_number, .long v_name, .ref h_uName, .ref h_outName, .ref h_setName, .ref h_unitMany, .ref h_yesTo, .ref h_noTo, .ref h_settingMany, .ref h_shares, .ref h_gradeMany, .ref h_gKind, .ref h_gPurity, .ref h_gPrice, .ref h_outPlace, .ref h_setPlace, .ref h_setShare, .ref h_chosen, .int v_bank, .int v_rb, .int v_sets, .int v_missing, .ref h_rows, .ref h_parts, .long v_whole, .ref h_lTown, .ref h_lWeight, .ref h_lSampled, .ref h_hand, .ref h_isStruck, .int v_lorries, .int v_cost, .ref h_all, .ref h_bestChosen, .ref h_gets, .ref h_rests])), (h_tape, .inl (cB, 1220, .inl a_tape))] → va_S A s.heap H locs → lv_has ls 8 [(0, .ref h_t), (1, .int x1), (2, .int x2), (3, .int x3), (4, .int x4), (5, .int x5), (6, .int x6)] → W p l e rmX7_feed s m ([.ref h_t, .int z1, .int z2, .int z3, .int z4, .int z5] : List Value).toArray below meth c H locs 0 0 Q (F0 m 18 ls [])), ∀ (v_taped : Int32) (a_tape : Nat → Int32) (x1 : Int32) (x2 : Int32) (x3 : Int32) (x4 : Int32) (x5 : Int32) (x6 : Int32) (H : Heap) (locs : List Loc) (ls : Array Slot), FX7_feed_18 n z1 z2 z3 z4 z5 k18 v_taped a_tape x1 x2 x3 x4 x5 x6 = O → va_P D classes [(h_t, .inr (7, [.ref h_tape, .ref h_text, .int v_taped, .int v_size, .int v_faultKind, .int v_faultPlace, .int v_at, .int v_end, .int v_token, .int v_number, .long v_name, .ref h_uName, .ref h_outName, .ref h_setName, .ref h_unitMany, .ref h_yesTo, .ref h_noTo, .ref h_settingMany, .ref h_shares, .ref h_gradeMany, .ref h_gKind, .ref h_gPurity, .ref h_gPrice, .ref h_outPlace, .ref h_setPlace, .ref h_setShare, .ref h_chosen, .int v_bank, .int v_rb, .int v_sets, .int v_missing, .ref h_rows, .ref h_parts, .long v_whole, .ref h_lTown, .ref h_lWeight, .ref h_lSampled, .ref h_hand, .ref h_isStruck, .int v_lorries, .int v_cost, .ref h_all, .ref h_bestChosen, .ref h_gets, .ref h_rests])), (h_tape, .inl (cB, 1220, .inl a_tape))] H → va_D A [(h_t, .inr (7, [.ref h_tape, .ref h_text, .int v_taped, .int v_size, .int v_faultKind, .int v_faultPlace, .int v_at, .int v_end, .int v_token, .int v_number, .long v_name, .ref h_uName, .ref h_outName, .ref h_setName, .ref h_unitMany, .ref h_yesTo, .ref h_noTo, .ref h_settingMany, .ref h_shares, .ref h_gradeMany, .ref h_gKind, .ref h_gPurity, .ref h_gPrice, .ref h_outPlace, .ref h_setPlace, .ref h_setShare, .ref h_chosen, .int v_bank, .int v_rb, .int v_sets, .int v_missing, .ref h_rows, .ref h_parts, .long v_whole, .ref h_lTown, .ref h_lWeight, .ref h_lSampled, .ref h_hand, .ref h_isStruck, .int v_lorries, .int v_cost, .ref h_all, .ref h_bestChosen, .ref h_gets, .ref h_rests])), (h_tape, .inl (cB, 1220, .inl a_tape))] → va_S A s.heap H locs → lv_has ls 8 [(0, .ref h_t), (1, .int x1), (2, .int x2), (3, .int x3), (4, .int x4), (5, .int x5), (6, .int x6)] → W p l e rmX7_feed s m ([.ref h_t, .int z1, .int z2, .int z3, .int z4, .int z5] : List Value).toArray below meth c H locs 0 0 Q (F0 m 18 ls []) := by
    intro k18 ih18 v_taped a_tape x1 x2 x3 x4 x5 x6 H locs ls hF hP hD hS hl
    unfold FX7_feed_18 at hF
    refine lv_iload hx hb dX7_feed_18 (lv_at hl 6 rfl) ?_
    refine lv_bipush (v := 20) hx hb dX7_feed_20 (by decide) ?_
    refine lv_icmp_ge (tgt := 105) hx hb dX7_feed_22 (by decide) (fun c_2 => ?_) (fun c_2 => ?_)
    · replace hF := ifT c_2 hF
      refine lv_aload_n hx hb dX7_feed_105 rfl (lv_at hl 0 rfl) ?_
      refine lv_dup hx hb dX7_feed_106 rfl ?_
      refine va_get (D := D) (ci := 7) (C := RX7) (T := TX7) (N := 45) hx hb ha inAX7 hown hK hP 0 rfl rfl 2 (by decide) (ha _ w_4_36) (fun _ h9 => h9) rfl dX7_feed_107 ?_
      refine lv_bipush (v := 20) hx hb dX7_feed_110 (by decide) ?_
      refine lv_iadd hx hb dX7_feed_112 ?_
      refine lv_topi (fun x_3 ex_3 => ?_)
      replace hF := ltP ex_3 hF
      refine pt (C := RX7) (T := TX7) (N := 45) (ci := 7) (v := .int x_3) (W2 := [(h_t, .inr (7, [.ref h_tape, .ref h_text, .int x_3, .int v_size, .int v_faultKind, .int v_faultPlace, .int v_at, .int v_end, .int v_token, .int v_number, .long v_name, .ref h_uName, .ref h_outName, .ref h_setName, .ref h_unitMany, .ref h_yesTo, .ref h_noTo, .ref h_settingMany, .ref h_shares, .ref h_gradeMany, .ref h_gKind, .ref h_gPurity, .ref h_gPrice, .ref h_outPlace, .ref h_setPlace, .ref h_setShare, .ref h_chosen, .int v_bank, .int v_rb, .int v_sets, .int v_missing, .ref h_rows, .ref h_parts, .long v_whole, .ref h_lTown, .ref h_lWeight, .ref h_lSampled, .ref h_hand, .ref h_isStruck, .int v_lorries, .int v_cost, .ref h_all, .ref h_bestChosen, .ref h_gets, .ref h_rests])), (h_tape, .inl (cB, 1220, .inl a_tape))]) hx hb ha inAX7 tyX7 tyX7_ok nmX7 hown hK hP hD hS 0 rfl rfl 2 (by decide) (ha _ w_4_36) rfl rfl rfl rfl (Nat.le_of_ble_eq_true rfl) dX7_feed_113 rfl (fun H locs hP hD hS => ?_)
      refine lv_aload_n hx hb dX7_feed_116 rfl (lv_at hl 0 rfl) ?_
      refine va_get (D := D) (ci := 7) (C := RX7) (T := TX7) (N := 45) hx hb ha inAX7 hown hK hP 0 rfl rfl 2 (by decide) (ha _ w_4_36) (fun _ h9 => h9) rfl dX7_feed_117 ?_
      exact hret (x_3, x_3, a_tape) H locs ls _ hF hP hD hS dX7_feed_120
    · replace hF := ifF c_2 hF
      refine lv_iload hx hb dX7_feed_25 (lv_at hl 6 rfl) ?_
      refine lv_iconst (v := 4) hx hb dX7_feed_27 (by decide) ?_
      refine lv_icmp_ge (tgt := 35) hx hb dX7_feed_28 (by decide) (fun c_4 => ?_) (fun c_4 => ?_)
      · replace hF := ifT c_4 hF
        refine lv_iload hx hb dX7_feed_35 (lv_at hl 6 rfl) ?_
        refine lv_bipush (v := 8) hx hb dX7_feed_37 (by decide) ?_
        refine lv_icmp_ge (tgt := 46) hx hb dX7_feed_39 (by decide) (fun c_5 => ?_) (fun c_5 => ?_)
        · replace hF := ifT c_5 hF
          refine lv_iload hx hb dX7_feed_46 (lv_at hl 6 rfl) ?_
          refine lv_bipush (v := 12) hx hb dX7_feed_48 (by decide) ?_
          refine lv_icmp_ge (tgt := 57) hx hb dX7_feed_50 (by decide) (fun c_6 => ?_) (fun c_6 => ?_)
          · replace hF := ifT c_6 hF
            refine lv_iload hx hb dX7_feed_57 (lv_at hl 6 rfl) ?_
            refine lv_bipush (v := 16) hx hb dX7_feed_59 (by decide) ?_
            refine lv_icmp_ge (tgt := 69) hx hb dX7_feed_61 (by decide) (fun c_7 => ?_) (fun c_7 => ?_)
            · replace hF := ifT c_7 hF
              refine lv_iload hx hb dX7_feed_69 (lv_at hl 5 rfl) ?_
              exact L71 k18 ih18 v_taped a_tape x1 x2 x3 x4 x5 x6 x5 H locs ls hF hP hD hS (lv_sub hl [0, 1, 2, 3, 4, 5, 6] rfl)
            · replace hF := ifF c_7 hF
              refine lv_iload hx hb dX7_feed_64 (lv_at hl 4 rfl) ?_
              refine lv_goto (tgt := 71) hx hb dX7_feed_66 (by decide) ?_
              exact L71 k18 ih18 v_taped a_tape x1 x2 x3 x4 x5 x6 x4 H locs ls hF hP hD hS (lv_sub hl [0, 1, 2, 3, 4, 5, 6] rfl)
          · replace hF := ifF c_6 hF
            refine lv_iload_n hx hb dX7_feed_53 rfl (lv_at hl 3 rfl) ?_
            refine lv_goto (tgt := 71) hx hb dX7_feed_54 (by decide) ?_
            exact L71 k18 ih18 v_taped a_tape x1 x2 x3 x4 x5 x6 x3 H locs ls hF hP hD hS (lv_sub hl [0, 1, 2, 3, 4, 5, 6] rfl)
        · replace hF := ifF c_5 hF
          refine lv_iload_n hx hb dX7_feed_42 rfl (lv_at hl 2 rfl) ?_
          refine lv_goto (tgt := 71) hx hb dX7_feed_43 (by decide) ?_
          exact L71 k18 ih18 v_taped a_tape x1 x2 x3 x4 x5 x6 x2 H locs ls hF hP hD hS (lv_sub hl [0, 1, 2, 3, 4, 5, 6] rfl)
      · replace hF := ifF c_4 hF
        refine lv_iload_n hx hb dX7_feed_31 rfl (lv_at hl 1 rfl) ?_
        refine lv_goto (tgt := 71) hx hb dX7_feed_32 (by decide) ?_
        exact L71 k18 ih18 v_taped a_tape x1 x2 x3 x4 x5 x6 x1 H locs ls hF hP hD hS (lv_sub hl [0, 1, 2, 3, 4, 5, 6] rfl)
  have Lc18 : ∀ (j : Nat), ∀ (v_taped : Int32) (a_tape : Nat → Int32) (x1 : Int32) (x2 : Int32) (x3 : Int32) (x4 : Int32) (x5 : Int32) (x6 : Int32) (H : Heap) (locs : List Loc) (ls : Array Slot), FX7_feed_18L n z1 z2 z3 z4 z5 j v_taped a_tape x1 x2 x3 x4 x5 x6 = O → va_P D classes [(h_t, .inr (7, [.ref h_tape, .ref h_text, .int v_taped, .int v_size, .int v_faultKind, .int v_faultPlace, .int v_at, .int v_end, .int v_token, .int v_number, .long v_name, .ref h_uName, .ref h_outName, .ref h_setName, .ref h_unitMany, .ref h_yesTo, .ref h_noTo, .ref h_settingMany, .ref h_shares, .ref h_gradeMany, .ref h_gKind, .ref h_gPurity, .ref h_gPrice, .ref h_outPlace, .ref h_setPlace, .ref h_setShare, .ref h_chosen, .int v_bank, .int v_rb, .int v_sets, .int v_missing, .ref h_rows, .ref h_parts, .long v_whole, .ref h_lTown, .ref h_lWeight, .ref h_lSampled, .ref h_hand, .ref h_isStruck, .int v_lorries, .int v_cost, .ref h_all, .ref h_bestChosen, .ref h_gets, .ref h_rests])), (h_tape, .inl (cB, 1220, .inl a_tape))] H → va_D A [(h_t, .inr (7, [.ref h_tape, .ref h_text, .int v_taped, .int v_size, .int v_faultKind, .int v_faultPlace, .int v_at, .int v_end, .int v_token, .int v_number, .long v_name, .ref h_uName, .ref h_outName, .ref h_setName, .ref h_unitMany, .ref h_yesTo, .ref h_noTo, .ref h_settingMany, .ref h_shares, .ref h_gradeMany, .ref h_gKind, .ref h_gPurity, .ref h_gPrice, .ref h_outPlace, .ref h_setPlace, .ref h_setShare, .ref h_chosen, .int v_bank, .int v_rb, .int v_sets, .int v_missing, .ref h_rows, .ref h_parts, .long v_whole, .ref h_lTown, .ref h_lWeight, .ref h_lSampled, .ref h_hand, .ref h_isStruck, .int v_lorries, .int v_cost, .ref h_all, .ref h_bestChosen, .ref h_gets, .ref h_rests])), (h_tape, .inl (cB, 1220, .inl a_tape))] → va_S A s.heap H locs → lv_has ls 8 [(0, .ref h_t), (1, .int x1), (2, .int x2), (3, .int x3), (4, .int x4), (5, .int x5), (6, .int x6)] → W p l e rmX7_feed s m ([.ref h_t, .int z1, .int z2, .int z3, .int z4, .int z5] : List Value).toArray below meth c H locs 0 0 Q (F0 m 18 ls []) := by
    intro j
    induction j with
    | zero => intro _ _ _ _ _ _ _ _ H locs ls hF; exact absurd hF.symm hN
    | succ j ih => exact L18 (FX7_feed_18L n z1 z2 z3 z4 z5 j) ih
  unfold FX7_feed at hF
  obtain ⟨H, hH⟩ : ∃ H, H = s.heap := ⟨_, rfl⟩
  obtain ⟨locs, hlo⟩ : ∃ locs : List Loc, locs = [] := ⟨_, rfl⟩
  have hS : va_S A s.heap H locs := by rw [hH, hlo]; exact hS
  rw [← hH] at hP
  have goal : W p l e rmX7_feed s m ([.ref h_t, .int z1, .int z2, .int z3, .int z4, .int z5] : List Value).toArray below meth c H locs 0 0 Q (F0 m 0 ls []) := by
    refine lv_aload_n hx hb dX7_feed_0 rfl (lv_at hl 0 rfl) ?_
    refine va_get (D := D) (ci := 7) (C := RX7) (T := TX7) (N := 45) hx hb ha inAX7 hown hK hP 0 rfl rfl 2 (by decide) (ha _ w_4_36) (fun _ h9 => h9) rfl dX7_feed_1 ?_
    refine lv_bipush (v := 20) hx hb dX7_feed_4 (by decide) ?_
    refine lv_iadd hx hb dX7_feed_6 ?_
    refine lv_sipush (v := 1200) hx hb dX7_feed_7 (by decide) ?_
    refine lv_icmp_le (tgt := 15) hx hb dX7_feed_10 (by decide) (fun c_1 => ?_) (fun c_1 => ?_)
    · replace hF := ifT c_1 hF
      refine lv_iconst (v := 0) hx hb dX7_feed_15 (by decide) ?_
      refine lv_istore (lv' := [(6, .int (0 : Int32)), (0, .ref h_t), (1, .int z1), (2, .int z2), (3, .int z3), (4, .int z4), (5, .int z5)]) hx hb dX7_feed_16 hl (by decide) rfl (fun ls hl => ?_)
      exact Lc18 n v_taped a_tape z1 z2 z3 z4 z5 (0 : Int32) H locs ls hF hP hD hS (lv_sub hl [1, 2, 3, 4, 5, 6, 0] rfl)
    · replace hF := ifF c_1 hF
      refine lv_iconst (v := -1) hx hb dX7_feed_13 (by decide) ?_
      exact hret ((-1 : Int32), v_taped, a_tape) H locs ls _ hF hP hD hS dX7_feed_14
  rw [hH, hlo] at goal
  exact goal
theorem dX7_end_0 : decode cX7_end 0 = .ok (.iload_n 1, 1) := by decide +kernel
theorem dX7_end_1 : decode cX7_end 1 = .ok (.ifCond .lt 11, 3) := by decide +kernel
theorem dX7_end_4 : decode cX7_end 4 = .ok (.iload_n 1, 1) := by decide +kernel
theorem dX7_end_5 : decode cX7_end 5 = .ok (.aload_n 0, 1) := by decide +kernel
theorem dX7_end_6 : decode cX7_end 6 = .ok (.getfield 77, 3) := by decide +kernel
theorem dX7_end_9 : decode cX7_end 9 = .ok (.if_icmp .le 5, 3) := by decide +kernel
theorem dX7_end_12 : decode cX7_end 12 = .ok (.iconst (-1), 1) := by decide +kernel
theorem dX7_end_13 : decode cX7_end 13 = .ok (.ireturn, 1) := by decide +kernel
theorem dX7_end_14 : decode cX7_end 14 = .ok (.aload_n 0, 1) := by decide +kernel
theorem dX7_end_15 : decode cX7_end 15 = .ok (.iload_n 1, 1) := by decide +kernel
theorem dX7_end_16 : decode cX7_end 16 = .ok (.putfield 77, 3) := by decide +kernel
theorem dX7_end_19 : decode cX7_end 19 = .ok (.iload_n 1, 1) := by decide +kernel
theorem dX7_end_20 : decode cX7_end 20 = .ok (.ireturn, 1) := by decide +kernel
abbrev rmX7_end : Room := { frames := 0, cells := 0, slots := 0, locals := 0 }
theorem cb_X7_end : CBn yX7_end 1 := ⟨by decide +kernel, by decide +kernel, by decide +kernel⟩
def FX7_end (n : Nat) (v_taped : Int32) (z1 : Int32) : Option (Int32 × Int32) := if z1 < 0 then (some ((-1 : Int32), v_taped)) else (if z1 ≤ v_taped then (some (z1, z1)) else (some ((-1 : Int32), v_taped)))
set_option maxHeartbeats 4000000 in
set_option maxRecDepth 100000 in
theorem kX7_end (l : Launch) (D : va_G) (cB cI cJ cZ : ClassId) (rz n sz : Nat) (h_t : Nat) (h_tape : Nat) (h_text : Nat) (h_uName : Nat) (h_outName : Nat) (h_setName : Nat) (h_unitMany : Nat) (h_yesTo : Nat) (h_noTo : Nat) (h_settingMany : Nat) (h_shares : Nat) (h_gradeMany : Nat) (h_gKind : Nat) (h_gPurity : Nat) (h_gPrice : Nat) (h_outPlace : Nat) (h_setPlace : Nat) (h_setShare : Nat) (h_chosen : Nat) (h_rows : Nat) (h_parts : Nat) (h_lTown : Nat) (h_lWeight : Nat) (h_lSampled : Nat) (h_hand : Nat) (h_isStruck : Nat) (h_all : Nat) (h_bestChosen : Nat) (h_gets : Nat) (h_rests : Nat) (v_taped : Int32) (v_size : Int32) (v_faultKind : Int32) (v_faultPlace : Int32) (v_at : Int32) (v_end : Int32) (v_token : Int32) (v_number : Int32) (v_name : Int64) (v_bank : Int32) (v_rb : Int32) (v_sets : Int32) (v_missing : Int32) (v_whole : Int64) (v_lorries : Int32) (v_cost : Int32) (z1 : Int32) (hN : FX7_end n v_taped z1 ≠ none) : Met l yX7_end (Cond.code yX7_end cX7_end 2 (some .int) :: AL) rmX7_end (PW D cB cI cJ cZ rz [.ref h_t, .int z1] [(h_t, .inr (7, [.ref h_tape, .ref h_text, .int v_taped, .int v_size, .int v_faultKind, .int v_faultPlace, .int v_at, .int v_end, .int v_token, .int v_number, .long v_name, .ref h_uName, .ref h_outName, .ref h_setName, .ref h_unitMany, .ref h_yesTo, .ref h_noTo, .ref h_settingMany, .ref h_shares, .ref h_gradeMany, .ref h_gKind, .ref h_gPurity, .ref h_gPrice, .ref h_outPlace, .ref h_setPlace, .ref h_setShare, .ref h_chosen, .int v_bank, .int v_rb, .int v_sets, .int v_missing, .ref h_rows, .ref h_parts, .long v_whole, .ref h_lTown, .ref h_lWeight, .ref h_lSampled, .ref h_hand, .ref h_isStruck, .int v_lorries, .int v_cost, .ref h_all, .ref h_bestChosen, .ref h_gets, .ref h_rests]))] sz) (QI D (FX7_end n v_taped z1) (fun u => [(h_t, .inr (7, [.ref h_tape, .ref h_text, .int u.2, .int v_size, .int v_faultKind, .int v_faultPlace, .int v_at, .int v_end, .int v_token, .int v_number, .long v_name, .ref h_uName, .ref h_outName, .ref h_setName, .ref h_unitMany, .ref h_yesTo, .ref h_noTo, .ref h_settingMany, .ref h_shares, .ref h_gradeMany, .ref h_gKind, .ref h_gPurity, .ref h_gPrice, .ref h_outPlace, .ref h_setPlace, .ref h_setShare, .ref h_chosen, .int v_bank, .int v_rb, .int v_sets, .int v_missing, .ref h_rows, .ref h_parts, .long v_whole, .ref h_lTown, .ref h_lWeight, .ref h_lSampled, .ref h_hand, .ref h_isStruck, .int v_lorries, .int v_cost, .ref h_all, .ref h_bestChosen, .ref h_gets, .ref h_rests]))]) (va_A [(h_t, .inr (7, [.ref h_tape, .ref h_text, .int v_taped, .int v_size, .int v_faultKind, .int v_faultPlace, .int v_at, .int v_end, .int v_token, .int v_number, .long v_name, .ref h_uName, .ref h_outName, .ref h_setName, .ref h_unitMany, .ref h_yesTo, .ref h_noTo, .ref h_settingMany, .ref h_shares, .ref h_gradeMany, .ref h_gKind, .ref h_gPurity, .ref h_gPrice, .ref h_outPlace, .ref h_setPlace, .ref h_setShare, .ref h_chosen, .int v_bank, .int v_rb, .int v_sets, .int v_missing, .ref h_rows, .ref h_parts, .long v_whole, .ref h_lTown, .ref h_lWeight, .ref h_lSampled, .ref h_hand, .ref h_isStruck, .int v_lorries, .int v_cost, .ref h_all, .ref h_bestChosen, .ref h_gets, .ref h_rests]))] sz)) 0 0 (va_A [(h_t, .inr (7, [.ref h_tape, .ref h_text, .int v_taped, .int v_size, .int v_faultKind, .int v_faultPlace, .int v_at, .int v_end, .int v_token, .int v_number, .long v_name, .ref h_uName, .ref h_outName, .ref h_setName, .ref h_unitMany, .ref h_yesTo, .ref h_noTo, .ref h_settingMany, .ref h_shares, .ref h_gradeMany, .ref h_gKind, .ref h_gPurity, .ref h_gPrice, .ref h_outPlace, .ref h_setPlace, .ref h_setShare, .ref h_chosen, .int v_bank, .int v_rb, .int v_sets, .int v_missing, .ref h_rows, .ref h_parts, .long v_whole, .ref h_lTown, .ref h_lWeight, .ref h_lSampled, .ref h_hand, .ref h_isStruck, .int v_lorries, .int v_cost, .ref h_all, .ref h_bestChosen, .ref h_gets, .ref h_rests]))] sz) := by
  obtain ⟨O, hF⟩ : ∃ O, FX7_end n v_taped z1 = O := ⟨_, rfl⟩
  rw [hF] at hN ⊢
  refine enterI (cc := cX7_end) (nL := 2) (by decide) (Nat.le_of_ble_eq_true rfl) ?_
  intro p e s m below meth c A Q X hA hE hnm hsz hP hD hS hret ls hl
  obtain ⟨hx, hb, hml, hown0, ha⟩ := id X
  have hown : s.vm.findClass RX7 = some m.cls := hown0
  have hK := hE.1
  have hl : lv_has ls 2 [(0, .ref h_t), (1, .int z1)] := hl
  have hX : CallFix p m c cX7_end 2 s ([.ref h_t, .int z1] : List Value).toArray AL RX7 := X
  have X := hX
  unfold FX7_end at hF
  obtain ⟨H, hH⟩ : ∃ H, H = s.heap := ⟨_, rfl⟩
  obtain ⟨locs, hlo⟩ : ∃ locs : List Loc, locs = [] := ⟨_, rfl⟩
  have hS : va_S A s.heap H locs := by rw [hH, hlo]; exact hS
  rw [← hH] at hP
  have goal : W p l e rmX7_end s m ([.ref h_t, .int z1] : List Value).toArray below meth c H locs 0 0 Q (F0 m 0 ls []) := by
    refine lv_iload_n hx hb dX7_end_0 rfl (lv_at hl 1 rfl) ?_
    refine lv_if_lt (tgt := 12) hx hb dX7_end_1 (by decide) (fun c_1 => ?_) (fun c_1 => ?_)
    · replace hF := ifT c_1 hF
      refine lv_iconst (v := -1) hx hb dX7_end_12 (by decide) ?_
      exact hret ((-1 : Int32), v_taped) H locs ls _ hF hP hD hS dX7_end_13
    · replace hF := ifF c_1 hF
      refine lv_iload_n hx hb dX7_end_4 rfl (lv_at hl 1 rfl) ?_
      refine lv_aload_n hx hb dX7_end_5 rfl (lv_at hl 0 rfl) ?_
      refine va_get (D := D) (ci := 7) (C := RX7) (T := TX7) (N := 45) hx hb ha inAX7 hown hK hP 0 rfl rfl 2 (by decide) (ha _ w_4_36) (fun _ h9 => h9) rfl dX7_end_6 ?_
      refine lv_icmp_le (tgt := 14) hx hb dX7_end_9 (by decide) (fun c_2 => ?_) (fun c_2 => ?_)
      · replace hF := ifT c_2 hF
        refine lv_aload_n hx hb dX7_end_14 rfl (lv_at hl 0 rfl) ?_
        refine lv_iload_n hx hb dX7_end_15 rfl (lv_at hl 1 rfl) ?_
        refine pt (C := RX7) (T := TX7) (N := 45) (ci := 7) (v := .int z1) (W2 := [(h_t, .inr (7, [.ref h_tape, .ref h_text, .int z1, .int v_size, .int v_faultKind, .int v_faultPlace, .int v_at, .int v_end, .int v_token, .int v_number, .long v_name, .ref h_uName, .ref h_outName, .ref h_setName, .ref h_unitMany, .ref h_yesTo, .ref h_noTo, .ref h_settingMany, .ref h_shares, .ref h_gradeMany, .ref h_gKind, .ref h_gPurity, .ref h_gPrice, .ref h_outPlace, .ref h_setPlace, .ref h_setShare, .ref h_chosen, .int v_bank, .int v_rb, .int v_sets, .int v_missing, .ref h_rows, .ref h_parts, .long v_whole, .ref h_lTown, .ref h_lWeight, .ref h_lSampled, .ref h_hand, .ref h_isStruck, .int v_lorries, .int v_cost, .ref h_all, .ref h_bestChosen, .ref h_gets, .ref h_rests]))]) hx hb ha inAX7 tyX7 tyX7_ok nmX7 hown hK hP hD hS 0 rfl rfl 2 (by decide) (ha _ w_4_36) rfl rfl rfl rfl (Nat.le_of_ble_eq_true rfl) dX7_end_16 rfl (fun H locs hP hD hS => ?_)
        refine lv_iload_n hx hb dX7_end_19 rfl (lv_at hl 1 rfl) ?_
        exact hret (z1, z1) H locs ls _ hF hP hD hS dX7_end_20
      · replace hF := ifF c_2 hF
        refine lv_iconst (v := -1) hx hb dX7_end_12 (by decide) ?_
        exact hret ((-1 : Int32), v_taped) H locs ls _ hF hP hD hS dX7_end_13
  rw [hH, hlo] at goal
  exact goal
