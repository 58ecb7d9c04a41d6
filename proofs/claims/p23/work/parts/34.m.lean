theorem dX7_lorry_0 : decode cX7_lorry 0 = .ok (.iload_n 1, 1) := by decide +kernel
theorem dX7_lorry_1 : decode cX7_lorry 1 = .ok (.ifCond .lt 68, 3) := by decide +kernel
theorem dX7_lorry_4 : decode cX7_lorry 4 = .ok (.iload_n 1, 1) := by decide +kernel
theorem dX7_lorry_5 : decode cX7_lorry 5 = .ok (.iconst 5, 1) := by decide +kernel
theorem dX7_lorry_6 : decode cX7_lorry 6 = .ok (.if_icmp .ge 63, 3) := by decide +kernel
theorem dX7_lorry_9 : decode cX7_lorry 9 = .ok (.iload_n 2, 1) := by decide +kernel
theorem dX7_lorry_10 : decode cX7_lorry 10 = .ok (.iconst 1, 1) := by decide +kernel
theorem dX7_lorry_11 : decode cX7_lorry 11 = .ok (.if_icmp .lt 58, 3) := by decide +kernel
theorem dX7_lorry_14 : decode cX7_lorry 14 = .ok (.iload_n 2, 1) := by decide +kernel
theorem dX7_lorry_15 : decode cX7_lorry 15 = .ok (.sipush 20000, 3) := by decide +kernel
theorem dX7_lorry_18 : decode cX7_lorry 18 = .ok (.if_icmp .gt 51, 3) := by decide +kernel
theorem dX7_lorry_21 : decode cX7_lorry 21 = .ok (.iload_n 3, 1) := by decide +kernel
theorem dX7_lorry_22 : decode cX7_lorry 22 = .ok (.invokestatic 254, 3) := by decide +kernel
theorem dX7_lorry_25 : decode cX7_lorry 25 = .ok (.ifCond .eq 44, 3) := by decide +kernel
theorem dX7_lorry_28 : decode cX7_lorry 28 = .ok (.iload 4, 2) := by decide +kernel
theorem dX7_lorry_30 : decode cX7_lorry 30 = .ok (.invokestatic 254, 3) := by decide +kernel
theorem dX7_lorry_33 : decode cX7_lorry 33 = .ok (.ifCond .eq 36, 3) := by decide +kernel
theorem dX7_lorry_36 : decode cX7_lorry 36 = .ok (.iload 5, 2) := by decide +kernel
theorem dX7_lorry_38 : decode cX7_lorry 38 = .ok (.invokestatic 254, 3) := by decide +kernel
theorem dX7_lorry_41 : decode cX7_lorry 41 = .ok (.ifCond .eq 28, 3) := by decide +kernel
theorem dX7_lorry_44 : decode cX7_lorry 44 = .ok (.iload 6, 2) := by decide +kernel
theorem dX7_lorry_46 : decode cX7_lorry 46 = .ok (.invokestatic 254, 3) := by decide +kernel
theorem dX7_lorry_49 : decode cX7_lorry 49 = .ok (.ifCond .eq 20, 3) := by decide +kernel
theorem dX7_lorry_52 : decode cX7_lorry 52 = .ok (.iload 7, 2) := by decide +kernel
theorem dX7_lorry_54 : decode cX7_lorry 54 = .ok (.invokestatic 254, 3) := by decide +kernel
theorem dX7_lorry_57 : decode cX7_lorry 57 = .ok (.ifCond .eq 12, 3) := by decide +kernel
theorem dX7_lorry_60 : decode cX7_lorry 60 = .ok (.aload_n 0, 1) := by decide +kernel
theorem dX7_lorry_61 : decode cX7_lorry 61 = .ok (.getfield 257, 3) := by decide +kernel
theorem dX7_lorry_64 : decode cX7_lorry 64 = .ok (.bipush 60, 2) := by decide +kernel
theorem dX7_lorry_66 : decode cX7_lorry 66 = .ok (.if_icmp .ne 5, 3) := by decide +kernel
theorem dX7_lorry_69 : decode cX7_lorry 69 = .ok (.iconst (-1), 1) := by decide +kernel
theorem dX7_lorry_70 : decode cX7_lorry 70 = .ok (.ireturn, 1) := by decide +kernel
theorem dX7_lorry_71 : decode cX7_lorry 71 = .ok (.aload_n 0, 1) := by decide +kernel
theorem dX7_lorry_72 : decode cX7_lorry 72 = .ok (.getfield 223, 3) := by decide +kernel
theorem dX7_lorry_75 : decode cX7_lorry 75 = .ok (.aload_n 0, 1) := by decide +kernel
theorem dX7_lorry_76 : decode cX7_lorry 76 = .ok (.getfield 257, 3) := by decide +kernel
theorem dX7_lorry_79 : decode cX7_lorry 79 = .ok (.iload_n 1, 1) := by decide +kernel
theorem dX7_lorry_80 : decode cX7_lorry 80 = .ok (.iastore, 1) := by decide +kernel
theorem dX7_lorry_81 : decode cX7_lorry 81 = .ok (.aload_n 0, 1) := by decide +kernel
theorem dX7_lorry_82 : decode cX7_lorry 82 = .ok (.getfield 226, 3) := by decide +kernel
theorem dX7_lorry_85 : decode cX7_lorry 85 = .ok (.aload_n 0, 1) := by decide +kernel
theorem dX7_lorry_86 : decode cX7_lorry 86 = .ok (.getfield 257, 3) := by decide +kernel
theorem dX7_lorry_89 : decode cX7_lorry 89 = .ok (.iload_n 2, 1) := by decide +kernel
theorem dX7_lorry_90 : decode cX7_lorry 90 = .ok (.iastore, 1) := by decide +kernel
theorem dX7_lorry_91 : decode cX7_lorry 91 = .ok (.aload_n 0, 1) := by decide +kernel
theorem dX7_lorry_92 : decode cX7_lorry 92 = .ok (.getfield 229, 3) := by decide +kernel
theorem dX7_lorry_95 : decode cX7_lorry 95 = .ok (.iconst 5, 1) := by decide +kernel
theorem dX7_lorry_96 : decode cX7_lorry 96 = .ok (.aload_n 0, 1) := by decide +kernel
theorem dX7_lorry_97 : decode cX7_lorry 97 = .ok (.getfield 257, 3) := by decide +kernel
theorem dX7_lorry_100 : decode cX7_lorry 100 = .ok (.imul, 1) := by decide +kernel
theorem dX7_lorry_101 : decode cX7_lorry 101 = .ok (.iload_n 3, 1) := by decide +kernel
theorem dX7_lorry_102 : decode cX7_lorry 102 = .ok (.iastore, 1) := by decide +kernel
theorem dX7_lorry_103 : decode cX7_lorry 103 = .ok (.aload_n 0, 1) := by decide +kernel
theorem dX7_lorry_104 : decode cX7_lorry 104 = .ok (.getfield 229, 3) := by decide +kernel
theorem dX7_lorry_107 : decode cX7_lorry 107 = .ok (.iconst 5, 1) := by decide +kernel
theorem dX7_lorry_108 : decode cX7_lorry 108 = .ok (.aload_n 0, 1) := by decide +kernel
theorem dX7_lorry_109 : decode cX7_lorry 109 = .ok (.getfield 257, 3) := by decide +kernel
theorem dX7_lorry_112 : decode cX7_lorry 112 = .ok (.imul, 1) := by decide +kernel
theorem dX7_lorry_113 : decode cX7_lorry 113 = .ok (.iconst 1, 1) := by decide +kernel
theorem dX7_lorry_114 : decode cX7_lorry 114 = .ok (.iadd, 1) := by decide +kernel
theorem dX7_lorry_115 : decode cX7_lorry 115 = .ok (.iload 4, 2) := by decide +kernel
theorem dX7_lorry_117 : decode cX7_lorry 117 = .ok (.iastore, 1) := by decide +kernel
theorem dX7_lorry_118 : decode cX7_lorry 118 = .ok (.aload_n 0, 1) := by decide +kernel
theorem dX7_lorry_119 : decode cX7_lorry 119 = .ok (.getfield 229, 3) := by decide +kernel
theorem dX7_lorry_122 : decode cX7_lorry 122 = .ok (.iconst 5, 1) := by decide +kernel
theorem dX7_lorry_123 : decode cX7_lorry 123 = .ok (.aload_n 0, 1) := by decide +kernel
theorem dX7_lorry_124 : decode cX7_lorry 124 = .ok (.getfield 257, 3) := by decide +kernel
theorem dX7_lorry_127 : decode cX7_lorry 127 = .ok (.imul, 1) := by decide +kernel
theorem dX7_lorry_128 : decode cX7_lorry 128 = .ok (.iconst 2, 1) := by decide +kernel
theorem dX7_lorry_129 : decode cX7_lorry 129 = .ok (.iadd, 1) := by decide +kernel
theorem dX7_lorry_130 : decode cX7_lorry 130 = .ok (.iload 5, 2) := by decide +kernel
theorem dX7_lorry_132 : decode cX7_lorry 132 = .ok (.iastore, 1) := by decide +kernel
theorem dX7_lorry_133 : decode cX7_lorry 133 = .ok (.aload_n 0, 1) := by decide +kernel
theorem dX7_lorry_134 : decode cX7_lorry 134 = .ok (.getfield 229, 3) := by decide +kernel
theorem dX7_lorry_137 : decode cX7_lorry 137 = .ok (.iconst 5, 1) := by decide +kernel
theorem dX7_lorry_138 : decode cX7_lorry 138 = .ok (.aload_n 0, 1) := by decide +kernel
theorem dX7_lorry_139 : decode cX7_lorry 139 = .ok (.getfield 257, 3) := by decide +kernel
theorem dX7_lorry_142 : decode cX7_lorry 142 = .ok (.imul, 1) := by decide +kernel
theorem dX7_lorry_143 : decode cX7_lorry 143 = .ok (.iconst 3, 1) := by decide +kernel
theorem dX7_lorry_144 : decode cX7_lorry 144 = .ok (.iadd, 1) := by decide +kernel
theorem dX7_lorry_145 : decode cX7_lorry 145 = .ok (.iload 6, 2) := by decide +kernel
theorem dX7_lorry_147 : decode cX7_lorry 147 = .ok (.iastore, 1) := by decide +kernel
theorem dX7_lorry_148 : decode cX7_lorry 148 = .ok (.aload_n 0, 1) := by decide +kernel
theorem dX7_lorry_149 : decode cX7_lorry 149 = .ok (.getfield 229, 3) := by decide +kernel
theorem dX7_lorry_152 : decode cX7_lorry 152 = .ok (.iconst 5, 1) := by decide +kernel
theorem dX7_lorry_153 : decode cX7_lorry 153 = .ok (.aload_n 0, 1) := by decide +kernel
theorem dX7_lorry_154 : decode cX7_lorry 154 = .ok (.getfield 257, 3) := by decide +kernel
theorem dX7_lorry_157 : decode cX7_lorry 157 = .ok (.imul, 1) := by decide +kernel
theorem dX7_lorry_158 : decode cX7_lorry 158 = .ok (.iconst 4, 1) := by decide +kernel
theorem dX7_lorry_159 : decode cX7_lorry 159 = .ok (.iadd, 1) := by decide +kernel
theorem dX7_lorry_160 : decode cX7_lorry 160 = .ok (.iload 7, 2) := by decide +kernel
theorem dX7_lorry_162 : decode cX7_lorry 162 = .ok (.iastore, 1) := by decide +kernel
theorem dX7_lorry_163 : decode cX7_lorry 163 = .ok (.aload_n 0, 1) := by decide +kernel
theorem dX7_lorry_164 : decode cX7_lorry 164 = .ok (.getfield 235, 3) := by decide +kernel
theorem dX7_lorry_167 : decode cX7_lorry 167 = .ok (.aload_n 0, 1) := by decide +kernel
theorem dX7_lorry_168 : decode cX7_lorry 168 = .ok (.getfield 257, 3) := by decide +kernel
theorem dX7_lorry_171 : decode cX7_lorry 171 = .ok (.iconst 0, 1) := by decide +kernel
theorem dX7_lorry_172 : decode cX7_lorry 172 = .ok (.bastore, 1) := by decide +kernel
theorem dX7_lorry_173 : decode cX7_lorry 173 = .ok (.aload_n 0, 1) := by decide +kernel
theorem dX7_lorry_174 : decode cX7_lorry 174 = .ok (.dup, 1) := by decide +kernel
theorem dX7_lorry_175 : decode cX7_lorry 175 = .ok (.getfield 257, 3) := by decide +kernel
theorem dX7_lorry_178 : decode cX7_lorry 178 = .ok (.iconst 1, 1) := by decide +kernel
theorem dX7_lorry_179 : decode cX7_lorry 179 = .ok (.iadd, 1) := by decide +kernel
theorem dX7_lorry_180 : decode cX7_lorry 180 = .ok (.putfield 257, 3) := by decide +kernel
theorem dX7_lorry_183 : decode cX7_lorry 183 = .ok (.aload_n 0, 1) := by decide +kernel
theorem dX7_lorry_184 : decode cX7_lorry 184 = .ok (.getfield 257, 3) := by decide +kernel
theorem dX7_lorry_187 : decode cX7_lorry 187 = .ok (.iconst 1, 1) := by decide +kernel
theorem dX7_lorry_188 : decode cX7_lorry 188 = .ok (.isub, 1) := by decide +kernel
theorem dX7_lorry_189 : decode cX7_lorry 189 = .ok (.ireturn, 1) := by decide +kernel
abbrev rmX7_lorry : Room := { frames := 1, cells := 0, slots := 0, locals := 20 }
theorem cb_X7_lorry : CBn yX7_lorry 7 := ⟨by decide +kernel, by decide +kernel, by decide +kernel⟩
def FX7_lorry (n : Nat) (v_lorries : Int32) (a_lTown : Nat → Int32) (a_lWeight : Nat → Int32) (a_lSampled : Nat → Int32) (a_isStruck : Nat → Int32) (z1 : Int32) (z2 : Int32) (z3 : Int32) (z4 : Int32) (z5 : Int32) (z6 : Int32) (z7 : Int32) : Option (Int32 × Int32 × (Nat → Int32) × (Nat → Int32) × (Nat → Int32) × (Nat → Int32)) := if z1 < 0 then (some ((-1 : Int32), v_lorries, a_lTown, a_lWeight, a_lSampled, a_isStruck)) else (if (5 : Int32) ≤ z1 then (some ((-1 : Int32), v_lorries, a_lTown, a_lWeight, a_lSampled, a_isStruck)) else (if z2 < (1 : Int32) then (some ((-1 : Int32), v_lorries, a_lTown, a_lWeight, a_lSampled, a_isStruck)) else (if (20000 : Int32) < z2 then (some ((-1 : Int32), v_lorries, a_lTown, a_lWeight, a_lSampled, a_isStruck)) else (bd (FX7_isSample n z3) (fun u_6 => if u_6.1 = 0 then (some ((-1 : Int32), v_lorries, a_lTown, a_lWeight, a_lSampled, a_isStruck)) else (bd (FX7_isSample n z4) (fun u_9 => if u_9.1 = 0 then (some ((-1 : Int32), v_lorries, a_lTown, a_lWeight, a_lSampled, a_isStruck)) else (bd (FX7_isSample n z5) (fun u_12 => if u_12.1 = 0 then (some ((-1 : Int32), v_lorries, a_lTown, a_lWeight, a_lSampled, a_isStruck)) else (bd (FX7_isSample n z6) (fun u_15 => if u_15.1 = 0 then (some ((-1 : Int32), v_lorries, a_lTown, a_lWeight, a_lSampled, a_isStruck)) else (bd (FX7_isSample n z7) (fun u_18 => if u_18.1 = 0 then (some ((-1 : Int32), v_lorries, a_lTown, a_lWeight, a_lSampled, a_isStruck)) else (if v_lorries = (60 : Int32) then (some ((-1 : Int32), v_lorries, a_lTown, a_lWeight, a_lSampled, a_isStruck)) else (if ¬ (v_lorries < 0 ∨ 60 ≤ (v_lorries).toNatClampNeg) then (lt1 (upd a_lTown (v_lorries).toNatClampNeg z1) (fun f_22 => if ¬ (v_lorries < 0 ∨ 60 ≤ (v_lorries).toNatClampNeg) then (lt1 (upd a_lWeight (v_lorries).toNatClampNeg z2) (fun f_24 => if ¬ (((5 : Int32) * v_lorries) < 0 ∨ 300 ≤ (((5 : Int32) * v_lorries)).toNatClampNeg) then (lt1 (upd a_lSampled (((5 : Int32) * v_lorries)).toNatClampNeg z3) (fun f_26 => if ¬ ((((5 : Int32) * v_lorries) + (1 : Int32)) < 0 ∨ 300 ≤ ((((5 : Int32) * v_lorries) + (1 : Int32))).toNatClampNeg) then (lt1 (upd f_26 ((((5 : Int32) * v_lorries) + (1 : Int32))).toNatClampNeg z4) (fun f_28 => if ¬ ((((5 : Int32) * v_lorries) + (2 : Int32)) < 0 ∨ 300 ≤ ((((5 : Int32) * v_lorries) + (2 : Int32))).toNatClampNeg) then (lt1 (upd f_28 ((((5 : Int32) * v_lorries) + (2 : Int32))).toNatClampNeg z5) (fun f_30 => if ¬ ((((5 : Int32) * v_lorries) + (3 : Int32)) < 0 ∨ 300 ≤ ((((5 : Int32) * v_lorries) + (3 : Int32))).toNatClampNeg) then (lt1 (upd f_30 ((((5 : Int32) * v_lorries) + (3 : Int32))).toNatClampNeg z6) (fun f_32 => if ¬ ((((5 : Int32) * v_lorries) + (4 : Int32)) < 0 ∨ 300 ≤ ((((5 : Int32) * v_lorries) + (4 : Int32))).toNatClampNeg) then (lt1 (upd f_32 ((((5 : Int32) * v_lorries) + (4 : Int32))).toNatClampNeg z7) (fun f_34 => if ¬ (v_lorries < 0 ∨ 60 ≤ (v_lorries).toNatClampNeg) then (lt1 (upd a_isStruck (v_lorries).toNatClampNeg (vp_nar .boolean (0 : Int32))) (fun f_36 => lt1 (v_lorries + (1 : Int32)) (fun x_37 => some ((x_37 - (1 : Int32)), x_37, f_22, f_24, f_34, f_36)))) else none)) else none)) else none)) else none)) else none)) else none)) else none)) else none)))))))))))))))
set_option maxHeartbeats 4000000 in
set_option maxRecDepth 100000 in
theorem kX7_lorry (l : Launch) (D : va_G) (cB cI cJ cZ : ClassId) (rz n sz : Nat) (h_t : Nat) (h_lTown : Nat) (h_lWeight : Nat) (h_lSampled : Nat) (h_isStruck : Nat) (h_tape : Nat) (h_text : Nat) (h_uName : Nat) (h_outName : Nat) (h_setName : Nat) (h_unitMany : Nat) (h_yesTo : Nat) (h_noTo : Nat) (h_settingMany : Nat) (h_shares : Nat) (h_gradeMany : Nat) (h_gKind : Nat) (h_gPurity : Nat) (h_gPrice : Nat) (h_outPlace : Nat) (h_setPlace : Nat) (h_setShare : Nat) (h_chosen : Nat) (h_rows : Nat) (h_parts : Nat) (h_hand : Nat) (h_all : Nat) (h_bestChosen : Nat) (h_gets : Nat) (h_rests : Nat) (v_taped : Int32) (v_size : Int32) (v_faultKind : Int32) (v_faultPlace : Int32) (v_at : Int32) (v_end : Int32) (v_token : Int32) (v_number : Int32) (v_name : Int64) (v_bank : Int32) (v_rb : Int32) (v_sets : Int32) (v_missing : Int32) (v_whole : Int64) (v_lorries : Int32) (v_cost : Int32) (a_lTown : Nat → Int32) (a_lWeight : Nat → Int32) (a_lSampled : Nat → Int32) (a_isStruck : Nat → Int32) (z1 : Int32) (z2 : Int32) (z3 : Int32) (z4 : Int32) (z5 : Int32) (z6 : Int32) (z7 : Int32) (hN : FX7_lorry n v_lorries a_lTown a_lWeight a_lSampled a_isStruck z1 z2 z3 z4 z5 z6 z7 ≠ none) : Met l yX7_lorry (Cond.code yX7_lorry cX7_lorry 8 (some .int) :: AL) rmX7_lorry (PW D cB cI cJ cZ rz [.ref h_t, .int z1, .int z2, .int z3, .int z4, .int z5, .int z6, .int z7] [(h_t, .inr (7, [.ref h_tape, .ref h_text, .int v_taped, .int v_size, .int v_faultKind, .int v_faultPlace, .int v_at, .int v_end, .int v_token, .int v_number, .long v_name, .ref h_uName, .ref h_outName, .ref h_setName, .ref h_unitMany, .ref h_yesTo, .ref h_noTo, .ref h_settingMany, .ref h_shares, .ref h_gradeMany, .ref h_gKind, .ref h_gPurity, .ref h_gPrice, .ref h_outPlace, .ref h_setPlace, .ref h_setShare, .ref h_chosen, .int v_bank, .int v_rb, .int v_sets, .int v_missing, .ref h_rows, .ref h_parts, .long v_whole, .ref h_lTown, .ref h_lWeight, .ref h_lSampled, .ref h_hand, .ref h_isStruck, .int v_lorries, .int v_cost, .ref h_all, .ref h_bestChosen, .ref h_gets, .ref h_rests])), (h_lTown, .inl (cI, 60, .inl a_lTown)), (h_lWeight, .inl (cI, 60, .inl a_lWeight)), (h_lSampled, .inl (cI, 300, .inl a_lSampled)), (h_isStruck, .inl (cZ, 60, .inl a_isStruck))] sz) (QI D (FX7_lorry n v_lorries a_lTown a_lWeight a_lSampled a_isStruck z1 z2 z3 z4 z5 z6 z7) (fun u => [(h_t, .inr (7, [.ref h_tape, .ref h_text, .int v_taped, .int v_size, .int v_faultKind, .int v_faultPlace, .int v_at, .int v_end, .int v_token, .int v_number, .long v_name, .ref h_uName, .ref h_outName, .ref h_setName, .ref h_unitMany, .ref h_yesTo, .ref h_noTo, .ref h_settingMany, .ref h_shares, .ref h_gradeMany, .ref h_gKind, .ref h_gPurity, .ref h_gPrice, .ref h_outPlace, .ref h_setPlace, .ref h_setShare, .ref h_chosen, .int v_bank, .int v_rb, .int v_sets, .int v_missing, .ref h_rows, .ref h_parts, .long v_whole, .ref h_lTown, .ref h_lWeight, .ref h_lSampled, .ref h_hand, .ref h_isStruck, .int u.2.1, .int v_cost, .ref h_all, .ref h_bestChosen, .ref h_gets, .ref h_rests])), (h_lTown, .inl (cI, 60, .inl u.2.2.1)), (h_lWeight, .inl (cI, 60, .inl u.2.2.2.1)), (h_lSampled, .inl (cI, 300, .inl u.2.2.2.2.1)), (h_isStruck, .inl (cZ, 60, .inl u.2.2.2.2.2))]) (va_A [(h_t, .inr (7, [.ref h_tape, .ref h_text, .int v_taped, .int v_size, .int v_faultKind, .int v_faultPlace, .int v_at, .int v_end, .int v_token, .int v_number, .long v_name, .ref h_uName, .ref h_outName, .ref h_setName, .ref h_unitMany, .ref h_yesTo, .ref h_noTo, .ref h_settingMany, .ref h_shares, .ref h_gradeMany, .ref h_gKind, .ref h_gPurity, .ref h_gPrice, .ref h_outPlace, .ref h_setPlace, .ref h_setShare, .ref h_chosen, .int v_bank, .int v_rb, .int v_sets, .int v_missing, .ref h_rows, .ref h_parts, .long v_whole, .ref h_lTown, .ref h_lWeight, .ref h_lSampled, .ref h_hand, .ref h_isStruck, .int v_lorries, .int v_cost, .ref h_all, .ref h_bestChosen, .ref h_gets, .ref h_rests])), (h_lTown, .inl (cI, 60, .inl a_lTown)), (h_lWeight, .inl (cI, 60, .inl a_lWeight)), (h_lSampled, .inl (cI, 300, .inl a_lSampled)), (h_isStruck, .inl (cZ, 60, .inl a_isStruck))] sz)) 0 0 (va_A [(h_t, .inr (7, [.ref h_tape, .ref h_text, .int v_taped, .int v_size, .int v_faultKind, .int v_faultPlace, .int v_at, .int v_end, .int v_token, .int v_number, .long v_name, .ref h_uName, .ref h_outName, .ref h_setName, .ref h_unitMany, .ref h_yesTo, .ref h_noTo, .ref h_settingMany, .ref h_shares, .ref h_gradeMany, .ref h_gKind, .ref h_gPurity, .ref h_gPrice, .ref h_outPlace, .ref h_setPlace, .ref h_setShare, .ref h_chosen, .int v_bank, .int v_rb, .int v_sets, .int v_missing, .ref h_rows, .ref h_parts, .long v_whole, .ref h_lTown, .ref h_lWeight, .ref h_lSampled, .ref h_hand, .ref h_isStruck, .int v_lorries, .int v_cost, .ref h_all, .ref h_bestChosen, .ref h_gets, .ref h_rests])), (h_lTown, .inl (cI, 60, .inl a_lTown)), (h_lWeight, .inl (cI, 60, .inl a_lWeight)), (h_lSampled, .inl (cI, 300, .inl a_lSampled)), (h_isStruck, .inl (cZ, 60, .inl a_isStruck))] sz) := by
  obtain ⟨O, hF⟩ : ∃ O, FX7_lorry n v_lorries a_lTown a_lWeight a_lSampled a_isStruck z1 z2 z3 z4 z5 z6 z7 = O := ⟨_, rfl⟩
  rw [hF] at hN ⊢
  refine enterI (cc := cX7_lorry) (nL := 8) (by decide) (Nat.le_of_ble_eq_true rfl) ?_
  intro p e s m below meth c A Q X hA hE hnm hsz hP hD hS hret ls hl
  obtain ⟨hx, hb, hml, hown0, ha⟩ := id X
  have hown : s.vm.findClass RX7 = some m.cls := hown0
  have hK := hE.1
  have hl : lv_has ls 8 [(0, .ref h_t), (1, .int z1), (2, .int z2), (3, .int z3), (4, .int z4), (5, .int z5), (6, .int z6), (7, .int z7)] := hl
  have hX : CallFix p m c cX7_lorry 8 s ([.ref h_t, .int z1, .int z2, .int z3, .int z4, .int z5, .int z6, .int z7] : List Value).toArray AL RX7 := X
  have X := hX
  unfold FX7_lorry at hF
  obtain ⟨H, hH⟩ : ∃ H, H = s.heap := ⟨_, rfl⟩
  obtain ⟨locs, hlo⟩ : ∃ locs : List Loc, locs = [] := ⟨_, rfl⟩
  have hS : va_S A s.heap H locs := by rw [hH, hlo]; exact hS
  rw [← hH] at hP
  have goal : W p l e rmX7_lorry s m ([.ref h_t, .int z1, .int z2, .int z3, .int z4, .int z5, .int z6, .int z7] : List Value).toArray below meth c H locs 0 0 Q (F0 m 0 ls []) := by
    refine lv_iload_n hx hb dX7_lorry_0 rfl (lv_at hl 1 rfl) ?_
    refine lv_if_lt (tgt := 69) hx hb dX7_lorry_1 (by decide) (fun c_1 => ?_) (fun c_1 => ?_)
    · replace hF := ifT c_1 hF
      refine lv_iconst (v := -1) hx hb dX7_lorry_69 (by decide) ?_
      exact hret ((-1 : Int32), v_lorries, a_lTown, a_lWeight, a_lSampled, a_isStruck) H locs ls _ hF hP hD hS dX7_lorry_70
    · replace hF := ifF c_1 hF
      refine lv_iload_n hx hb dX7_lorry_4 rfl (lv_at hl 1 rfl) ?_
      refine lv_iconst (v := 5) hx hb dX7_lorry_5 (by decide) ?_
      refine lv_icmp_ge (tgt := 69) hx hb dX7_lorry_6 (by decide) (fun c_2 => ?_) (fun c_2 => ?_)
      · replace hF := ifT c_2 hF
        refine lv_iconst (v := -1) hx hb dX7_lorry_69 (by decide) ?_
        exact hret ((-1 : Int32), v_lorries, a_lTown, a_lWeight, a_lSampled, a_isStruck) H locs ls _ hF hP hD hS dX7_lorry_70
      · replace hF := ifF c_2 hF
        refine lv_iload_n hx hb dX7_lorry_9 rfl (lv_at hl 2 rfl) ?_
        refine lv_iconst (v := 1) hx hb dX7_lorry_10 (by decide) ?_
        refine lv_icmp_lt (tgt := 69) hx hb dX7_lorry_11 (by decide) (fun c_3 => ?_) (fun c_3 => ?_)
        · replace hF := ifT c_3 hF
          refine lv_iconst (v := -1) hx hb dX7_lorry_69 (by decide) ?_
          exact hret ((-1 : Int32), v_lorries, a_lTown, a_lWeight, a_lSampled, a_isStruck) H locs ls _ hF hP hD hS dX7_lorry_70
        · replace hF := ifF c_3 hF
          refine lv_iload_n hx hb dX7_lorry_14 rfl (lv_at hl 2 rfl) ?_
          refine lv_sipush (v := 20000) hx hb dX7_lorry_15 (by decide) ?_
          refine lv_icmp_gt (tgt := 69) hx hb dX7_lorry_18 (by decide) (fun c_4 => ?_) (fun c_4 => ?_)
          · replace hF := ifT c_4 hF
            refine lv_iconst (v := -1) hx hb dX7_lorry_69 (by decide) ?_
            exact hret ((-1 : Int32), v_lorries, a_lTown, a_lWeight, a_lSampled, a_isStruck) H locs ls _ hF hP hD hS dX7_lorry_70
          · replace hF := ifF c_4 hF
            refine lv_iload_n hx hb dX7_lorry_21 rfl (lv_at hl 3 rfl) ?_
            have hn_5 := bdN hN hF
            refine callSZ (As := [.int z3]) (rest := []) (wr := [(h_t, .inr (7, [.ref h_tape, .ref h_text, .int v_taped, .int v_size, .int v_faultKind, .int v_faultPlace, .int v_at, .int v_end, .int v_token, .int v_number, .long v_name, .ref h_uName, .ref h_outName, .ref h_setName, .ref h_unitMany, .ref h_yesTo, .ref h_noTo, .ref h_settingMany, .ref h_shares, .ref h_gradeMany, .ref h_gKind, .ref h_gPurity, .ref h_gPrice, .ref h_outPlace, .ref h_setPlace, .ref h_setShare, .ref h_chosen, .int v_bank, .int v_rb, .int v_sets, .int v_missing, .ref h_rows, .ref h_parts, .long v_whole, .ref h_lTown, .ref h_lWeight, .ref h_lSampled, .ref h_hand, .ref h_isStruck, .int v_lorries, .int v_cost, .ref h_all, .ref h_bestChosen, .ref h_gets, .ref h_rests])), (h_lTown, .inl (cI, 60, .inl a_lTown)), (h_lWeight, .inl (cI, 60, .inl a_lWeight)), (h_lSampled, .inl (cI, 300, .inl a_lSampled)), (h_isStruck, .inl (cZ, 60, .inl a_isStruck))]) (W2 := fun u_6 => [(h_t, .inr (7, [.ref h_tape, .ref h_text, .int v_taped, .int v_size, .int v_faultKind, .int v_faultPlace, .int v_at, .int v_end, .int v_token, .int v_number, .long v_name, .ref h_uName, .ref h_outName, .ref h_setName, .ref h_unitMany, .ref h_yesTo, .ref h_noTo, .ref h_settingMany, .ref h_shares, .ref h_gradeMany, .ref h_gKind, .ref h_gPurity, .ref h_gPrice, .ref h_outPlace, .ref h_setPlace, .ref h_setShare, .ref h_chosen, .int v_bank, .int v_rb, .int v_sets, .int v_missing, .ref h_rows, .ref h_parts, .long v_whole, .ref h_lTown, .ref h_lWeight, .ref h_lSampled, .ref h_hand, .ref h_isStruck, .int v_lorries, .int v_cost, .ref h_all, .ref h_bestChosen, .ref h_gets, .ref h_rests])), (h_lTown, .inl (cI, 60, .inl a_lTown)), (h_lWeight, .inl (cI, 60, .inl a_lWeight)), (h_lSampled, .inl (cI, 300, .inl a_lSampled)), (h_isStruck, .inl (cZ, 60, .inl a_isStruck))]) X hE hP hD hS hA (kX7_isSample l D cB cI cJ cZ rz n H.size z3 hn_5) w_4_174 w_4_175 w_1_9 w_4_176 cb_X7_isSample rfl rfl ⟨Nat.le_of_ble_eq_true rfl, Nat.le_of_ble_eq_true rfl⟩ rfl hl.1 rfl (Nat.le_of_ble_eq_true rfl) dX7_lorry_22 ⟨Nat.le_of_ble_eq_true rfl, Nat.le_of_ble_eq_true rfl⟩ (c2 := 0) (s2 := 0) rfl rfl [] [0, 1, 2, 3, 4] [0, 1, 2, 3, 4] rfl rfl (by decide) (by decide) (by decide) (by decide) (fun _ => rfl) (fun u_6 H locs hG hzu_6 hP hD hS => ?_)
            replace hF := bdQ hG hF
            refine lv_if_eq (tgt := 69) hx hb dX7_lorry_25 (by decide) (fun c_7 => ?_) (fun c_7 => ?_)
            · replace hF := ifT c_7 hF
              refine lv_iconst (v := -1) hx hb dX7_lorry_69 (by decide) ?_
              exact hret ((-1 : Int32), v_lorries, a_lTown, a_lWeight, a_lSampled, a_isStruck) H locs ls _ hF hP hD hS dX7_lorry_70
            · replace hF := ifF c_7 hF
              refine lv_iload hx hb dX7_lorry_28 (lv_at hl 4 rfl) ?_
              have hn_8 := bdN hN hF
              refine callSZ (As := [.int z4]) (rest := []) (wr := [(h_t, .inr (7, [.ref h_tape, .ref h_text, .int v_taped, .int v_size, .int v_faultKind, .int v_faultPlace, .int v_at, .int v_end, .int v_token, .int v_number, .long v_name, .ref h_uName, .ref h_outName, .ref h_setName, .ref h_unitMany, .ref h_yesTo, .ref h_noTo, .ref h_settingMany, .ref h_shares, .ref h_gradeMany, .ref h_gKind, .ref h_gPurity, .ref h_gPrice, .ref h_outPlace, .ref h_setPlace, .ref h_setShare, .ref h_chosen, .int v_bank, .int v_rb, .int v_sets, .int v_missing, .ref h_rows, .ref h_parts, .long v_whole, .ref h_lTown, .ref h_lWeight, .ref h_lSampled, .ref h_hand, .ref h_isStruck, .int v_lorries, .int v_cost, .ref h_all, .ref h_bestChosen, .ref h_gets, .ref h_rests])), (h_lTown, .inl (cI, 60, .inl a_lTown)), (h_lWeight, .inl (cI, 60, .inl a_lWeight)), (h_lSampled, .inl (cI, 300, .inl a_lSampled)), (h_isStruck, .inl (cZ, 60, .inl a_isStruck))]) (W2 := fun u_9 => [(h_t, .inr (7, [.ref h_tape, .ref h_text, .int v_taped, .int v_size, .int v_faultKind, .int v_faultPlace, .int v_at, .int v_end, .int v_token, .int v_number, .long v_name, .ref h_uName, .ref h_outName, .ref h_setName, .ref h_unitMany, .ref h_yesTo, .ref h_noTo, .ref h_settingMany, .ref h_shares, .ref h_gradeMany, .ref h_gKind, .ref h_gPurity, .ref h_gPrice, .ref h_outPlace, .ref h_setPlace, .ref h_setShare, .ref h_chosen, .int v_bank, .int v_rb, .int v_sets, .int v_missing, .ref h_rows, .ref h_parts, .long v_whole, .ref h_lTown, .ref h_lWeight, .ref h_lSampled, .ref h_hand, .ref h_isStruck, .int v_lorries, .int v_cost, .ref h_all, .ref h_bestChosen, .ref h_gets, .ref h_rests])), (h_lTown, .inl (cI, 60, .inl a_lTown)), (h_lWeight, .inl (cI, 60, .inl a_lWeight)), (h_lSampled, .inl (cI, 300, .inl a_lSampled)), (h_isStruck, .inl (cZ, 60, .inl a_isStruck))]) X hE hP hD hS hA (kX7_isSample l D cB cI cJ cZ rz n H.size z4 hn_8) w_4_174 w_4_175 w_1_9 w_4_176 cb_X7_isSample rfl rfl ⟨Nat.le_of_ble_eq_true rfl, Nat.le_of_ble_eq_true rfl⟩ rfl hl.1 rfl (Nat.le_of_ble_eq_true rfl) dX7_lorry_30 ⟨Nat.le_of_ble_eq_true rfl, Nat.le_of_ble_eq_true rfl⟩ (c2 := 0) (s2 := 0) rfl rfl [] [0, 1, 2, 3, 4] [0, 1, 2, 3, 4] rfl rfl (by decide) (by decide) (by decide) (by decide) (fun _ => rfl) (fun u_9 H locs hG hzu_9 hP hD hS => ?_)
              replace hF := bdQ hG hF
              refine lv_if_eq (tgt := 69) hx hb dX7_lorry_33 (by decide) (fun c_10 => ?_) (fun c_10 => ?_)
              · replace hF := ifT c_10 hF
                refine lv_iconst (v := -1) hx hb dX7_lorry_69 (by decide) ?_
                exact hret ((-1 : Int32), v_lorries, a_lTown, a_lWeight, a_lSampled, a_isStruck) H locs ls _ hF hP hD hS dX7_lorry_70
              · replace hF := ifF c_10 hF
                refine lv_iload hx hb dX7_lorry_36 (lv_at hl 5 rfl) ?_
                have hn_11 := bdN hN hF
                refine callSZ (As := [.int z5]) (rest := []) (wr := [(h_t, .inr (7, [.ref h_tape, .ref h_text, .int v_taped, .int v_size, .int v_faultKind, .int v_faultPlace, .int v_at, .int v_end, .int v_token, .int v_number, .long v_name, .ref h_uName, .ref h_outName, .ref h_setName, .ref h_unitMany, .ref h_yesTo, .ref h_noTo, .ref h_settingMany, .ref h_shares, .ref h_gradeMany, .ref h_gKind, .ref h_gPurity, .ref h_gPrice, .ref h_outPlace, .ref h_setPlace, .ref h_setShare, .ref h_chosen, .int v_bank, .int v_rb, .int v_sets, .int v_missing, .ref h_rows, .ref h_parts, .long v_whole, .ref h_lTown, .ref h_lWeight, .ref h_lSampled, .ref h_hand, .ref h_isStruck, .int v_lorries, .int v_cost, .ref h_all, .ref h_bestChosen, .ref h_gets, .ref h_rests])), (h_lTown, .inl (cI, 60, .inl a_lTown)), (h_lWeight, .inl (cI, 60, .inl a_lWeight)), (h_lSampled, .inl (cI, 300, .inl a_lSampled)), (h_isStruck, .inl (cZ, 60, .inl a_isStruck))]) (W2 := fun u_12 => [(h_t, .inr (7, [.ref h_tape, .ref h_text, .int v_taped, .int v_size, .int v_faultKind, .int v_faultPlace, .int v_at, .int v_end, .int v_token, .int v_number, .long v_name, .ref h_uName, .ref h_outName, .ref h_setName, .ref h_unitMany, .ref h_yesTo, .ref h_noTo, .ref h_settingMany, .ref h_shares, .ref h_gradeMany, .ref h_gKind, .ref h_gPurity, .ref h_gPrice, .ref h_outPlace, .ref h_setPlace, .ref h_setShare, .ref h_chosen, .int v_bank, .int v_rb, .int v_sets, .int v_missing, .ref h_rows, .ref h_parts, .long v_whole, .ref h_lTown, .ref h_lWeight, .ref h_lSampled, .ref h_hand, .ref h_isStruck, .int v_lorries, .int v_cost, .ref h_all, .ref h_bestChosen, .ref h_gets, .ref h_rests])), (h_lTown, .inl (cI, 60, .inl a_lTown)), (h_lWeight, .inl (cI, 60, .inl a_lWeight)), (h_lSampled, .inl (cI, 300, .inl a_lSampled)), (h_isStruck, .inl (cZ, 60, .inl a_isStruck))]) X hE hP hD hS hA (kX7_isSample l D cB cI cJ cZ rz n H.size z5 hn_11) w_4_174 w_4_175 w_1_9 w_4_176 cb_X7_isSample rfl rfl ⟨Nat.le_of_ble_eq_true rfl, Nat.le_of_ble_eq_true rfl⟩ rfl hl.1 rfl (Nat.le_of_ble_eq_true rfl) dX7_lorry_38 ⟨Nat.le_of_ble_eq_true rfl, Nat.le_of_ble_eq_true rfl⟩ (c2 := 0) (s2 := 0) rfl rfl [] [0, 1, 2, 3, 4] [0, 1, 2, 3, 4] rfl rfl (by decide) (by decide) (by decide) (by decide) (fun _ => rfl) (fun u_12 H locs hG hzu_12 hP hD hS => ?_)
                replace hF := bdQ hG hF
                refine lv_if_eq (tgt := 69) hx hb dX7_lorry_41 (by decide) (fun c_13 => ?_) (fun c_13 => ?_)
                · replace hF := ifT c_13 hF
                  refine lv_iconst (v := -1) hx hb dX7_lorry_69 (by decide) ?_
                  exact hret ((-1 : Int32), v_lorries, a_lTown, a_lWeight, a_lSampled, a_isStruck) H locs ls _ hF hP hD hS dX7_lorry_70
                · replace hF := ifF c_13 hF
                  refine lv_iload hx hb dX7_lorry_44 (lv_at hl 6 rfl) ?_
                  have hn_14 := bdN hN hF
                  refine callSZ (As := [.int z6]) (rest := []) (wr := [(h_t, .inr (7, [.ref h_tape, .ref h_text, .int v_taped, .int v_size, .int v_faultKind, .int v_faultPlace, .int v_at, .int v_end, .int v_token, .int v_number, .long v_name, .ref h_uName, .ref h_outName, .ref h_setName, .ref h_unitMany, .ref h_yesTo, .ref h_noTo, .ref h_settingMany, .ref h_shares, .ref h_gradeMany, .ref h_gKind, .ref h_gPurity, .ref h_gPrice, .ref h_outPlace, .ref h_setPlace, .ref h_setShare, .ref h_chosen, .int v_bank, .int v_rb, .int v_sets, .int v_missing, .ref h_rows, .ref h_parts, .long v_whole, .ref h_lTown, .ref h_lWeight, .ref h_lSampled, .ref h_hand, .ref h_isStruck, .int v_lorries, .int v_cost, .ref h_all, .ref h_bestChosen, .ref h_gets, .ref h_rests])), (h_lTown, .inl (cI, 60, .inl a_lTown)), (h_lWeight, .inl (cI, 60, .inl a_lWeight)), (h_lSampled, .inl (cI, 300, .inl a_lSampled)), (h_isStruck, .inl (cZ, 60, .inl a_isStruck))]) (W2 := fun u_15 => [(h_t, .inr (7, [.ref h_tape, .ref h_text, .int v_taped, .int v_size, .int v_faultKind, .int v_faultPlace, .int v_at, .int v_end, .int v_token, .int v_number, .long v_name, .ref h_uName, .ref h_outName, .ref h_setName, .ref h_unitMany, .ref h_yesTo, .ref h_noTo, .ref h_settingMany, .ref h_shares, .ref h_gradeMany, .ref h_gKind, .ref h_gPurity, .ref h_gPrice, .ref h_outPlace, .ref h_setPlace, .ref h_setShare, .ref h_chosen, .int v_bank, .int v_rb, .int v_sets, .int v_missing, .ref h_rows, .ref h_parts, .long v_whole, .ref h_lTown, .ref h_lWeight, .ref h_lSampled, .ref h_hand, .ref h_isStruck, .int v_lorries, .int v_cost, .ref h_all, .ref h_bestChosen, .ref h_gets, .ref h_rests])), (h_lTown, .inl (cI, 60, .inl a_lTown)), (h_lWeight, .inl (cI, 60, .inl a_lWeight)), (h_lSampled, .inl (cI, 300, .inl a_lSampled)), (h_isStruck, .inl (cZ, 60, .inl a_isStruck))]) X hE hP hD hS hA (kX7_isSample l D cB cI cJ cZ rz n H.size z6 hn_14) w_4_174 w_4_175 w_1_9 w_4_176 cb_X7_isSample rfl rfl ⟨Nat.le_of_ble_eq_true rfl, Nat.le_of_ble_eq_true rfl⟩ rfl hl.1 rfl (Nat.le_of_ble_eq_true rfl) dX7_lorry_46 ⟨Nat.le_of_ble_eq_true rfl, Nat.le_of_ble_eq_true rfl⟩ (c2 := 0) (s2 := 0) rfl rfl [] [0, 1, 2, 3, 4] [0, 1, 2, 3, 4] rfl rfl (by decide) (by decide) (by decide) (by decide) (fun _ => rfl) (fun u_15 H locs hG hzu_15 hP hD hS => ?_)
                  replace hF := bdQ hG hF
                  refine lv_if_eq (tgt := 69) hx hb dX7_lorry_49 (by decide) (fun c_16 => ?_) (fun c_16 => ?_)
                  · replace hF := ifT c_16 hF
                    refine lv_iconst (v := -1) hx hb dX7_lorry_69 (by decide) ?_
                    exact hret ((-1 : Int32), v_lorries, a_lTown, a_lWeight, a_lSampled, a_isStruck) H locs ls _ hF hP hD hS dX7_lorry_70
                  · replace hF := ifF c_16 hF
                    refine lv_iload hx hb dX7_lorry_52 (lv_at hl 7 rfl) ?_
                    have hn_17 := bdN hN hF
                    refine callSZ (As := [.int z7]) (rest := []) (wr := [(h_t, .inr (7, [.ref h_tape, .ref h_text, .int v_taped, .int v_size, .int v_faultKind, .int v_faultPlace, .int v_at, .int v_end, .int v_token, .int v_number, .long v_name, .ref h_uName, .ref h_outName, .ref h_setName, .ref h_unitMany, .ref h_yesTo, .ref h_noTo, .ref h_settingMany, .ref h_shares, .ref h_gradeMany, .ref h_gKind, .ref h_gPurity, .ref h_gPrice, .ref h_outPlace, .ref h_setPlace, .ref h_setShare, .ref h_chosen, .int v_bank, .int v_rb, .int v_sets, .int v_missing, .ref h_rows, .ref h_parts, .long v_whole, .ref h_lTown, .ref h_lWeight, .ref h_lSampled, .ref h_hand, .ref h_isStruck, .int v_lorries, .int v_cost, .ref h_all, .ref h_bestChosen, .ref h_gets, .ref h_rests])), (h_lTown, .inl (cI, 60, .inl a_lTown)), (h_lWeight, .inl (cI, 60, .inl a_lWeight)), (h_lSampled, .inl (cI, 300, .inl a_lSampled)), (h_isStruck, .inl (cZ, 60, .inl a_isStruck))]) (W2 := fun u_18 => [(h_t, .inr (7, [.ref h_tape, .ref h_text, .int v_taped, .int v_size, .int v_faultKind, .int v_faultPlace, .int v_at, .int v_end, .int v_token, .int v_number, .long v_name, .ref h_uName, .ref h_outName, .ref h_setName, .ref h_unitMany, .ref h_yesTo, .ref h_noTo, .ref h_settingMany, .ref h_shares, .ref h_gradeMany, .ref h_gKind, .ref h_gPurity, .ref h_gPrice, .ref h_outPlace, .ref h_setPlace, .ref h_setShare, .ref h_chosen, .int v_bank, .int v_rb, .int v_sets, .int v_missing, .ref h_rows, .ref h_parts, .long v_whole, .ref h_lTown, .ref h_lWeight, .ref h_lSampled, .ref h_hand, .ref h_isStruck, .int v_lorries, .int v_cost, .ref h_all, .ref h_bestChosen, .ref h_gets, .ref h_rests])), (h_lTown, .inl (cI, 60, .inl a_lTown)), (h_lWeight, .inl (cI, 60, .inl a_lWeight)), (h_lSampled, .inl (cI, 300, .inl a_lSampled)), (h_isStruck, .inl (cZ, 60, .inl a_isStruck))]) X hE hP hD hS hA (kX7_isSample l D cB cI cJ cZ rz n H.size z7 hn_17) w_4_174 w_4_175 w_1_9 w_4_176 cb_X7_isSample rfl rfl ⟨Nat.le_of_ble_eq_true rfl, Nat.le_of_ble_eq_true rfl⟩ rfl hl.1 rfl (Nat.le_of_ble_eq_true rfl) dX7_lorry_54 ⟨Nat.le_of_ble_eq_true rfl, Nat.le_of_ble_eq_true rfl⟩ (c2 := 0) (s2 := 0) rfl rfl [] [0, 1, 2, 3, 4] [0, 1, 2, 3, 4] rfl rfl (by decide) (by decide) (by decide) (by decide) (fun _ => rfl) (fun u_18 H locs hG hzu_18 hP hD hS => ?_)
                    replace hF := bdQ hG hF
                    refine lv_if_eq (tgt := 69) hx hb dX7_lorry_57 (by decide) (fun c_19 => ?_) (fun c_19 => ?_)
                    · replace hF := ifT c_19 hF
                      refine lv_iconst (v := -1) hx hb dX7_lorry_69 (by decide) ?_
                      exact hret ((-1 : Int32), v_lorries, a_lTown, a_lWeight, a_lSampled, a_isStruck) H locs ls _ hF hP hD hS dX7_lorry_70
                    · replace hF := ifF c_19 hF
                      refine lv_aload_n hx hb dX7_lorry_60 rfl (lv_at hl 0 rfl) ?_
                      refine va_get (D := D) (ci := 7) (C := RX7) (T := TX7) (N := 45) hx hb ha inAX7 hown hK hP 0 rfl rfl 39 (by decide) (ha _ w_4_73) (fun _ h9 => h9) rfl dX7_lorry_61 ?_
                      refine lv_bipush (v := 60) hx hb dX7_lorry_64 (by decide) ?_
                      refine lv_icmp_ne (tgt := 71) hx hb dX7_lorry_66 (by decide) (fun c_20 => ?_) (fun c_20 => ?_)
                      · replace hF := ifF c_20 hF
                        refine lv_aload_n hx hb dX7_lorry_71 rfl (lv_at hl 0 rfl) ?_
                        refine va_get (D := D) (ci := 7) (C := RX7) (T := TX7) (N := 45) hx hb ha inAX7 hown hK hP 0 rfl rfl 34 (by decide) (ha _ w_4_68) (fun _ h9 => h9) rfl dX7_lorry_72 ?_
                        refine lv_aload_n hx hb dX7_lorry_75 rfl (lv_at hl 0 rfl) ?_
                        refine va_get (D := D) (ci := 7) (C := RX7) (T := TX7) (N := 45) hx hb ha inAX7 hown hK hP 0 rfl rfl 39 (by decide) (ha _ w_4_73) (fun _ h9 => h9) rfl dX7_lorry_76 ?_
                        refine lv_iload_n hx hb dX7_lorry_79 rfl (lv_at hl 1 rfl) ?_
                        replace hF := ckP hN hF
                        obtain ⟨c_21, hF⟩ := hF
                        obtain ⟨f_22, ef_22⟩ : ∃ g : Nat → Int32, g = upd a_lTown (v_lorries).toNatClampNeg z1 := ⟨_, rfl⟩
                        replace hF := ltP ef_22 hF
                        refine st_i (g := f_22) (W2 := [(h_t, .inr (7, [.ref h_tape, .ref h_text, .int v_taped, .int v_size, .int v_faultKind, .int v_faultPlace, .int v_at, .int v_end, .int v_token, .int v_number, .long v_name, .ref h_uName, .ref h_outName, .ref h_setName, .ref h_unitMany, .ref h_yesTo, .ref h_noTo, .ref h_settingMany, .ref h_shares, .ref h_gradeMany, .ref h_gKind, .ref h_gPurity, .ref h_gPrice, .ref h_outPlace, .ref h_setPlace, .ref h_setShare, .ref h_chosen, .int v_bank, .int v_rb, .int v_sets, .int v_missing, .ref h_rows, .ref h_parts, .long v_whole, .ref h_lTown, .ref h_lWeight, .ref h_lSampled, .ref h_hand, .ref h_isStruck, .int v_lorries, .int v_cost, .ref h_all, .ref h_bestChosen, .ref h_gets, .ref h_rests])), (h_lTown, .inl (cI, 60, .inl f_22)), (h_lWeight, .inl (cI, 60, .inl a_lWeight)), (h_lSampled, .inl (cI, 300, .inl a_lSampled)), (h_isStruck, .inl (cZ, 60, .inl a_isStruck))]) hx hb hK hP hD hS 1 rfl c_21 ef_22 dX7_lorry_80 rfl (fun H locs hP hD hS => ?_)
                        refine lv_aload_n hx hb dX7_lorry_81 rfl (lv_at hl 0 rfl) ?_
                        refine va_get (D := D) (ci := 7) (C := RX7) (T := TX7) (N := 45) hx hb ha inAX7 hown hK hP 0 rfl rfl 35 (by decide) (ha _ w_4_69) (fun _ h9 => h9) rfl dX7_lorry_82 ?_
                        refine lv_aload_n hx hb dX7_lorry_85 rfl (lv_at hl 0 rfl) ?_
                        refine va_get (D := D) (ci := 7) (C := RX7) (T := TX7) (N := 45) hx hb ha inAX7 hown hK hP 0 rfl rfl 39 (by decide) (ha _ w_4_73) (fun _ h9 => h9) rfl dX7_lorry_86 ?_
                        refine lv_iload_n hx hb dX7_lorry_89 rfl (lv_at hl 2 rfl) ?_
                        replace hF := ckP hN hF
                        obtain ⟨c_23, hF⟩ := hF
                        obtain ⟨f_24, ef_24⟩ : ∃ g : Nat → Int32, g = upd a_lWeight (v_lorries).toNatClampNeg z2 := ⟨_, rfl⟩
                        replace hF := ltP ef_24 hF
                        refine st_i (g := f_24) (W2 := [(h_t, .inr (7, [.ref h_tape, .ref h_text, .int v_taped, .int v_size, .int v_faultKind, .int v_faultPlace, .int v_at, .int v_end, .int v_token, .int v_number, .long v_name, .ref h_uName, .ref h_outName, .ref h_setName, .ref h_unitMany, .ref h_yesTo, .ref h_noTo, .ref h_settingMany, .ref h_shares, .ref h_gradeMany, .ref h_gKind, .ref h_gPurity, .ref h_gPrice, .ref h_outPlace, .ref h_setPlace, .ref h_setShare, .ref h_chosen, .int v_bank, .int v_rb, .int v_sets, .int v_missing, .ref h_rows, .ref h_parts, .long v_whole, .ref h_lTown, .ref h_lWeight, .ref h_lSampled, .ref h_hand, .ref h_isStruck, .int v_lorries, .int v_cost, .ref h_all, .ref h_bestChosen, .ref h_gets, .ref h_rests])), (h_lTown, .inl (cI, 60, .inl f_22)), (h_lWeight, .inl (cI, 60, .inl f_24)), (h_lSampled, .inl (cI, 300, .inl a_lSampled)), (h_isStruck, .inl (cZ, 60, .inl a_isStruck))]) hx hb hK hP hD hS 2 rfl c_23 ef_24 dX7_lorry_90 rfl (fun H locs hP hD hS => ?_)
                        refine lv_aload_n hx hb dX7_lorry_91 rfl (lv_at hl 0 rfl) ?_
                        refine va_get (D := D) (ci := 7) (C := RX7) (T := TX7) (N := 45) hx hb ha inAX7 hown hK hP 0 rfl rfl 36 (by decide) (ha _ w_4_70) (fun _ h9 => h9) rfl dX7_lorry_92 ?_
                        refine lv_iconst (v := 5) hx hb dX7_lorry_95 (by decide) ?_
                        refine lv_aload_n hx hb dX7_lorry_96 rfl (lv_at hl 0 rfl) ?_
                        refine va_get (D := D) (ci := 7) (C := RX7) (T := TX7) (N := 45) hx hb ha inAX7 hown hK hP 0 rfl rfl 39 (by decide) (ha _ w_4_73) (fun _ h9 => h9) rfl dX7_lorry_97 ?_
                        refine lv_imul hx hb dX7_lorry_100 ?_
                        refine lv_iload_n hx hb dX7_lorry_101 rfl (lv_at hl 3 rfl) ?_
                        replace hF := ckP hN hF
                        obtain ⟨c_25, hF⟩ := hF
                        obtain ⟨f_26, ef_26⟩ : ∃ g : Nat → Int32, g = upd a_lSampled (((5 : Int32) * v_lorries)).toNatClampNeg z3 := ⟨_, rfl⟩
                        replace hF := ltP ef_26 hF
                        refine st_i (g := f_26) (W2 := [(h_t, .inr (7, [.ref h_tape, .ref h_text, .int v_taped, .int v_size, .int v_faultKind, .int v_faultPlace, .int v_at, .int v_end, .int v_token, .int v_number, .long v_name, .ref h_uName, .ref h_outName, .ref h_setName, .ref h_unitMany, .ref h_yesTo, .ref h_noTo, .ref h_settingMany, .ref h_shares, .ref h_gradeMany, .ref h_gKind, .ref h_gPurity, .ref h_gPrice, .ref h_outPlace, .ref h_setPlace, .ref h_setShare, .ref h_chosen, .int v_bank, .int v_rb, .int v_sets, .int v_missing, .ref h_rows, .ref h_parts, .long v_whole, .ref h_lTown, .ref h_lWeight, .ref h_lSampled, .ref h_hand, .ref h_isStruck, .int v_lorries, .int v_cost, .ref h_all, .ref h_bestChosen, .ref h_gets, .ref h_rests])), (h_lTown, .inl (cI, 60, .inl f_22)), (h_lWeight, .inl (cI, 60, .inl f_24)), (h_lSampled, .inl (cI, 300, .inl f_26)), (h_isStruck, .inl (cZ, 60, .inl a_isStruck))]) hx hb hK hP hD hS 3 rfl c_25 ef_26 dX7_lorry_102 rfl (fun H locs hP hD hS => ?_)
                        refine lv_aload_n hx hb dX7_lorry_103 rfl (lv_at hl 0 rfl) ?_
                        refine va_get (D := D) (ci := 7) (C := RX7) (T := TX7) (N := 45) hx hb ha inAX7 hown hK hP 0 rfl rfl 36 (by decide) (ha _ w_4_70) (fun _ h9 => h9) rfl dX7_lorry_104 ?_
                        refine lv_iconst (v := 5) hx hb dX7_lorry_107 (by decide) ?_
                        refine lv_aload_n hx hb dX7_lorry_108 rfl (lv_at hl 0 rfl) ?_
                        refine va_get (D := D) (ci := 7) (C := RX7) (T := TX7) (N := 45) hx hb ha inAX7 hown hK hP 0 rfl rfl 39 (by decide) (ha _ w_4_73) (fun _ h9 => h9) rfl dX7_lorry_109 ?_
                        refine lv_imul hx hb dX7_lorry_112 ?_
                        refine lv_iconst (v := 1) hx hb dX7_lorry_113 (by decide) ?_
                        refine lv_iadd hx hb dX7_lorry_114 ?_
                        refine lv_iload hx hb dX7_lorry_115 (lv_at hl 4 rfl) ?_
                        replace hF := ckP hN hF
                        obtain ⟨c_27, hF⟩ := hF
                        obtain ⟨f_28, ef_28⟩ : ∃ g : Nat → Int32, g = upd f_26 ((((5 : Int32) * v_lorries) + (1 : Int32))).toNatClampNeg z4 := ⟨_, rfl⟩
                        replace hF := ltP ef_28 hF
                        refine st_i (g := f_28) (W2 := [(h_t, .inr (7, [.ref h_tape, .ref h_text, .int v_taped, .int v_size, .int v_faultKind, .int v_faultPlace, .int v_at, .int v_end, .int v_token, .int v_number, .long v_name, .ref h_uName, .ref h_outName, .ref h_setName, .ref h_unitMany, .ref h_yesTo, .ref h_noTo, .ref h_settingMany, .ref h_shares, .ref h_gradeMany, .ref h_gKind, .ref h_gPurity, .ref h_gPrice, .ref h_outPlace, .ref h_setPlace, .ref h_setShare, .ref h_chosen, .int v_bank, .int v_rb, .int v_sets, .int v_missing, .ref h_rows, .ref h_parts, .long v_whole, .ref h_lTown, .ref h_lWeight, .ref h_lSampled, .ref h_hand, .ref h_isStruck, .int v_lorries, .int v_cost, .ref h_all, .ref h_bestChosen, .ref h_gets, .ref h_rests])), (h_lTown, .inl (cI, 60, .inl f_22)), (h_lWeight, .inl (cI, 60, .inl f_24)), (h_lSampled, .inl (cI, 300, .inl f_28)), (h_isStruck, .inl (cZ, 60, .inl a_isStruck))]) hx hb hK hP hD hS 3 rfl c_27 ef_28 dX7_lorry_117 rfl (fun H locs hP hD hS => ?_)
                        refine lv_aload_n hx hb dX7_lorry_118 rfl (lv_at hl 0 rfl) ?_
                        refine va_get (D := D) (ci := 7) (C := RX7) (T := TX7) (N := 45) hx hb ha inAX7 hown hK hP 0 rfl rfl 36 (by decide) (ha _ w_4_70) (fun _ h9 => h9) rfl dX7_lorry_119 ?_
                        refine lv_iconst (v := 5) hx hb dX7_lorry_122 (by decide) ?_
                        refine lv_aload_n hx hb dX7_lorry_123 rfl (lv_at hl 0 rfl) ?_
                        refine va_get (D := D) (ci := 7) (C := RX7) (T := TX7) (N := 45) hx hb ha inAX7 hown hK hP 0 rfl rfl 39 (by decide) (ha _ w_4_73) (fun _ h9 => h9) rfl dX7_lorry_124 ?_
                        refine lv_imul hx hb dX7_lorry_127 ?_
                        refine lv_iconst (v := 2) hx hb dX7_lorry_128 (by decide) ?_
                        refine lv_iadd hx hb dX7_lorry_129 ?_
                        refine lv_iload hx hb dX7_lorry_130 (lv_at hl 5 rfl) ?_
                        replace hF := ckP hN hF
                        obtain ⟨c_29, hF⟩ := hF
                        obtain ⟨f_30, ef_30⟩ : ∃ g : Nat → Int32, g = upd f_28 ((((5 : Int32) * v_lorries) + (2 : Int32))).toNatClampNeg z5 := ⟨_, rfl⟩
                        replace hF := ltP ef_30 hF
                        refine st_i (g := f_30) (W2 := [(h_t, .inr (7, [.ref h_tape, .ref h_text, .int v_taped, .int v_size, .int v_faultKind, .int v_faultPlace, .int v_at, .int v_end, .int v_token, .int v_number, .long v_name, .ref h_uName, .ref h_outName, .ref h_setName, .ref h_unitMany, .ref h_yesTo, .ref h_noTo, .ref h_settingMany, .ref h_shares, .ref h_gradeMany, .ref h_gKind, .ref h_gPurity, .ref h_gPrice, .ref h_outPlace, .ref h_setPlace, .ref h_setShare, .ref h_chosen, .int v_bank, .int v_rb, .int v_sets, .int v_missing, .ref h_rows, .ref h_parts, .long v_whole, .ref h_lTown, .ref h_lWeight, .ref h_lSampled, .ref h_hand, .ref h_isStruck, .int v_lorries, .int v_cost, .ref h_all, .ref h_bestChosen, .ref h_gets, .ref h_rests])), (h_lTown, .inl (cI, 60, .inl f_22)), (h_lWeight, .inl (cI, 60, .inl f_24)), (h_lSampled, .inl (cI, 300, .inl f_30)), (h_isStruck, .inl (cZ, 60, .inl a_isStruck))]) hx hb hK hP hD hS 3 rfl c_29 ef_30 dX7_lorry_132 rfl (fun H locs hP hD hS => ?_)
                        refine lv_aload_n hx hb dX7_lorry_133 rfl (lv_at hl 0 rfl) ?_
                        refine va_get (D := D) (ci := 7) (C := RX7) (T := TX7) (N := 45) hx hb ha inAX7 hown hK hP 0 rfl rfl 36 (by decide) (ha _ w_4_70) (fun _ h9 => h9) rfl dX7_lorry_134 ?_
                        refine lv_iconst (v := 5) hx hb dX7_lorry_137 (by decide) ?_
                        refine lv_aload_n hx hb dX7_lorry_138 rfl (lv_at hl 0 rfl) ?_
                        refine va_get (D := D) (ci := 7) (C := RX7) (T := TX7) (N := 45) hx hb ha inAX7 hown hK hP 0 rfl rfl 39 (by decide) (ha _ w_4_73) (fun _ h9 => h9) rfl dX7_lorry_139 ?_
                        refine lv_imul hx hb dX7_lorry_142 ?_
                        refine lv_iconst (v := 3) hx hb dX7_lorry_143 (by decide) ?_
                        refine lv_iadd hx hb dX7_lorry_144 ?_
                        refine lv_iload hx hb dX7_lorry_145 (lv_at hl 6 rfl) ?_
                        replace hF := ckP hN hF
                        obtain ⟨c_31, hF⟩ := hF
                        obtain ⟨f_32, ef_32⟩ : ∃ g : Nat → Int32, g = upd f_30 ((((5 : Int32) * v_lorries) + (3 : Int32))).toNatClampNeg z6 := ⟨_, rfl⟩
                        replace hF := ltP ef_32 hF
                        refine st_i (g := f_32) (W2 := [(h_t, .inr (7, [.ref h_tape, .ref h_text, .int v_taped, .int v_size, .int v_faultKind, .int v_faultPlace, .int v_at, .int v_end, .int v_token, .int v_number, .long v_name, .ref h_uName, .ref h_outName, .ref h_setName, .ref h_unitMany, .ref h_yesTo, .ref h_noTo, .ref h_settingMany, .ref h_shares, .ref h_gradeMany, .ref h_gKind, .ref h_gPurity, .ref h_gPrice, .ref h_outPlace, .ref h_setPlace, .ref h_setShare, .ref h_chosen, .int v_bank, .int v_rb, .int v_sets, .int v_missing, .ref h_rows, .ref h_parts, .long v_whole, .ref h_lTown, .ref h_lWeight, .ref h_lSampled, .ref h_hand, .ref h_isStruck, .int v_lorries, .int v_cost, .ref h_all, .ref h_bestChosen, .ref h_gets, .ref h_rests])), (h_lTown, .inl (cI, 60, .inl f_22)), (h_lWeight, .inl (cI, 60, .inl f_24)), (h_lSampled, .inl (cI, 300, .inl f_32)), (h_isStruck, .inl (cZ, 60, .inl a_isStruck))]) hx hb hK hP hD hS 3 rfl c_31 ef_32 dX7_lorry_147 rfl (fun H locs hP hD hS => ?_)
                        refine lv_aload_n hx hb dX7_lorry_148 rfl (lv_at hl 0 rfl) ?_
                        refine va_get (D := D) (ci := 7) (C := RX7) (T := TX7) (N := 45) hx hb ha inAX7 hown hK hP 0 rfl rfl 36 (by decide) (ha _ w_4_70) (fun _ h9 => h9) rfl dX7_lorry_149 ?_
                        refine lv_iconst (v := 5) hx hb dX7_lorry_152 (by decide) ?_
                        refine lv_aload_n hx hb dX7_lorry_153 rfl (lv_at hl 0 rfl) ?_
                        refine va_get (D := D) (ci := 7) (C := RX7) (T := TX7) (N := 45) hx hb ha inAX7 hown hK hP 0 rfl rfl 39 (by decide) (ha _ w_4_73) (fun _ h9 => h9) rfl dX7_lorry_154 ?_
                        refine lv_imul hx hb dX7_lorry_157 ?_
                        refine lv_iconst (v := 4) hx hb dX7_lorry_158 (by decide) ?_
                        refine lv_iadd hx hb dX7_lorry_159 ?_
                        refine lv_iload hx hb dX7_lorry_160 (lv_at hl 7 rfl) ?_
                        replace hF := ckP hN hF
                        obtain ⟨c_33, hF⟩ := hF
                        obtain ⟨f_34, ef_34⟩ : ∃ g : Nat → Int32, g = upd f_32 ((((5 : Int32) * v_lorries) + (4 : Int32))).toNatClampNeg z7 := ⟨_, rfl⟩
                        replace hF := ltP ef_34 hF
                        refine st_i (g := f_34) (W2 := [(h_t, .inr (7, [.ref h_tape, .ref h_text, .int v_taped, .int v_size, .int v_faultKind, .int v_faultPlace, .int v_at, .int v_end, .int v_token, .int v_number, .long v_name, .ref h_uName, .ref h_outName, .ref h_setName, .ref h_unitMany, .ref h_yesTo, .ref h_noTo, .ref h_settingMany, .ref h_shares, .ref h_gradeMany, .ref h_gKind, .ref h_gPurity, .ref h_gPrice, .ref h_outPlace, .ref h_setPlace, .ref h_setShare, .ref h_chosen, .int v_bank, .int v_rb, .int v_sets, .int v_missing, .ref h_rows, .ref h_parts, .long v_whole, .ref h_lTown, .ref h_lWeight, .ref h_lSampled, .ref h_hand, .ref h_isStruck, .int v_lorries, .int v_cost, .ref h_all, .ref h_bestChosen, .ref h_gets, .ref h_rests])), (h_lTown, .inl (cI, 60, .inl f_22)), (h_lWeight, .inl (cI, 60, .inl f_24)), (h_lSampled, .inl (cI, 300, .inl f_34)), (h_isStruck, .inl (cZ, 60, .inl a_isStruck))]) hx hb hK hP hD hS 3 rfl c_33 ef_34 dX7_lorry_162 rfl (fun H locs hP hD hS => ?_)
                        refine lv_aload_n hx hb dX7_lorry_163 rfl (lv_at hl 0 rfl) ?_
                        refine va_get (D := D) (ci := 7) (C := RX7) (T := TX7) (N := 45) hx hb ha inAX7 hown hK hP 0 rfl rfl 38 (by decide) (ha _ w_4_72) (fun _ h9 => h9) rfl dX7_lorry_164 ?_
                        refine lv_aload_n hx hb dX7_lorry_167 rfl (lv_at hl 0 rfl) ?_
                        refine va_get (D := D) (ci := 7) (C := RX7) (T := TX7) (N := 45) hx hb ha inAX7 hown hK hP 0 rfl rfl 39 (by decide) (ha _ w_4_73) (fun _ h9 => h9) rfl dX7_lorry_168 ?_
                        refine lv_iconst (v := 0) hx hb dX7_lorry_171 (by decide) ?_
                        replace hF := ckP hN hF
                        obtain ⟨c_35, hF⟩ := hF
                        obtain ⟨f_36, ef_36⟩ : ∃ g : Nat → Int32, g = upd a_isStruck (v_lorries).toNatClampNeg (vp_nar .boolean (0 : Int32)) := ⟨_, rfl⟩
                        replace hF := ltP ef_36 hF
                        refine st_z (g := f_36) (W2 := [(h_t, .inr (7, [.ref h_tape, .ref h_text, .int v_taped, .int v_size, .int v_faultKind, .int v_faultPlace, .int v_at, .int v_end, .int v_token, .int v_number, .long v_name, .ref h_uName, .ref h_outName, .ref h_setName, .ref h_unitMany, .ref h_yesTo, .ref h_noTo, .ref h_settingMany, .ref h_shares, .ref h_gradeMany, .ref h_gKind, .ref h_gPurity, .ref h_gPrice, .ref h_outPlace, .ref h_setPlace, .ref h_setShare, .ref h_chosen, .int v_bank, .int v_rb, .int v_sets, .int v_missing, .ref h_rows, .ref h_parts, .long v_whole, .ref h_lTown, .ref h_lWeight, .ref h_lSampled, .ref h_hand, .ref h_isStruck, .int v_lorries, .int v_cost, .ref h_all, .ref h_bestChosen, .ref h_gets, .ref h_rests])), (h_lTown, .inl (cI, 60, .inl f_22)), (h_lWeight, .inl (cI, 60, .inl f_24)), (h_lSampled, .inl (cI, 300, .inl f_34)), (h_isStruck, .inl (cZ, 60, .inl f_36))]) hx hb hK hP hD hS 4 rfl c_35 ef_36 dX7_lorry_172 rfl (fun H locs hP hD hS => ?_)
                        refine lv_aload_n hx hb dX7_lorry_173 rfl (lv_at hl 0 rfl) ?_
                        refine lv_dup hx hb dX7_lorry_174 rfl ?_
                        refine va_get (D := D) (ci := 7) (C := RX7) (T := TX7) (N := 45) hx hb ha inAX7 hown hK hP 0 rfl rfl 39 (by decide) (ha _ w_4_73) (fun _ h9 => h9) rfl dX7_lorry_175 ?_
                        refine lv_iconst (v := 1) hx hb dX7_lorry_178 (by decide) ?_
                        refine lv_iadd hx hb dX7_lorry_179 ?_
                        refine lv_topi (fun x_37 ex_37 => ?_)
                        replace hF := ltP ex_37 hF
                        refine pt (C := RX7) (T := TX7) (N := 45) (ci := 7) (v := .int x_37) (W2 := [(h_t, .inr (7, [.ref h_tape, .ref h_text, .int v_taped, .int v_size, .int v_faultKind, .int v_faultPlace, .int v_at, .int v_end, .int v_token, .int v_number, .long v_name, .ref h_uName, .ref h_outName, .ref h_setName, .ref h_unitMany, .ref h_yesTo, .ref h_noTo, .ref h_settingMany, .ref h_shares, .ref h_gradeMany, .ref h_gKind, .ref h_gPurity, .ref h_gPrice, .ref h_outPlace, .ref h_setPlace, .ref h_setShare, .ref h_chosen, .int v_bank, .int v_rb, .int v_sets, .int v_missing, .ref h_rows, .ref h_parts, .long v_whole, .ref h_lTown, .ref h_lWeight, .ref h_lSampled, .ref h_hand, .ref h_isStruck, .int x_37, .int v_cost, .ref h_all, .ref h_bestChosen, .ref h_gets, .ref h_rests])), (h_lTown, .inl (cI, 60, .inl f_22)), (h_lWeight, .inl (cI, 60, .inl f_24)), (h_lSampled, .inl (cI, 300, .inl f_34)), (h_isStruck, .inl (cZ, 60, .inl f_36))]) hx hb ha inAX7 tyX7 tyX7_ok nmX7 hown hK hP hD hS 0 rfl rfl 39 (by decide) (ha _ w_4_73) rfl rfl rfl rfl (Nat.le_of_ble_eq_true rfl) dX7_lorry_180 rfl (fun H locs hP hD hS => ?_)
                        refine lv_aload_n hx hb dX7_lorry_183 rfl (lv_at hl 0 rfl) ?_
                        refine va_get (D := D) (ci := 7) (C := RX7) (T := TX7) (N := 45) hx hb ha inAX7 hown hK hP 0 rfl rfl 39 (by decide) (ha _ w_4_73) (fun _ h9 => h9) rfl dX7_lorry_184 ?_
                        refine lv_iconst (v := 1) hx hb dX7_lorry_187 (by decide) ?_
                        refine lv_isub hx hb dX7_lorry_188 ?_
                        exact hret ((x_37 - (1 : Int32)), x_37, f_22, f_24, f_34, f_36) H locs ls _ hF hP hD hS dX7_lorry_189
                      · replace hF := ifT c_20 hF
                        refine lv_iconst (v := -1) hx hb dX7_lorry_69 (by decide) ?_
                        exact hret ((-1 : Int32), v_lorries, a_lTown, a_lWeight, a_lSampled, a_isStruck) H locs ls _ hF hP hD hS dX7_lorry_70
  rw [hH, hlo] at goal
  exact goal
theorem dX7_strike_0 : decode cX7_strike 0 = .ok (.iload_n 1, 1) := by decide +kernel
theorem dX7_strike_1 : decode cX7_strike 1 = .ok (.ifCond .lt 20, 3) := by decide +kernel
theorem dX7_strike_4 : decode cX7_strike 4 = .ok (.iload_n 1, 1) := by decide +kernel
theorem dX7_strike_5 : decode cX7_strike 5 = .ok (.aload_n 0, 1) := by decide +kernel
theorem dX7_strike_6 : decode cX7_strike 6 = .ok (.getfield 257, 3) := by decide +kernel
theorem dX7_strike_9 : decode cX7_strike 9 = .ok (.if_icmp .ge 12, 3) := by decide +kernel
theorem dX7_strike_12 : decode cX7_strike 12 = .ok (.aload_n 0, 1) := by decide +kernel
theorem dX7_strike_13 : decode cX7_strike 13 = .ok (.getfield 235, 3) := by decide +kernel
theorem dX7_strike_16 : decode cX7_strike 16 = .ok (.iload_n 1, 1) := by decide +kernel
theorem dX7_strike_17 : decode cX7_strike 17 = .ok (.baload, 1) := by decide +kernel
theorem dX7_strike_18 : decode cX7_strike 18 = .ok (.ifCond .eq 5, 3) := by decide +kernel
theorem dX7_strike_21 : decode cX7_strike 21 = .ok (.iconst 0, 1) := by decide +kernel
theorem dX7_strike_22 : decode cX7_strike 22 = .ok (.ireturn, 1) := by decide +kernel
theorem dX7_strike_23 : decode cX7_strike 23 = .ok (.aload_n 0, 1) := by decide +kernel
theorem dX7_strike_24 : decode cX7_strike 24 = .ok (.getfield 235, 3) := by decide +kernel
theorem dX7_strike_27 : decode cX7_strike 27 = .ok (.iload_n 1, 1) := by decide +kernel
theorem dX7_strike_28 : decode cX7_strike 28 = .ok (.iconst 1, 1) := by decide +kernel
theorem dX7_strike_29 : decode cX7_strike 29 = .ok (.bastore, 1) := by decide +kernel
theorem dX7_strike_30 : decode cX7_strike 30 = .ok (.iconst 1, 1) := by decide +kernel
theorem dX7_strike_31 : decode cX7_strike 31 = .ok (.ireturn, 1) := by decide +kernel
abbrev rmX7_strike : Room := { frames := 0, cells := 0, slots := 0, locals := 0 }
theorem cb_X7_strike : CBn yX7_strike 1 := ⟨by decide +kernel, by decide +kernel, by decide +kernel⟩
def FX7_strike (n : Nat) (v_lorries : Int32) (a_isStruck : Nat → Int32) (z1 : Int32) : Option (Int32 × (Nat → Int32)) := if z1 < 0 then (some ((0 : Int32), a_isStruck)) else (if v_lorries ≤ z1 then (some ((0 : Int32), a_isStruck)) else (if ¬ (z1 < 0 ∨ 60 ≤ (z1).toNatClampNeg) then (if (a_isStruck (z1).toNatClampNeg) = 0 then (if ¬ (z1 < 0 ∨ 60 ≤ (z1).toNatClampNeg) then (lt1 (upd a_isStruck (z1).toNatClampNeg (vp_nar .boolean (1 : Int32))) (fun f_6 => some ((1 : Int32), f_6))) else none) else (some ((0 : Int32), a_isStruck))) else none))
set_option maxHeartbeats 4000000 in
set_option maxRecDepth 100000 in
theorem kX7_strike (l : Launch) (D : va_G) (cB cI cJ cZ : ClassId) (rz n sz : Nat) (h_t : Nat) (h_isStruck : Nat) (h_tape : Nat) (h_text : Nat) (h_uName : Nat) (h_outName : Nat) (h_setName : Nat) (h_unitMany : Nat) (h_yesTo : Nat) (h_noTo : Nat) (h_settingMany : Nat) (h_shares : Nat) (h_gradeMany : Nat) (h_gKind : Nat) (h_gPurity : Nat) (h_gPrice : Nat) (h_outPlace : Nat) (h_setPlace : Nat) (h_setShare : Nat) (h_chosen : Nat) (h_rows : Nat) (h_parts : Nat) (h_lTown : Nat) (h_lWeight : Nat) (h_lSampled : Nat) (h_hand : Nat) (h_all : Nat) (h_bestChosen : Nat) (h_gets : Nat) (h_rests : Nat) (v_taped : Int32) (v_size : Int32) (v_faultKind : Int32) (v_faultPlace : Int32) (v_at : Int32) (v_end : Int32) (v_token : Int32) (v_number : Int32) (v_name : Int64) (v_bank : Int32) (v_rb : Int32) (v_sets : Int32) (v_missing : Int32) (v_whole : Int64) (v_lorries : Int32) (v_cost : Int32) (a_isStruck : Nat → Int32) (z1 : Int32) (hN : FX7_strike n v_lorries a_isStruck z1 ≠ none) : Met l yX7_strike (Cond.code yX7_strike cX7_strike 2 (some .boolean) :: AL) rmX7_strike (PW D cB cI cJ cZ rz [.ref h_t, .int z1] [(h_t, .inr (7, [.ref h_tape, .ref h_text, .int v_taped, .int v_size, .int v_faultKind, .int v_faultPlace, .int v_at, .int v_end, .int v_token, .int v_number, .long v_name, .ref h_uName, .ref h_outName, .ref h_setName, .ref h_unitMany, .ref h_yesTo, .ref h_noTo, .ref h_settingMany, .ref h_shares, .ref h_gradeMany, .ref h_gKind, .ref h_gPurity, .ref h_gPrice, .ref h_outPlace, .ref h_setPlace, .ref h_setShare, .ref h_chosen, .int v_bank, .int v_rb, .int v_sets, .int v_missing, .ref h_rows, .ref h_parts, .long v_whole, .ref h_lTown, .ref h_lWeight, .ref h_lSampled, .ref h_hand, .ref h_isStruck, .int v_lorries, .int v_cost, .ref h_all, .ref h_bestChosen, .ref h_gets, .ref h_rests])), (h_isStruck, .inl (cZ, 60, .inl a_isStruck))] sz) (QZ D (FX7_strike n v_lorries a_isStruck z1) (fun u => [(h_t, .inr (7, [.ref h_tape, .ref h_text, .int v_taped, .int v_size, .int v_faultKind, .int v_faultPlace, .int v_at, .int v_end, .int v_token, .int v_number, .long v_name, .ref h_uName, .ref h_outName, .ref h_setName, .ref h_unitMany, .ref h_yesTo, .ref h_noTo, .ref h_settingMany, .ref h_shares, .ref h_gradeMany, .ref h_gKind, .ref h_gPurity, .ref h_gPrice, .ref h_outPlace, .ref h_setPlace, .ref h_setShare, .ref h_chosen, .int v_bank, .int v_rb, .int v_sets, .int v_missing, .ref h_rows, .ref h_parts, .long v_whole, .ref h_lTown, .ref h_lWeight, .ref h_lSampled, .ref h_hand, .ref h_isStruck, .int v_lorries, .int v_cost, .ref h_all, .ref h_bestChosen, .ref h_gets, .ref h_rests])), (h_isStruck, .inl (cZ, 60, .inl u.2))]) (va_A [(h_t, .inr (7, [.ref h_tape, .ref h_text, .int v_taped, .int v_size, .int v_faultKind, .int v_faultPlace, .int v_at, .int v_end, .int v_token, .int v_number, .long v_name, .ref h_uName, .ref h_outName, .ref h_setName, .ref h_unitMany, .ref h_yesTo, .ref h_noTo, .ref h_settingMany, .ref h_shares, .ref h_gradeMany, .ref h_gKind, .ref h_gPurity, .ref h_gPrice, .ref h_outPlace, .ref h_setPlace, .ref h_setShare, .ref h_chosen, .int v_bank, .int v_rb, .int v_sets, .int v_missing, .ref h_rows, .ref h_parts, .long v_whole, .ref h_lTown, .ref h_lWeight, .ref h_lSampled, .ref h_hand, .ref h_isStruck, .int v_lorries, .int v_cost, .ref h_all, .ref h_bestChosen, .ref h_gets, .ref h_rests])), (h_isStruck, .inl (cZ, 60, .inl a_isStruck))] sz)) 0 0 (va_A [(h_t, .inr (7, [.ref h_tape, .ref h_text, .int v_taped, .int v_size, .int v_faultKind, .int v_faultPlace, .int v_at, .int v_end, .int v_token, .int v_number, .long v_name, .ref h_uName, .ref h_outName, .ref h_setName, .ref h_unitMany, .ref h_yesTo, .ref h_noTo, .ref h_settingMany, .ref h_shares, .ref h_gradeMany, .ref h_gKind, .ref h_gPurity, .ref h_gPrice, .ref h_outPlace, .ref h_setPlace, .ref h_setShare, .ref h_chosen, .int v_bank, .int v_rb, .int v_sets, .int v_missing, .ref h_rows, .ref h_parts, .long v_whole, .ref h_lTown, .ref h_lWeight, .ref h_lSampled, .ref h_hand, .ref h_isStruck, .int v_lorries, .int v_cost, .ref h_all, .ref h_bestChosen, .ref h_gets, .ref h_rests])), (h_isStruck, .inl (cZ, 60, .inl a_isStruck))] sz) := by
  obtain ⟨O, hF⟩ : ∃ O, FX7_strike n v_lorries a_isStruck z1 = O := ⟨_, rfl⟩
  rw [hF] at hN ⊢
  refine enterZ (cc := cX7_strike) (nL := 2) (by decide) (Nat.le_of_ble_eq_true rfl) ?_
  intro p e s m below meth c A Q X hA hE hnm hsz hP hD hS hret ls hl
  obtain ⟨hx, hb, hml, hown0, ha⟩ := id X
  have hown : s.vm.findClass RX7 = some m.cls := hown0
  have hK := hE.1
  have hl : lv_has ls 2 [(0, .ref h_t), (1, .int z1)] := hl
  have hX : CallFix p m c cX7_strike 2 s ([.ref h_t, .int z1] : List Value).toArray AL RX7 := X
  have X := hX
  unfold FX7_strike at hF
  obtain ⟨H, hH⟩ : ∃ H, H = s.heap := ⟨_, rfl⟩
  obtain ⟨locs, hlo⟩ : ∃ locs : List Loc, locs = [] := ⟨_, rfl⟩
  have hS : va_S A s.heap H locs := by rw [hH, hlo]; exact hS
  rw [← hH] at hP
  have goal : W p l e rmX7_strike s m ([.ref h_t, .int z1] : List Value).toArray below meth c H locs 0 0 Q (F0 m 0 ls []) := by
    refine lv_iload_n hx hb dX7_strike_0 rfl (lv_at hl 1 rfl) ?_
    refine lv_if_lt (tgt := 21) hx hb dX7_strike_1 (by decide) (fun c_1 => ?_) (fun c_1 => ?_)
    · replace hF := ifT c_1 hF
      refine lv_iconst (v := 0) hx hb dX7_strike_21 (by decide) ?_
      exact hret ((0 : Int32), a_isStruck) H locs ls _ hF nz0 hP hD hS dX7_strike_22
    · replace hF := ifF c_1 hF
      refine lv_iload_n hx hb dX7_strike_4 rfl (lv_at hl 1 rfl) ?_
      refine lv_aload_n hx hb dX7_strike_5 rfl (lv_at hl 0 rfl) ?_
      refine va_get (D := D) (ci := 7) (C := RX7) (T := TX7) (N := 45) hx hb ha inAX7 hown hK hP 0 rfl rfl 39 (by decide) (ha _ w_4_73) (fun _ h9 => h9) rfl dX7_strike_6 ?_
      refine lv_icmp_ge (tgt := 21) hx hb dX7_strike_9 (by decide) (fun c_2 => ?_) (fun c_2 => ?_)
      · replace hF := ifT c_2 hF
        refine lv_iconst (v := 0) hx hb dX7_strike_21 (by decide) ?_
        exact hret ((0 : Int32), a_isStruck) H locs ls _ hF nz0 hP hD hS dX7_strike_22
      · replace hF := ifF c_2 hF
        refine lv_aload_n hx hb dX7_strike_12 rfl (lv_at hl 0 rfl) ?_
        refine va_get (D := D) (ci := 7) (C := RX7) (T := TX7) (N := 45) hx hb ha inAX7 hown hK hP 0 rfl rfl 38 (by decide) (ha _ w_4_72) (fun _ h9 => h9) rfl dX7_strike_13 ?_
        refine lv_iload_n hx hb dX7_strike_16 rfl (lv_at hl 1 rfl) ?_
        replace hF := ckP hN hF
        obtain ⟨c_3, hF⟩ := hF
        refine ld_z hx hb hK hP 1 rfl c_3 dX7_strike_17 ?_
        refine lv_if_eq (tgt := 23) hx hb dX7_strike_18 (by decide) (fun c_4 => ?_) (fun c_4 => ?_)
        · replace hF := ifT c_4 hF
          refine lv_aload_n hx hb dX7_strike_23 rfl (lv_at hl 0 rfl) ?_
          refine va_get (D := D) (ci := 7) (C := RX7) (T := TX7) (N := 45) hx hb ha inAX7 hown hK hP 0 rfl rfl 38 (by decide) (ha _ w_4_72) (fun _ h9 => h9) rfl dX7_strike_24 ?_
          refine lv_iload_n hx hb dX7_strike_27 rfl (lv_at hl 1 rfl) ?_
          refine lv_iconst (v := 1) hx hb dX7_strike_28 (by decide) ?_
          replace hF := ckP hN hF
          obtain ⟨c_5, hF⟩ := hF
          obtain ⟨f_6, ef_6⟩ : ∃ g : Nat → Int32, g = upd a_isStruck (z1).toNatClampNeg (vp_nar .boolean (1 : Int32)) := ⟨_, rfl⟩
          replace hF := ltP ef_6 hF
          refine st_z (g := f_6) (W2 := [(h_t, .inr (7, [.ref h_tape, .ref h_text, .int v_taped, .int v_size, .int v_faultKind, .int v_faultPlace, .int v_at, .int v_end, .int v_token, .int v_number, .long v_name, .ref h_uName, .ref h_outName, .ref h_setName, .ref h_unitMany, .ref h_yesTo, .ref h_noTo, .ref h_settingMany, .ref h_shares, .ref h_gradeMany, .ref h_gKind, .ref h_gPurity, .ref h_gPrice, .ref h_outPlace, .ref h_setPlace, .ref h_setShare, .ref h_chosen, .int v_bank, .int v_rb, .int v_sets, .int v_missing, .ref h_rows, .ref h_parts, .long v_whole, .ref h_lTown, .ref h_lWeight, .ref h_lSampled, .ref h_hand, .ref h_isStruck, .int v_lorries, .int v_cost, .ref h_all, .ref h_bestChosen, .ref h_gets, .ref h_rests])), (h_isStruck, .inl (cZ, 60, .inl f_6))]) hx hb hK hP hD hS 1 rfl c_5 ef_6 dX7_strike_29 rfl (fun H locs hP hD hS => ?_)
          refine lv_iconst (v := 1) hx hb dX7_strike_30 (by decide) ?_
          exact hret ((1 : Int32), f_6) H locs ls _ hF nz1 hP hD hS dX7_strike_31
        · replace hF := ifF c_4 hF
          refine lv_iconst (v := 0) hx hb dX7_strike_21 (by decide) ?_
          exact hret ((0 : Int32), a_isStruck) H locs ls _ hF nz0 hP hD hS dX7_strike_22
  rw [hH, hlo] at goal
  exact goal
theorem dX7_held_0 : decode cX7_held 0 = .ok (.iconst 0, 1) := by decide +kernel
theorem dX7_held_1 : decode cX7_held 1 = .ok (.istore_n 3, 1) := by decide +kernel
theorem dX7_held_2 : decode cX7_held 2 = .ok (.iconst 0, 1) := by decide +kernel
theorem dX7_held_3 : decode cX7_held 3 = .ok (.istore 4, 2) := by decide +kernel
theorem dX7_held_5 : decode cX7_held 5 = .ok (.iload 4, 2) := by decide +kernel
theorem dX7_held_7 : decode cX7_held 7 = .ok (.iconst 5, 1) := by decide +kernel
theorem dX7_held_8 : decode cX7_held 8 = .ok (.if_icmp .ge 23, 3) := by decide +kernel
theorem dX7_held_11 : decode cX7_held 11 = .ok (.iload_n 3, 1) := by decide +kernel
theorem dX7_held_12 : decode cX7_held 12 = .ok (.aload_n 0, 1) := by decide +kernel
theorem dX7_held_13 : decode cX7_held 13 = .ok (.getfield 229, 3) := by decide +kernel
theorem dX7_held_16 : decode cX7_held 16 = .ok (.iconst 5, 1) := by decide +kernel
theorem dX7_held_17 : decode cX7_held 17 = .ok (.iload_n 1, 1) := by decide +kernel
theorem dX7_held_18 : decode cX7_held 18 = .ok (.imul, 1) := by decide +kernel
theorem dX7_held_19 : decode cX7_held 19 = .ok (.iload 4, 2) := by decide +kernel
theorem dX7_held_21 : decode cX7_held 21 = .ok (.iadd, 1) := by decide +kernel
theorem dX7_held_22 : decode cX7_held 22 = .ok (.iaload, 1) := by decide +kernel
theorem dX7_held_23 : decode cX7_held 23 = .ok (.iadd, 1) := by decide +kernel
theorem dX7_held_24 : decode cX7_held 24 = .ok (.istore_n 3, 1) := by decide +kernel
theorem dX7_held_25 : decode cX7_held 25 = .ok (.iinc 4 1, 3) := by decide +kernel
theorem dX7_held_28 : decode cX7_held 28 = .ok (.goto (-23), 3) := by decide +kernel
theorem dX7_held_31 : decode cX7_held 31 = .ok (.iload_n 3, 1) := by decide +kernel
theorem dX7_held_32 : decode cX7_held 32 = .ok (.ifCond .ne 7, 3) := by decide +kernel
theorem dX7_held_35 : decode cX7_held 35 = .ok (.iconst 0, 1) := by decide +kernel
theorem dX7_held_36 : decode cX7_held 36 = .ok (.goto 30, 3) := by decide +kernel
theorem dX7_held_39 : decode cX7_held 39 = .ok (.aload_n 0, 1) := by decide +kernel
theorem dX7_held_40 : decode cX7_held 40 = .ok (.getfield 226, 3) := by decide +kernel
theorem dX7_held_43 : decode cX7_held 43 = .ok (.iload_n 1, 1) := by decide +kernel
theorem dX7_held_44 : decode cX7_held 44 = .ok (.iaload, 1) := by decide +kernel
theorem dX7_held_45 : decode cX7_held 45 = .ok (.i2l, 1) := by decide +kernel
theorem dX7_held_46 : decode cX7_held 46 = .ok (.ldc2_w 260, 3) := by decide +kernel
theorem dX7_held_49 : decode cX7_held 49 = .ok (.lmul, 1) := by decide +kernel
theorem dX7_held_50 : decode cX7_held 50 = .ok (.aload_n 0, 1) := by decide +kernel
theorem dX7_held_51 : decode cX7_held 51 = .ok (.getfield 229, 3) := by decide +kernel
theorem dX7_held_54 : decode cX7_held 54 = .ok (.iconst 5, 1) := by decide +kernel
theorem dX7_held_55 : decode cX7_held 55 = .ok (.iload_n 1, 1) := by decide +kernel
theorem dX7_held_56 : decode cX7_held 56 = .ok (.imul, 1) := by decide +kernel
theorem dX7_held_57 : decode cX7_held 57 = .ok (.iload_n 2, 1) := by decide +kernel
theorem dX7_held_58 : decode cX7_held 58 = .ok (.iadd, 1) := by decide +kernel
theorem dX7_held_59 : decode cX7_held 59 = .ok (.iaload, 1) := by decide +kernel
theorem dX7_held_60 : decode cX7_held 60 = .ok (.i2l, 1) := by decide +kernel
theorem dX7_held_61 : decode cX7_held 61 = .ok (.lmul, 1) := by decide +kernel
theorem dX7_held_62 : decode cX7_held 62 = .ok (.iload_n 3, 1) := by decide +kernel
theorem dX7_held_63 : decode cX7_held 63 = .ok (.i2l, 1) := by decide +kernel
theorem dX7_held_64 : decode cX7_held 64 = .ok (.ldiv, 1) := by decide +kernel
theorem dX7_held_65 : decode cX7_held 65 = .ok (.l2i, 1) := by decide +kernel
theorem dX7_held_66 : decode cX7_held 66 = .ok (.ireturn, 1) := by decide +kernel
abbrev rmX7_held : Room := { frames := 0, cells := 0, slots := 0, locals := 0 }
theorem cb_X7_held : CBn yX7_held 2 := ⟨by decide +kernel, by decide +kernel, by decide +kernel⟩
def FX7_held_5 (n : Nat) (a_lSampled : Nat → Int32) (a_lWeight : Nat → Int32) (z1 : Int32) (z2 : Int32) (k5 : Int32 → Int32 → Int32 → Int32 → Option (Int32 × Unit)) (x1 : Int32) (x2 : Int32) (x3 : Int32) (x4 : Int32) : Option (Int32 × Unit) := if (5 : Int32) ≤ x4 then (if x3 = 0 then (some ((0 : Int32), ())) else (if ¬ (x1 < 0 ∨ 60 ≤ (x1).toNatClampNeg) then (if ¬ ((((5 : Int32) * x1) + x2) < 0 ∨ 300 ≤ ((((5 : Int32) * x1) + x2)).toNatClampNeg) then (lt1 ((x3).toInt64) (fun x_5 => if ¬ x_5 = 0 then (some (((((((a_lWeight (x1).toNatClampNeg)).toInt64 * (1000 : Int64)) * ((a_lSampled ((((5 : Int32) * x1) + x2)).toNatClampNeg)).toInt64) / x_5)).toInt32, ())) else none)) else none) else none)) else (if ¬ ((((5 : Int32) * x1) + x4) < 0 ∨ 300 ≤ ((((5 : Int32) * x1) + x4)).toNatClampNeg) then (lt1 (x3 + (a_lSampled ((((5 : Int32) * x1) + x4)).toNatClampNeg)) (fun x_8 => lt1 (x4 + (1 : Int32)) (fun x_9 => k5 x1 x2 x_8 x_9))) else none)
def FX7_held_5L (n : Nat) (a_lSampled : Nat → Int32) (a_lWeight : Nat → Int32) (z1 : Int32) (z2 : Int32) (j : Nat) : Int32 → Int32 → Int32 → Int32 → Option (Int32 × Unit) := lpR (FX7_held_5 n a_lSampled a_lWeight z1 z2) (fun _ _ _ _ => none) j
def FX7_held (n : Nat) (a_lSampled : Nat → Int32) (a_lWeight : Nat → Int32) (z1 : Int32) (z2 : Int32) : Option (Int32 × Unit) := FX7_held_5L n a_lSampled a_lWeight z1 z2 n z1 z2 (0 : Int32) (0 : Int32)
set_option maxHeartbeats 4000000 in
set_option maxRecDepth 100000 in
theorem kX7_held (l : Launch) (D : va_G) (cB cI cJ cZ : ClassId) (rz n sz : Nat) (h_t : Nat) (h_lSampled : Nat) (h_lWeight : Nat) (h_tape : Nat) (h_text : Nat) (h_uName : Nat) (h_outName : Nat) (h_setName : Nat) (h_unitMany : Nat) (h_yesTo : Nat) (h_noTo : Nat) (h_settingMany : Nat) (h_shares : Nat) (h_gradeMany : Nat) (h_gKind : Nat) (h_gPurity : Nat) (h_gPrice : Nat) (h_outPlace : Nat) (h_setPlace : Nat) (h_setShare : Nat) (h_chosen : Nat) (h_rows : Nat) (h_parts : Nat) (h_lTown : Nat) (h_hand : Nat) (h_isStruck : Nat) (h_all : Nat) (h_bestChosen : Nat) (h_gets : Nat) (h_rests : Nat) (v_taped : Int32) (v_size : Int32) (v_faultKind : Int32) (v_faultPlace : Int32) (v_at : Int32) (v_end : Int32) (v_token : Int32) (v_number : Int32) (v_name : Int64) (v_bank : Int32) (v_rb : Int32) (v_sets : Int32) (v_missing : Int32) (v_whole : Int64) (v_lorries : Int32) (v_cost : Int32) (a_lSampled : Nat → Int32) (a_lWeight : Nat → Int32) (z1 : Int32) (z2 : Int32) (hN : FX7_held n a_lSampled a_lWeight z1 z2 ≠ none) : Met l yX7_held (Cond.code yX7_held cX7_held 5 (some .int) :: AL) rmX7_held (PW D cB cI cJ cZ rz [.ref h_t, .int z1, .int z2] [(h_t, .inr (7, [.ref h_tape, .ref h_text, .int v_taped, .int v_size, .int v_faultKind, .int v_faultPlace, .int v_at, .int v_end, .int v_token, .int v_number, .long v_name, .ref h_uName, .ref h_outName, .ref h_setName, .ref h_unitMany, .ref h_yesTo, .ref h_noTo, .ref h_settingMany, .ref h_shares, .ref h_gradeMany, .ref h_gKind, .ref h_gPurity, .ref h_gPrice, .ref h_outPlace, .ref h_setPlace, .ref h_setShare, .ref h_chosen, .int v_bank, .int v_rb, .int v_sets, .int v_missing, .ref h_rows, .ref h_parts, .long v_whole, .ref h_lTown, .ref h_lWeight, .ref h_lSampled, .ref h_hand, .ref h_isStruck, .int v_lorries, .int v_cost, .ref h_all, .ref h_bestChosen, .ref h_gets, .ref h_rests])), (h_lSampled, .inl (cI, 300, .inl a_lSampled)), (h_lWeight, .inl (cI, 60, .inl a_lWeight))] sz) (QI D (FX7_held n a_lSampled a_lWeight z1 z2) (fun u => [(h_t, .inr (7, [.ref h_tape, .ref h_text, .int v_taped, .int v_size, .int v_faultKind, .int v_faultPlace, .int v_at, .int v_end, .int v_token, .int v_number, .long v_name, .ref h_uName, .ref h_outName, .ref h_setName, .ref h_unitMany, .ref h_yesTo, .ref h_noTo, .ref h_settingMany, .ref h_shares, .ref h_gradeMany, .ref h_gKind, .ref h_gPurity, .ref h_gPrice, .ref h_outPlace, .ref h_setPlace, .ref h_setShare, .ref h_chosen, .int v_bank, .int v_rb, .int v_sets, .int v_missing, .ref h_rows, .ref h_parts, .long v_whole, .ref h_lTown, .ref h_lWeight, .ref h_lSampled, .ref h_hand, .ref h_isStruck, .int v_lorries, .int v_cost, .ref h_all, .ref h_bestChosen, .ref h_gets, .ref h_rests])), (h_lSampled, .inl (cI, 300, .inl a_lSampled)), (h_lWeight, .inl (cI, 60, .inl a_lWeight))]) (va_A [(h_t, .inr (7, [.ref h_tape, .ref h_text, .int v_taped, .int v_size, .int v_faultKind, .int v_faultPlace, .int v_at, .int v_end, .int v_token, .int v_number, .long v_name, .ref h_uName, .ref h_outName, .ref h_setName, .ref h_unitMany, .ref h_yesTo, .ref h_noTo, .ref h_settingMany, .ref h_shares, .ref h_gradeMany, .ref h_gKind, .ref h_gPurity, .ref h_gPrice, .ref h_outPlace, .ref h_setPlace, .ref h_setShare, .ref h_chosen, .int v_bank, .int v_rb, .int v_sets, .int v_missing, .ref h_rows, .ref h_parts, .long v_whole, .ref h_lTown, .ref h_lWeight, .ref h_lSampled, .ref h_hand, .ref h_isStruck, .int v_lorries, .int v_cost, .ref h_all, .ref h_bestChosen, .ref h_gets, .ref h_rests])), (h_lSampled, .inl (cI, 300, .inl a_lSampled)), (h_lWeight, .inl (cI, 60, .inl a_lWeight))] sz)) 0 0 (va_A [(h_t, .inr (7, [.ref h_tape, .ref h_text, .int v_taped, .int v_size, .int v_faultKind, .int v_faultPlace, .int v_at, .int v_end, .int v_token, .int v_number, .long v_name, .ref h_uName, .ref h_outName, .ref h_setName, .ref h_unitMany, .ref h_yesTo, .ref h_noTo, .ref h_settingMany, .ref h_shares, .ref h_gradeMany, .ref h_gKind, .ref h_gPurity, .ref h_gPrice, .ref h_outPlace, .ref h_setPlace, .ref h_setShare, .ref h_chosen, .int v_bank, .int v_rb, .int v_sets, .int v_missing, .ref h_rows, .ref h_parts, .long v_whole, .ref h_lTown, .ref h_lWeight, .ref h_lSampled, .ref h_hand, .ref h_isStruck, .int v_lorries, .int v_cost, .ref h_all, .ref h_bestChosen, .ref h_gets, .ref h_rests])), (h_lSampled, .inl (cI, 300, .inl a_lSampled)), (h_lWeight, .inl (cI, 60, .inl a_lWeight))] sz) := by
  obtain ⟨O, hF⟩ : ∃ O, FX7_held n a_lSampled a_lWeight z1 z2 = O := ⟨_, rfl⟩
  rw [hF] at hN ⊢
  refine enterI (cc := cX7_held) (nL := 5) (by decide) (Nat.le_of_ble_eq_true rfl) ?_
  intro p e s m below meth c A Q X hA hE hnm hsz hP hD hS hret ls hl
  obtain ⟨hx, hb, hml, hown0, ha⟩ := id X
  have hown : s.vm.findClass RX7 = some m.cls := hown0
  have hK := hE.1
  have hl : lv_has ls 5 [(0, .ref h_t), (1, .int z1), (2, .int z2)] := hl
  have hX : CallFix p m c cX7_held 5 s ([.ref h_t, .int z1, .int z2] : List Value).toArray AL RX7 := X
  have X := hX
  have L5 : ∀ (k5 : Int32 → Int32 → Int32 → Int32 → Option (Int32 × Unit)) (ih5 : ∀ (x1 : Int32) (x2 : Int32) (x3 : Int32) (x4 : Int32) (H : Heap) (locs : List Loc) (ls : Array Slot), k5 x1 x2 x3 x4 = O → va_P D classes [(h_t, .inr (7, [.ref h_tape, .ref h_text, .int v_taped, .int v_size, .int v_faultKind, .int v_faultPlace, .int v_at, .int v_end, .int v_token, .int v_number, .long v_name, .ref h_uName, .ref h_outName, .ref h_setName, .ref h_unitMany, .ref h_yesTo, .ref h_noTo, .ref h_settingMany, .ref h_shares, .ref h_gradeMany, .ref h_gKind, .ref h_gPurity, .ref h_gPrice, .ref h_outPlace, .ref h_setPlace, .ref h_setShare, .ref h_chosen, .int v_bank, .int v_rb, .int v_sets, .int v_missing, .ref h_rows, .ref h_parts, .long v_whole, .ref h_lTown, .ref h_lWeight, .ref h_lSampled, .ref h_hand, .ref h_isStruck, .int v_lorries, .int v_cost, .ref h_all, .ref h_bestChosen, .ref h_gets, .ref h_rests])), (h_lSampled, .inl (cI, 300, .inl a_lSampled)), (h_lWeight, .inl (cI, 60, .inl a_lWeight))] H → va_D A [(h_t, .inr (7, [.ref h_tape, .ref h_text, .int v_taped, .int v_size, .int v_faultKind, .int v_faultPlace, .int v_at, .int v_end, .int v_token, .int v_number, .long v_name, .ref h_uName, .ref h_outName, .ref h_setName, .ref h_unitMany, .ref h_yesTo, .ref h_noTo, .ref h_settingMany, .ref h_shares, .ref h_gradeMany, .ref h_gKind, .ref h_gPurity, .ref h_gPrice, .ref h_outPlace, .ref h_setPlace, .ref h_setShare, .ref h_chosen, .int v_bank, .int v_rb, .int v_sets, .int v_missing, .ref h_rows, .ref h_parts, .long v_whole, .ref h_lTown, .ref h_lWeight, .ref h_lSampled, .ref h_hand, .ref h_isStruck, .int v_lorries, .int v_cost, .ref h_all, .ref h_bestChosen, .ref h_gets, .ref h_rests])), (h_lSampled, .inl (cI, 300, .inl a_lSampled)), (h_lWeight, .inl (cI, 60, .inl a_lWeight))] → va_S A s.heap H locs → lv_has ls 5 [(0, .ref h_t), (1, .int x1), (2, .int x2), (3, .int x3), (4, .int x4)] → W p l e rmX7_held s m ([.ref h_t, .int z1, .int z2] : List Value).toArray below meth c H locs 0 0 Q (F0 m 5 ls [])), ∀ (x1 : Int32) (x2 : Int32) (x3 : Int32) (x4 : Int32) (H : Heap) (locs : List Loc) (ls : Array Slot), FX7_held_5 n a_lSampled a_lWeight z1 z2 k5 x1 x2 x3 x4 = O → va_P D classes [(h_t, .inr (7, [.ref h_tape, .ref h_text, .int v_taped, .int v_size, .int v_faultKind, .int v_faultPlace, .int v_at, .int v_end, .int v_token, .int v_number, .long v_name, .ref h_uName, .ref h_outName, .ref h_setName, .ref h_unitMany, .ref h_yesTo, .ref h_noTo, .ref h_settingMany, .ref h_shares, .ref h_gradeMany, .ref h_gKind, .ref h_gPurity, .ref h_gPrice, .ref h_outPlace, .ref h_setPlace, .ref h_setShare, .ref h_chosen, .int v_bank, .int v_rb, .int v_sets, .int v_missing, .ref h_rows, .ref h_parts, .long v_whole, .ref h_lTown, .ref h_lWeight, .ref h_lSampled, .ref h_hand, .ref h_isStruck, .int v_lorries, .int v_cost, .ref h_all, .ref h_bestChosen, .ref h_gets, .ref h_rests])), (h_lSampled, .inl (cI, 300, .inl a_lSampled)), (h_lWeight, .inl (cI, 60, .inl a_lWeight))] H → va_D A [(h_t, .inr (7, [.ref h_tape, .ref h_text, .int v_taped, .int v_size, .int v_faultKind, .int v_faultPlace, .int v_at, .int v_end, .int v_token, .int v_number, .long v_name, .ref h_uName, .ref h_outName, .ref h_setName, .ref h_unitMany, .ref h_yesTo, .ref h_noTo, .ref h_settingMany, .ref h_shares, .ref h_gradeMany, .ref h_gKind, .ref h_gPurity, .ref h_gPrice, .ref h_outPlace, .ref h_setPlace, .ref h_setShare, .ref h_chosen, .int v_bank, .int v_rb, .int v_sets, .int v_missing, .ref h_rows, .ref h_parts, .long v_whole, .ref h_lTown, .ref h_lWeight, .ref h_lSampled, .ref h_hand, .ref h_isStruck, .int v_lorries, .int v_cost, .ref h_all, .ref h_bestChosen, .ref h_gets, .ref h_rests])), (h_lSampled, .inl (cI, 300, .inl a_lSampled)), (h_lWeight, .inl (cI, 60, .inl a_lWeight))] → va_S A s.heap H locs → lv_has ls 5 [(0, .ref h_t), (1, .int x1), (2, .int x2), (3, .int x3), (4, .int x4)] → W p l e rmX7_held s m ([.ref h_t, .int z1, .int z2] : List Value).toArray below meth c H locs 0 0 Q (F0 m 5 ls []) := by
    intro k5 ih5 x1 x2 x3 x4 H locs ls hF hP hD hS hl
    unfold FX7_held_5 at hF
    refine lv_iload hx hb dX7_held_5 (lv_at hl 4 rfl) ?_
    refine lv_iconst (v := 5) hx hb dX7_held_7 (by decide) ?_
    refine lv_icmp_ge (tgt := 31) hx hb dX7_held_8 (by decide) (fun c_1 => ?_) (fun c_1 => ?_)
    · replace hF := ifT c_1 hF
      refine lv_iload_n hx hb dX7_held_31 rfl (lv_at hl 3 rfl) ?_
      refine lv_if_ne (tgt := 39) hx hb dX7_held_32 (by decide) (fun c_2 => ?_) (fun c_2 => ?_)
      · replace hF := ifF c_2 hF
        refine lv_aload_n hx hb dX7_held_39 rfl (lv_at hl 0 rfl) ?_
        refine va_get (D := D) (ci := 7) (C := RX7) (T := TX7) (N := 45) hx hb ha inAX7 hown hK hP 0 rfl rfl 35 (by decide) (ha _ w_4_69) (fun _ h9 => h9) rfl dX7_held_40 ?_
        refine lv_iload_n hx hb dX7_held_43 rfl (lv_at hl 1 rfl) ?_
        replace hF := ckP hN hF
        obtain ⟨c_3, hF⟩ := hF
        refine ld_i hx hb hK hP 2 rfl c_3 dX7_held_44 ?_
        refine lv_i2l hx hb dX7_held_45 rfl ?_
        refine lv_ldc2 hx hb hown (ha _ w_4_196) dX7_held_46 ?_
        refine lv_lmul hx hb dX7_held_49 ?_
        refine lv_aload_n hx hb dX7_held_50 rfl (lv_at hl 0 rfl) ?_
        refine va_get (D := D) (ci := 7) (C := RX7) (T := TX7) (N := 45) hx hb ha inAX7 hown hK hP 0 rfl rfl 36 (by decide) (ha _ w_4_70) (fun _ h9 => h9) rfl dX7_held_51 ?_
        refine lv_iconst (v := 5) hx hb dX7_held_54 (by decide) ?_
        refine lv_iload_n hx hb dX7_held_55 rfl (lv_at hl 1 rfl) ?_
        refine lv_imul hx hb dX7_held_56 ?_
        refine lv_iload_n hx hb dX7_held_57 rfl (lv_at hl 2 rfl) ?_
        refine lv_iadd hx hb dX7_held_58 ?_
        replace hF := ckP hN hF
        obtain ⟨c_4, hF⟩ := hF
        refine ld_i hx hb hK hP 1 rfl c_4 dX7_held_59 ?_
        refine lv_i2l hx hb dX7_held_60 rfl ?_
        refine lv_lmul hx hb dX7_held_61 ?_
        refine lv_iload_n hx hb dX7_held_62 rfl (lv_at hl 3 rfl) ?_
        refine lv_i2l hx hb dX7_held_63 rfl ?_
        refine lv_topl (fun x_5 ex_5 => ?_)
        replace hF := ltP ex_5 hF
        replace hF := ckP hN hF
        obtain ⟨c_6, hF⟩ := hF
        refine lv_ldiv hx hb dX7_held_64 c_6 ?_
        refine lv_l2i hx hb dX7_held_65 rfl ?_
        exact hret (((((((a_lWeight (x1).toNatClampNeg)).toInt64 * (1000 : Int64)) * ((a_lSampled ((((5 : Int32) * x1) + x2)).toNatClampNeg)).toInt64) / x_5)).toInt32, ()) H locs ls _ hF hP hD hS dX7_held_66
      · replace hF := ifT c_2 hF
        refine lv_iconst (v := 0) hx hb dX7_held_35 (by decide) ?_
        refine lv_goto (tgt := 66) hx hb dX7_held_36 (by decide) ?_
        exact hret ((0 : Int32), ()) H locs ls _ hF hP hD hS dX7_held_66
    · replace hF := ifF c_1 hF
      refine lv_iload_n hx hb dX7_held_11 rfl (lv_at hl 3 rfl) ?_
      refine lv_aload_n hx hb dX7_held_12 rfl (lv_at hl 0 rfl) ?_
      refine va_get (D := D) (ci := 7) (C := RX7) (T := TX7) (N := 45) hx hb ha inAX7 hown hK hP 0 rfl rfl 36 (by decide) (ha _ w_4_70) (fun _ h9 => h9) rfl dX7_held_13 ?_
      refine lv_iconst (v := 5) hx hb dX7_held_16 (by decide) ?_
      refine lv_iload_n hx hb dX7_held_17 rfl (lv_at hl 1 rfl) ?_
      refine lv_imul hx hb dX7_held_18 ?_
      refine lv_iload hx hb dX7_held_19 (lv_at hl 4 rfl) ?_
      refine lv_iadd hx hb dX7_held_21 ?_
      replace hF := ckP hN hF
      obtain ⟨c_7, hF⟩ := hF
      refine ld_i hx hb hK hP 1 rfl c_7 dX7_held_22 ?_
      refine lv_iadd hx hb dX7_held_23 ?_
      refine lv_topi (fun x_8 ex_8 => ?_)
      replace hF := ltP ex_8 hF
      refine lv_istore_n (lv' := [(3, .int x_8), (0, .ref h_t), (1, .int x1), (2, .int x2), (4, .int x4)]) hx hb dX7_held_24 rfl hl (by decide) rfl (fun ls hl => ?_)
      obtain ⟨x_9, ex_9⟩ : ∃ y : Int32, y = x4 + (1 : Int32) := ⟨_, rfl⟩
      replace hF := ltP ex_9 hF
      refine lv_iinc (v := x_9) (lv' := [(4, .int x_9), (3, .int x_8), (0, .ref h_t), (1, .int x1), (2, .int x2)]) hx hb dX7_held_25 hl (k := 4) rfl (by rw [ex_9]; rfl) (by decide) rfl (fun ls hl => ?_)
      refine lv_goto (tgt := 5) hx hb dX7_held_28 (by decide) ?_
      exact ih5 x1 x2 x_8 x_9 H locs ls hF hP hD hS (lv_sub hl [2, 3, 4, 1, 0] rfl)
  have Lc5 : ∀ (j : Nat), ∀ (x1 : Int32) (x2 : Int32) (x3 : Int32) (x4 : Int32) (H : Heap) (locs : List Loc) (ls : Array Slot), FX7_held_5L n a_lSampled a_lWeight z1 z2 j x1 x2 x3 x4 = O → va_P D classes [(h_t, .inr (7, [.ref h_tape, .ref h_text, .int v_taped, .int v_size, .int v_faultKind, .int v_faultPlace, .int v_at, .int v_end, .int v_token, .int v_number, .long v_name, .ref h_uName, .ref h_outName, .ref h_setName, .ref h_unitMany, .ref h_yesTo, .ref h_noTo, .ref h_settingMany, .ref h_shares, .ref h_gradeMany, .ref h_gKind, .ref h_gPurity, .ref h_gPrice, .ref h_outPlace, .ref h_setPlace, .ref h_setShare, .ref h_chosen, .int v_bank, .int v_rb, .int v_sets, .int v_missing, .ref h_rows, .ref h_parts, .long v_whole, .ref h_lTown, .ref h_lWeight, .ref h_lSampled, .ref h_hand, .ref h_isStruck, .int v_lorries, .int v_cost, .ref h_all, .ref h_bestChosen, .ref h_gets, .ref h_rests])), (h_lSampled, .inl (cI, 300, .inl a_lSampled)), (h_lWeight, .inl (cI, 60, .inl a_lWeight))] H → va_D A [(h_t, .inr (7, [.ref h_tape, .ref h_text, .int v_taped, .int v_size, .int v_faultKind, .int v_faultPlace, .int v_at, .int v_end, .int v_token, .int v_number, .long v_name, .ref h_uName, .ref h_outName, .ref h_setName, .ref h_unitMany, .ref h_yesTo, .ref h_noTo, .ref h_settingMany, .ref h_shares, .ref h_gradeMany, .ref h_gKind, .ref h_gPurity, .ref h_gPrice, .ref h_outPlace, .ref h_setPlace, .ref h_setShare, .ref h_chosen, .int v_bank, .int v_rb, .int v_sets, .int v_missing, .ref h_rows, .ref h_parts, .long v_whole, .ref h_lTown, .ref h_lWeight, .ref h_lSampled, .ref h_hand, .ref h_isStruck, .int v_lorries, .int v_cost, .ref h_all, .ref h_bestChosen, .ref h_gets, .ref h_rests])), (h_lSampled, .inl (cI, 300, .inl a_lSampled)), (h_lWeight, .inl (cI, 60, .inl a_lWeight))] → va_S A s.heap H locs → lv_has ls 5 [(0, .ref h_t), (1, .int x1), (2, .int x2), (3, .int x3), (4, .int x4)] → W p l e rmX7_held s m ([.ref h_t, .int z1, .int z2] : List Value).toArray below meth c H locs 0 0 Q (F0 m 5 ls []) := by
    intro j
    induction j with
    | zero => intro _ _ _ _ H locs ls hF; exact absurd hF.symm hN
    | succ j ih => exact L5 (FX7_held_5L n a_lSampled a_lWeight z1 z2 j) ih
  unfold FX7_held at hF
  obtain ⟨H, hH⟩ : ∃ H, H = s.heap := ⟨_, rfl⟩
  obtain ⟨locs, hlo⟩ : ∃ locs : List Loc, locs = [] := ⟨_, rfl⟩
  have hS : va_S A s.heap H locs := by rw [hH, hlo]; exact hS
  rw [← hH] at hP
  have goal : W p l e rmX7_held s m ([.ref h_t, .int z1, .int z2] : List Value).toArray below meth c H locs 0 0 Q (F0 m 0 ls []) := by
    refine lv_iconst (v := 0) hx hb dX7_held_0 (by decide) ?_
    refine lv_istore_n (lv' := [(3, .int (0 : Int32)), (0, .ref h_t), (1, .int z1), (2, .int z2)]) hx hb dX7_held_1 rfl hl (by decide) rfl (fun ls hl => ?_)
    refine lv_iconst (v := 0) hx hb dX7_held_2 (by decide) ?_
    refine lv_istore (lv' := [(4, .int (0 : Int32)), (3, .int (0 : Int32)), (0, .ref h_t), (1, .int z1), (2, .int z2)]) hx hb dX7_held_3 hl (by decide) rfl (fun ls hl => ?_)
    exact Lc5 n z1 z2 (0 : Int32) (0 : Int32) H locs ls hF hP hD hS (lv_sub hl [2, 3, 4, 1, 0] rfl)
  rw [hH, hlo] at goal
  exact goal
theorem dX7_broughtBy_0 : decode cX7_broughtBy 0 = .ok (.iconst 0, 1) := by decide +kernel
theorem dX7_broughtBy_1 : decode cX7_broughtBy 1 = .ok (.istore_n 3, 1) := by decide +kernel
theorem dX7_broughtBy_2 : decode cX7_broughtBy 2 = .ok (.iconst 0, 1) := by decide +kernel
theorem dX7_broughtBy_3 : decode cX7_broughtBy 3 = .ok (.istore 4, 2) := by decide +kernel
theorem dX7_broughtBy_5 : decode cX7_broughtBy 5 = .ok (.iload 4, 2) := by decide +kernel
theorem dX7_broughtBy_7 : decode cX7_broughtBy 7 = .ok (.aload_n 0, 1) := by decide +kernel
theorem dX7_broughtBy_8 : decode cX7_broughtBy 8 = .ok (.getfield 257, 3) := by decide +kernel
theorem dX7_broughtBy_11 : decode cX7_broughtBy 11 = .ok (.if_icmp .ge 40, 3) := by decide +kernel
theorem dX7_broughtBy_14 : decode cX7_broughtBy 14 = .ok (.aload_n 0, 1) := by decide +kernel
theorem dX7_broughtBy_15 : decode cX7_broughtBy 15 = .ok (.getfield 223, 3) := by decide +kernel
theorem dX7_broughtBy_18 : decode cX7_broughtBy 18 = .ok (.iload 4, 2) := by decide +kernel
theorem dX7_broughtBy_20 : decode cX7_broughtBy 20 = .ok (.iaload, 1) := by decide +kernel
theorem dX7_broughtBy_21 : decode cX7_broughtBy 21 = .ok (.iload_n 1, 1) := by decide +kernel
theorem dX7_broughtBy_22 : decode cX7_broughtBy 22 = .ok (.if_icmp .ne 23, 3) := by decide +kernel
theorem dX7_broughtBy_25 : decode cX7_broughtBy 25 = .ok (.aload_n 0, 1) := by decide +kernel
theorem dX7_broughtBy_26 : decode cX7_broughtBy 26 = .ok (.getfield 235, 3) := by decide +kernel
theorem dX7_broughtBy_29 : decode cX7_broughtBy 29 = .ok (.iload 4, 2) := by decide +kernel
theorem dX7_broughtBy_31 : decode cX7_broughtBy 31 = .ok (.baload, 1) := by decide +kernel
theorem dX7_broughtBy_32 : decode cX7_broughtBy 32 = .ok (.ifCond .ne 13, 3) := by decide +kernel
theorem dX7_broughtBy_35 : decode cX7_broughtBy 35 = .ok (.iload_n 3, 1) := by decide +kernel
theorem dX7_broughtBy_36 : decode cX7_broughtBy 36 = .ok (.aload_n 0, 1) := by decide +kernel
theorem dX7_broughtBy_37 : decode cX7_broughtBy 37 = .ok (.iload 4, 2) := by decide +kernel
theorem dX7_broughtBy_39 : decode cX7_broughtBy 39 = .ok (.iload_n 2, 1) := by decide +kernel
theorem dX7_broughtBy_40 : decode cX7_broughtBy 40 = .ok (.invokevirtual 262, 3) := by decide +kernel
theorem dX7_broughtBy_43 : decode cX7_broughtBy 43 = .ok (.iadd, 1) := by decide +kernel
theorem dX7_broughtBy_44 : decode cX7_broughtBy 44 = .ok (.istore_n 3, 1) := by decide +kernel
theorem dX7_broughtBy_45 : decode cX7_broughtBy 45 = .ok (.iinc 4 1, 3) := by decide +kernel
theorem dX7_broughtBy_48 : decode cX7_broughtBy 48 = .ok (.goto (-43), 3) := by decide +kernel
theorem dX7_broughtBy_51 : decode cX7_broughtBy 51 = .ok (.iload_n 3, 1) := by decide +kernel
theorem dX7_broughtBy_52 : decode cX7_broughtBy 52 = .ok (.ireturn, 1) := by decide +kernel
abbrev rmX7_broughtBy : Room := { frames := 1, cells := 0, slots := 0, locals := 24 }
theorem cb_X7_broughtBy : CBn yX7_broughtBy 2 := ⟨by decide +kernel, by decide +kernel, by decide +kernel⟩
def FX7_broughtBy_45 (n : Nat) (v_lorries : Int32) (a_lTown : Nat → Int32) (a_isStruck : Nat → Int32) (a_lSampled : Nat → Int32) (a_lWeight : Nat → Int32) (z1 : Int32) (z2 : Int32) (k5 : Int32 → Int32 → Int32 → Int32 → Option (Int32 × Unit)) (x1 : Int32) (x2 : Int32) (x3 : Int32) (x4 : Int32) : Option (Int32 × Unit) := lt1 (x4 + (1 : Int32)) (fun x_9 => k5 x1 x2 x3 x_9)
def FX7_broughtBy_5 (n : Nat) (v_lorries : Int32) (a_lTown : Nat → Int32) (a_isStruck : Nat → Int32) (a_lSampled : Nat → Int32) (a_lWeight : Nat → Int32) (z1 : Int32) (z2 : Int32) (k5 : Int32 → Int32 → Int32 → Int32 → Option (Int32 × Unit)) (x1 : Int32) (x2 : Int32) (x3 : Int32) (x4 : Int32) : Option (Int32 × Unit) := if v_lorries ≤ x4 then (some (x3, ())) else (if ¬ (x4 < 0 ∨ 60 ≤ (x4).toNatClampNeg) then (if (a_lTown (x4).toNatClampNeg) = x1 then (if ¬ (x4 < 0 ∨ 60 ≤ (x4).toNatClampNeg) then (if (a_isStruck (x4).toNatClampNeg) = 0 then (bd (FX7_held n a_lSampled a_lWeight x4 x2) (fun u_7 => lt1 (x3 + u_7.1) (fun x_8 => FX7_broughtBy_45 n v_lorries a_lTown a_isStruck a_lSampled a_lWeight z1 z2 k5 x1 x2 x_8 x4))) else (FX7_broughtBy_45 n v_lorries a_lTown a_isStruck a_lSampled a_lWeight z1 z2 k5 x1 x2 x3 x4)) else none) else (FX7_broughtBy_45 n v_lorries a_lTown a_isStruck a_lSampled a_lWeight z1 z2 k5 x1 x2 x3 x4)) else none)
def FX7_broughtBy_5L (n : Nat) (v_lorries : Int32) (a_lTown : Nat → Int32) (a_isStruck : Nat → Int32) (a_lSampled : Nat → Int32) (a_lWeight : Nat → Int32) (z1 : Int32) (z2 : Int32) (j : Nat) : Int32 → Int32 → Int32 → Int32 → Option (Int32 × Unit) := lpR (FX7_broughtBy_5 n v_lorries a_lTown a_isStruck a_lSampled a_lWeight z1 z2) (fun _ _ _ _ => none) j
def FX7_broughtBy (n : Nat) (v_lorries : Int32) (a_lTown : Nat → Int32) (a_isStruck : Nat → Int32) (a_lSampled : Nat → Int32) (a_lWeight : Nat → Int32) (z1 : Int32) (z2 : Int32) : Option (Int32 × Unit) := FX7_broughtBy_5L n v_lorries a_lTown a_isStruck a_lSampled a_lWeight z1 z2 n z1 z2 (0 : Int32) (0 : Int32)
set_option maxHeartbeats 4000000 in
set_option maxRecDepth 100000 in
theorem kX7_broughtBy (l : Launch) (D : va_G) (cB cI cJ cZ : ClassId) (rz n sz : Nat) (h_t : Nat) (h_lTown : Nat) (h_isStruck : Nat) (h_lSampled : Nat) (h_lWeight : Nat) (h_tape : Nat) (h_text : Nat) (h_uName : Nat) (h_outName : Nat) (h_setName : Nat) (h_unitMany : Nat) (h_yesTo : Nat) (h_noTo : Nat) (h_settingMany : Nat) (h_shares : Nat) (h_gradeMany : Nat) (h_gKind : Nat) (h_gPurity : Nat) (h_gPrice : Nat) (h_outPlace : Nat) (h_setPlace : Nat) (h_setShare : Nat) (h_chosen : Nat) (h_rows : Nat) (h_parts : Nat) (h_hand : Nat) (h_all : Nat) (h_bestChosen : Nat) (h_gets : Nat) (h_rests : Nat) (v_taped : Int32) (v_size : Int32) (v_faultKind : Int32) (v_faultPlace : Int32) (v_at : Int32) (v_end : Int32) (v_token : Int32) (v_number : Int32) (v_name : Int64) (v_bank : Int32) (v_rb : Int32) (v_sets : Int32) (v_missing : Int32) (v_whole : Int64) (v_lorries : Int32) (v_cost : Int32) (a_lTown : Nat → Int32) (a_isStruck : Nat → Int32) (a_lSampled : Nat → Int32) (a_lWeight : Nat → Int32) (z1 : Int32) (z2 : Int32) (hN : FX7_broughtBy n v_lorries a_lTown a_isStruck a_lSampled a_lWeight z1 z2 ≠ none) : Met l yX7_broughtBy (Cond.code yX7_broughtBy cX7_broughtBy 5 (some .int) :: AL) rmX7_broughtBy (PW D cB cI cJ cZ rz [.ref h_t, .int z1, .int z2] [(h_t, .inr (7, [.ref h_tape, .ref h_text, .int v_taped, .int v_size, .int v_faultKind, .int v_faultPlace, .int v_at, .int v_end, .int v_token, .int v_number, .long v_name, .ref h_uName, .ref h_outName, .ref h_setName, .ref h_unitMany, .ref h_yesTo, .ref h_noTo, .ref h_settingMany, .ref h_shares, .ref h_gradeMany, .ref h_gKind, .ref h_gPurity, .ref h_gPrice, .ref h_outPlace, .ref h_setPlace, .ref h_setShare, .ref h_chosen, .int v_bank, .int v_rb, .int v_sets, .int v_missing, .ref h_rows, .ref h_parts, .long v_whole, .ref h_lTown, .ref h_lWeight, .ref h_lSampled, .ref h_hand, .ref h_isStruck, .int v_lorries, .int v_cost, .ref h_all, .ref h_bestChosen, .ref h_gets, .ref h_rests])), (h_lTown, .inl (cI, 60, .inl a_lTown)), (h_isStruck, .inl (cZ, 60, .inl a_isStruck)), (h_lSampled, .inl (cI, 300, .inl a_lSampled)), (h_lWeight, .inl (cI, 60, .inl a_lWeight))] sz) (QI D (FX7_broughtBy n v_lorries a_lTown a_isStruck a_lSampled a_lWeight z1 z2) (fun u => [(h_t, .inr (7, [.ref h_tape, .ref h_text, .int v_taped, .int v_size, .int v_faultKind, .int v_faultPlace, .int v_at, .int v_end, .int v_token, .int v_number, .long v_name, .ref h_uName, .ref h_outName, .ref h_setName, .ref h_unitMany, .ref h_yesTo, .ref h_noTo, .ref h_settingMany, .ref h_shares, .ref h_gradeMany, .ref h_gKind, .ref h_gPurity, .ref h_gPrice, .ref h_outPlace, .ref h_setPlace, .ref h_setShare, .ref h_chosen, .int v_bank, .int v_rb, .int v_sets, .int v_missing, .ref h_rows, .ref h_parts, .long v_whole, .ref h_lTown, .ref h_lWeight, .ref h_lSampled, .ref h_hand, .ref h_isStruck, .int v_lorries, .int v_cost, .ref h_all, .ref h_bestChosen, .ref h_gets, .ref h_rests])), (h_lTown, .inl (cI, 60, .inl a_lTown)), (h_isStruck, .inl (cZ, 60, .inl a_isStruck)), (h_lSampled, .inl (cI, 300, .inl a_lSampled)), (h_lWeight, .inl (cI, 60, .inl a_lWeight))]) (va_A [(h_t, .inr (7, [.ref h_tape, .ref h_text, .int v_taped, .int v_size, .int v_faultKind, .int v_faultPlace, .int v_at, .int v_end, .int v_token, .int v_number, .long v_name, .ref h_uName, .ref h_outName, .ref h_setName, .ref h_unitMany, .ref h_yesTo, .ref h_noTo, .ref h_settingMany, .ref h_shares, .ref h_gradeMany, .ref h_gKind, .ref h_gPurity, .ref h_gPrice, .ref h_outPlace, .ref h_setPlace, .ref h_setShare, .ref h_chosen, .int v_bank, .int v_rb, .int v_sets, .int v_missing, .ref h_rows, .ref h_parts, .long v_whole, .ref h_lTown, .ref h_lWeight, .ref h_lSampled, .ref h_hand, .ref h_isStruck, .int v_lorries, .int v_cost, .ref h_all, .ref h_bestChosen, .ref h_gets, .ref h_rests])), (h_lTown, .inl (cI, 60, .inl a_lTown)), (h_isStruck, .inl (cZ, 60, .inl a_isStruck)), (h_lSampled, .inl (cI, 300, .inl a_lSampled)), (h_lWeight, .inl (cI, 60, .inl a_lWeight))] sz)) 0 0 (va_A [(h_t, .inr (7, [.ref h_tape, .ref h_text, .int v_taped, .int v_size, .int v_faultKind, .int v_faultPlace, .int v_at, .int v_end, .int v_token, .int v_number, .long v_name, .ref h_uName, .ref h_outName, .ref h_setName, .ref h_unitMany, .ref h_yesTo, .ref h_noTo, .ref h_settingMany, .ref h_shares, .ref h_gradeMany, .ref h_gKind, .ref h_gPurity, .ref h_gPrice, .ref h_outPlace, .ref h_setPlace, .ref h_setShare, .ref h_chosen, .int v_bank, .int v_rb, .int v_sets, .int v_missing, .ref h_rows, .ref h_parts, .long v_whole, .ref h_lTown, .ref h_lWeight, .ref h_lSampled, .ref h_hand, .ref h_isStruck, .int v_lorries, .int v_cost, .ref h_all, .ref h_bestChosen, .ref h_gets, .ref h_rests])), (h_lTown, .inl (cI, 60, .inl a_lTown)), (h_isStruck, .inl (cZ, 60, .inl a_isStruck)), (h_lSampled, .inl (cI, 300, .inl a_lSampled)), (h_lWeight, .inl (cI, 60, .inl a_lWeight))] sz) := by
  obtain ⟨O, hF⟩ : ∃ O, FX7_broughtBy n v_lorries a_lTown a_isStruck a_lSampled a_lWeight z1 z2 = O := ⟨_, rfl⟩
  rw [hF] at hN ⊢
  refine enterI (cc := cX7_broughtBy) (nL := 5) (by decide) (Nat.le_of_ble_eq_true rfl) ?_
  intro p e s m below meth c A Q X hA hE hnm hsz hP hD hS hret ls hl
  obtain ⟨hx, hb, hml, hown0, ha⟩ := id X
  have hown : s.vm.findClass RX7 = some m.cls := hown0
  have hK := hE.1
  have hl : lv_has ls 5 [(0, .ref h_t), (1, .int z1), (2, .int z2)] := hl
  have hX : CallFix p m c cX7_broughtBy 5 s ([.ref h_t, .int z1, .int z2] : List Value).toArray AL RX7 := X
  have X := hX
  have L45 : ∀ (k5 : Int32 → Int32 → Int32 → Int32 → Option (Int32 × Unit)) (ih5 : ∀ (x1 : Int32) (x2 : Int32) (x3 : Int32) (x4 : Int32) (H : Heap) (locs : List Loc) (ls : Array Slot), k5 x1 x2 x3 x4 = O → va_P D classes [(h_t, .inr (7, [.ref h_tape, .ref h_text, .int v_taped, .int v_size, .int v_faultKind, .int v_faultPlace, .int v_at, .int v_end, .int v_token, .int v_number, .long v_name, .ref h_uName, .ref h_outName, .ref h_setName, .ref h_unitMany, .ref h_yesTo, .ref h_noTo, .ref h_settingMany, .ref h_shares, .ref h_gradeMany, .ref h_gKind, .ref h_gPurity, .ref h_gPrice, .ref h_outPlace, .ref h_setPlace, .ref h_setShare, .ref h_chosen, .int v_bank, .int v_rb, .int v_sets, .int v_missing, .ref h_rows, .ref h_parts, .long v_whole, .ref h_lTown, .ref h_lWeight, .ref h_lSampled, .ref h_hand, .ref h_isStruck, .int v_lorries, .int v_cost, .ref h_all, .ref h_bestChosen, .ref h_gets, .ref h_rests])), (h_lTown, .inl (cI, 60, .inl a_lTown)), (h_isStruck, .inl (cZ, 60, .inl a_isStruck)), (h_lSampled, .inl (cI, 300, .inl a_lSampled)), (h_lWeight, .inl (cI, 60, .inl a_lWeight))] H → va_D A [(h_t, .inr (7, [.ref h_tape, .ref h_text, .int v_taped, .int v_size, .int v_faultKind, .int v_faultPlace, .int v_at, .int v_end, .int v_token, .int v_number, .long v_name, .ref h_uName, .ref h_outName, .ref h_setName, .ref h_unitMany, .ref h_yesTo, .ref h_noTo, .ref h_settingMany, .ref h_shares, .ref h_gradeMany, .ref h_gKind, .ref h_gPurity, .ref h_gPrice, .ref h_outPlace, .ref h_setPlace, .ref h_setShare, .ref h_chosen, .int v_bank, .int v_rb, .int v_sets, .int v_missing, .ref h_rows, .ref h_parts, .long v_whole, .ref h_lTown, .ref h_lWeight, .ref h_lSampled, .ref h_hand, .ref h_isStruck, .int v_lorries, .int v_cost, .ref h_all, .ref h_bestChosen, .ref h_gets, .ref h_rests])), (h_lTown, .inl (cI, 60, .inl a_lTown)), (h_isStruck, .inl (cZ, 60, .inl a_isStruck)), (h_lSampled, .inl (cI, 300, .inl a_lSampled)), (h_lWeight, .inl (cI, 60, .inl a_lWeight))] → va_S A s.heap H locs → lv_has ls 5 [(0, .ref h_t), (1, .int x1), (2, .int x2), (3, .int x3), (4, .int x4)] → W p l e rmX7_broughtBy s m ([.ref h_t, .int z1, .int z2] : List Value).toArray below meth c H locs 0 0 Q (F0 m 5 ls [])), ∀ (x1 : Int32) (x2 : Int32) (x3 : Int32) (x4 : Int32) (H : Heap) (locs : List Loc) (ls : Array Slot), FX7_broughtBy_45 n v_lorries a_lTown a_isStruck a_lSampled a_lWeight z1 z2 k5 x1 x2 x3 x4 = O → va_P D classes [(h_t, .inr (7, [.ref h_tape, .ref h_text, .int v_taped, .int v_size, .int v_faultKind, .int v_faultPlace, .int v_at, .int v_end, .int v_token, .int v_number, .long v_name, .ref h_uName, .ref h_outName, .ref h_setName, .ref h_unitMany, .ref h_yesTo, .ref h_noTo, .ref h_settingMany, .ref h_shares, .ref h_gradeMany, .ref h_gKind, .ref h_gPurity, .ref h_gPrice, .ref h_outPlace, .ref h_setPlace, .ref h_setShare, .ref h_chosen, .int v_bank, .int v_rb, .int v_sets, .int v_missing, .ref h_rows, .ref h_parts, .long v_whole, .ref h_lTown, .ref h_lWeight, .ref h_lSampled, .ref h_hand, .ref h_isStruck, .int v_lorries, .int v_cost, .ref h_all, .ref h_bestChosen, .ref h_gets, .ref h_rests])), (h_lTown, .inl (cI, 60, .inl a_lTown)), (h_isStruck, .inl (cZ, 60, .inl a_isStruck)), (h_lSampled, .inl (cI, 300, .inl a_lSampled)), (h_lWeight, .inl (cI, 60, .inl a_lWeight))] H → va_D A [(h_t, .inr (7, [.ref h_tape, .ref h_text, .int v_taped, .int v_size, .int v_faultKind, .int v_faultPlace, .int v_at, .int v_end, .int v_token, .int v_number, .long v_name, .ref h_uName, .ref h_outName, .ref h_setName, .ref h_unitMany, .ref h_yesTo, .ref h_noTo, .ref h_settingMany, .ref h_shares, .ref h_gradeMany, .ref h_gKind, .ref h_gPurity, .ref h_gPrice, .ref h_outPlace, .ref h_setPlace, .ref h_setShare, .ref h_chosen, .int v_bank, .int v_rb, .int v_sets, .int v_missing, .ref h_rows, .ref h_parts, .long v_whole, .ref h_lTown, .ref h_lWeight, .ref h_lSampled, .ref h_hand, .ref h_isStruck, .int v_lorries, .int v_cost, .ref h_all, .ref h_bestChosen, .ref h_gets, .ref h_rests])), (h_lTown, .inl (cI, 60, .inl a_lTown)), (h_isStruck, .inl (cZ, 60, .inl a_isStruck)), (h_lSampled, .inl (cI, 300, .inl a_lSampled)), (h_lWeight, .inl (cI, 60, .inl a_lWeight))] → va_S A s.heap H locs → lv_has ls 5 [(0, .ref h_t), (1, .int x1), (2, .int x2), (3, .int x3), (4, .int x4)] → W p l e rmX7_broughtBy s m ([.ref h_t, .int z1, .int z2] : List Value).toArray below meth c H locs 0 0 Q (F0 m 45 ls []) := by
    intro k5 ih5 x1 x2 x3 x4 H locs ls hF hP hD hS hl
    unfold FX7_broughtBy_45 at hF
    obtain ⟨x_9, ex_9⟩ : ∃ y : Int32, y = x4 + (1 : Int32) := ⟨_, rfl⟩
    replace hF := ltP ex_9 hF
    refine lv_iinc (v := x_9) (lv' := [(4, .int x_9), (0, .ref h_t), (1, .int x1), (2, .int x2), (3, .int x3)]) hx hb dX7_broughtBy_45 hl (k := 4) rfl (by rw [ex_9]; rfl) (by decide) rfl (fun ls hl => ?_)
    refine lv_goto (tgt := 5) hx hb dX7_broughtBy_48 (by decide) ?_
    exact ih5 x1 x2 x3 x_9 H locs ls hF hP hD hS (lv_sub hl [1, 2, 3, 4, 0] rfl)
  have L5 : ∀ (k5 : Int32 → Int32 → Int32 → Int32 → Option (Int32 × Unit)) (ih5 : ∀ (x1 : Int32) (x2 : Int32) (x3 : Int32) (x4 : Int32) (H : Heap) (locs : List Loc) (ls : Array Slot), k5 x1 x2 x3 x4 = O → va_P D classes [(h_t, .inr (7, [.ref h_tape, .ref h_text, .int v_taped, .int v_size, .int v_faultKind, .int v_faultPlace, .int v_at, .int v_end, .int v_token, .int v_number, .long v_name, .ref h_uName, .ref h_outName, .ref h_setName, .ref h_unitMany, .ref h_yesTo, .ref h_noTo, .ref h_settingMany, .ref h_shares, .ref h_gradeMany, .ref h_gKind, .ref h_gPurity, .ref h_gPrice, .ref h_outPlace, .ref h_setPlace, .ref h_setShare, .ref h_chosen, .int v_bank, .int v_rb, .int v_sets, .int v_missing, .ref h_rows, .ref h_parts, .long v_whole, .ref h_lTown, .ref h_lWeight, .ref h_lSampled, .ref h_hand, .ref h_isStruck, .int v_lorries, .int v_cost, .ref h_all, .ref h_bestChosen, .ref h_gets, .ref h_rests])), (h_lTown, .inl (cI, 60, .inl a_lTown)), (h_isStruck, .inl (cZ, 60, .inl a_isStruck)), (h_lSampled, .inl (cI, 300, .inl a_lSampled)), (h_lWeight, .inl (cI, 60, .inl a_lWeight))] H → va_D A [(h_t, .inr (7, [.ref h_tape, .ref h_text, .int v_taped, .int v_size, .int v_faultKind, .int v_faultPlace, .int v_at, .int v_end, .int v_token, .int v_number, .long v_name, .ref h_uName, .ref h_outName, .ref h_setName, .ref h_unitMany, .ref h_yesTo, .ref h_noTo, .ref h_settingMany, .ref h_shares, .ref h_gradeMany, .ref h_gKind, .ref h_gPurity, .ref h_gPrice, .ref h_outPlace, .ref h_setPlace, .ref h_setShare, .ref h_chosen, .int v_bank, .int v_rb, .int v_sets, .int v_missing, .ref h_rows, .ref h_parts, .long v_whole, .ref h_lTown, .ref h_lWeight, .ref h_lSampled, .ref h_hand, .ref h_isStruck, .int v_lorries, .int v_cost, .ref h_all, .ref h_bestChosen, .ref h_gets, .ref h_rests])), (h_lTown, .inl (cI, 60, .inl a_lTown)), (h_isStruck, .inl (cZ, 60, .inl a_isStruck)), (h_lSampled, .inl (cI, 300, .inl a_lSampled)), (h_lWeight, .inl (cI, 60, .inl a_lWeight))] → va_S A s.heap H locs → lv_has ls 5 [(0, .ref h_t), (1, .int x1), (2, .int x2), (3, .int x3), (4, .int x4)] → W p l e rmX7_broughtBy s m ([.ref h_t, .int z1, .int z2] : List Value).toArray below meth c H locs 0 0 Q (F0 m 5 ls [])), ∀ (x1 : Int32) (x2 : Int32) (x3 : Int32) (x4 : Int32) (H : Heap) (locs : List Loc) (ls : Array Slot), FX7_broughtBy_5 n v_lorries a_lTown a_isStruck a_lSampled a_lWeight z1 z2 k5 x1 x2 x3 x4 = O → va_P D classes [(h_t, .inr (7, [.ref h_tape, .ref h_text, .int v_taped, .int v_size, .int v_faultKind, .int v_faultPlace, .int v_at, .int v_end, .int v_token, .int v_number, .long v_name, .ref h_uName, .ref h_outName, .ref h_setName, .ref h_unitMany, .ref h_yesTo, .ref h_noTo, .ref h_settingMany, .ref h_shares, .ref h_gradeMany, .ref h_gKind, .ref h_gPurity, .ref h_gPrice, .ref h_outPlace, .ref h_setPlace, .ref h_setShare, .ref h_chosen, .int v_bank, .int v_rb, .int v_sets, .int v_missing, .ref h_rows, .ref h_parts, .long v_whole, .ref h_lTown, .ref h_lWeight, .ref h_lSampled, .ref h_hand, .ref h_isStruck, .int v_lorries, .int v_cost, .ref h_all, .ref h_bestChosen, .ref h_gets, .ref h_rests])), (h_lTown, .inl (cI, 60, .inl a_lTown)), (h_isStruck, .inl (cZ, 60, .inl a_isStruck)), (h_lSampled, .inl (cI, 300, .inl a_lSampled)), (h_lWeight, .inl (cI, 60, .inl a_lWeight))] H → va_D A [(h_t, .inr (7, [.ref h_tape, .ref h_text, .int v_taped, .int v_size, .int v_faultKind, .int v_faultPlace, .int v_at, .int v_end, .int v_token, .int v_number, .long v_name, .ref h_uName, .ref h_outName, .ref h_setName, .ref h_unitMany, .ref h_yesTo, .ref h_noTo, .ref h_settingMany, .ref h_shares, .ref h_gradeMany, .ref h_gKind, .ref h_gPurity, .ref h_gPrice, .ref h_outPlace, .ref h_setPlace, .ref h_setShare, .ref h_chosen, .int v_bank, .int v_rb, .int v_sets, .int v_missing, .ref h_rows, .ref h_parts, .long v_whole, .ref h_lTown, .ref h_lWeight, .ref h_lSampled, .ref h_hand, .ref h_isStruck, .int v_lorries, .int v_cost, .ref h_all, .ref h_bestChosen, .ref h_gets, .ref h_rests])), (h_lTown, .inl (cI, 60, .inl a_lTown)), (h_isStruck, .inl (cZ, 60, .inl a_isStruck)), (h_lSampled, .inl (cI, 300, .inl a_lSampled)), (h_lWeight, .inl (cI, 60, .inl a_lWeight))] → va_S A s.heap H locs → lv_has ls 5 [(0, .ref h_t), (1, .int x1), (2, .int x2), (3, .int x3), (4, .int x4)] → W p l e rmX7_broughtBy s m ([.ref h_t, .int z1, .int z2] : List Value).toArray below meth c H locs 0 0 Q (F0 m 5 ls []) := by
    intro k5 ih5 x1 x2 x3 x4 H locs ls hF hP hD hS hl
    unfold FX7_broughtBy_5 at hF
    refine lv_iload hx hb dX7_broughtBy_5 (lv_at hl 4 rfl) ?_
    refine lv_aload_n hx hb dX7_broughtBy_7 rfl (lv_at hl 0 rfl) ?_
    refine va_get (D := D) (ci := 7) (C := RX7) (T := TX7) (N := 45) hx hb ha inAX7 hown hK hP 0 rfl rfl 39 (by decide) (ha _ w_4_73) (fun _ h9 => h9) rfl dX7_broughtBy_8 ?_
    refine lv_icmp_ge (tgt := 51) hx hb dX7_broughtBy_11 (by decide) (fun c_1 => ?_) (fun c_1 => ?_)
    · replace hF := ifT c_1 hF
      refine lv_iload_n hx hb dX7_broughtBy_51 rfl (lv_at hl 3 rfl) ?_
      exact hret (x3, ()) H locs ls _ hF hP hD hS dX7_broughtBy_52
    · replace hF := ifF c_1 hF
      refine lv_aload_n hx hb dX7_broughtBy_14 rfl (lv_at hl 0 rfl) ?_
      refine va_get (D := D) (ci := 7) (C := RX7) (T := TX7) (N := 45) hx hb ha inAX7 hown hK hP 0 rfl rfl 34 (by decide) (ha _ w_4_68) (fun _ h9 => h9) rfl dX7_broughtBy_15 ?_
      refine lv_iload hx hb dX7_broughtBy_18 (lv_at hl 4 rfl) ?_
      replace hF := ckP hN hF
      obtain ⟨c_2, hF⟩ := hF
      refine ld_i hx hb hK hP 1 rfl c_2 dX7_broughtBy_20 ?_
      refine lv_iload_n hx hb dX7_broughtBy_21 rfl (lv_at hl 1 rfl) ?_
      refine lv_icmp_ne (tgt := 45) hx hb dX7_broughtBy_22 (by decide) (fun c_3 => ?_) (fun c_3 => ?_)
      · replace hF := ifF c_3 hF
        exact L45 k5 ih5 x1 x2 x3 x4 H locs ls hF hP hD hS (lv_sub hl [0, 1, 2, 3, 4] rfl)
      · replace hF := ifT c_3 hF
        refine lv_aload_n hx hb dX7_broughtBy_25 rfl (lv_at hl 0 rfl) ?_
        refine va_get (D := D) (ci := 7) (C := RX7) (T := TX7) (N := 45) hx hb ha inAX7 hown hK hP 0 rfl rfl 38 (by decide) (ha _ w_4_72) (fun _ h9 => h9) rfl dX7_broughtBy_26 ?_
        refine lv_iload hx hb dX7_broughtBy_29 (lv_at hl 4 rfl) ?_
        replace hF := ckP hN hF
        obtain ⟨c_4, hF⟩ := hF
        refine ld_z hx hb hK hP 2 rfl c_4 dX7_broughtBy_31 ?_
        refine lv_if_ne (tgt := 45) hx hb dX7_broughtBy_32 (by decide) (fun c_5 => ?_) (fun c_5 => ?_)
        · replace hF := ifF c_5 hF
          exact L45 k5 ih5 x1 x2 x3 x4 H locs ls hF hP hD hS (lv_sub hl [0, 1, 2, 3, 4] rfl)
        · replace hF := ifT c_5 hF
          refine lv_iload_n hx hb dX7_broughtBy_35 rfl (lv_at hl 3 rfl) ?_
          refine lv_aload_n hx hb dX7_broughtBy_36 rfl (lv_at hl 0 rfl) ?_
          refine lv_iload hx hb dX7_broughtBy_37 (lv_at hl 4 rfl) ?_
          refine lv_iload_n hx hb dX7_broughtBy_39 rfl (lv_at hl 2 rfl) ?_
          have hn_6 := bdN hN hF
          refine callVI (As := [.int x4, .int x2]) (rest := [.int x3]) (wr := [(h_lTown, .inl (cI, 60, .inl a_lTown)), (h_isStruck, .inl (cZ, 60, .inl a_isStruck))]) (W2 := fun u_7 => [(h_t, .inr (7, [.ref h_tape, .ref h_text, .int v_taped, .int v_size, .int v_faultKind, .int v_faultPlace, .int v_at, .int v_end, .int v_token, .int v_number, .long v_name, .ref h_uName, .ref h_outName, .ref h_setName, .ref h_unitMany, .ref h_yesTo, .ref h_noTo, .ref h_settingMany, .ref h_shares, .ref h_gradeMany, .ref h_gKind, .ref h_gPurity, .ref h_gPrice, .ref h_outPlace, .ref h_setPlace, .ref h_setShare, .ref h_chosen, .int v_bank, .int v_rb, .int v_sets, .int v_missing, .ref h_rows, .ref h_parts, .long v_whole, .ref h_lTown, .ref h_lWeight, .ref h_lSampled, .ref h_hand, .ref h_isStruck, .int v_lorries, .int v_cost, .ref h_all, .ref h_bestChosen, .ref h_gets, .ref h_rests])), (h_lTown, .inl (cI, 60, .inl a_lTown)), (h_isStruck, .inl (cZ, 60, .inl a_isStruck)), (h_lSampled, .inl (cI, 300, .inl a_lSampled)), (h_lWeight, .inl (cI, 60, .inl a_lWeight))]) X hE hP hD hS hA (kX7_held l D cB cI cJ cZ rz n H.size h_t h_lSampled h_lWeight h_tape h_text h_uName h_outName h_setName h_unitMany h_yesTo h_noTo h_settingMany h_shares h_gradeMany h_gKind h_gPurity h_gPrice h_outPlace h_setPlace h_setShare h_chosen h_rows h_parts h_lTown h_hand h_isStruck h_all h_bestChosen h_gets h_rests v_taped v_size v_faultKind v_faultPlace v_at v_end v_token v_number v_name v_bank v_rb v_sets v_missing v_whole v_lorries v_cost a_lSampled a_lWeight x4 x2 hn_6) w_4_192 w_4_194 ws_69 w_1_9 w_4_195 cb_X7_held rfl rfl ⟨Nat.le_of_ble_eq_true rfl, Nat.le_of_ble_eq_true rfl⟩ rfl hl.1 rfl (Nat.le_of_ble_eq_true rfl) dX7_broughtBy_40 ⟨Nat.le_of_ble_eq_true rfl, Nat.le_of_ble_eq_true rfl⟩ (c2 := 0) (s2 := 0) rfl rfl (k0 := 0) rfl rfl [0, 3, 4] [1, 2] [2, 0, 1, 3, 4] rfl rfl (by decide) (by decide) (by decide) (by decide) (fun _ => rfl) (fun u_7 H locs hG hP hD hS => ?_)
          replace hF := bdQ hG hF
          refine lv_iadd hx hb dX7_broughtBy_43 ?_
          refine lv_topi (fun x_8 ex_8 => ?_)
          replace hF := ltP ex_8 hF
          refine lv_istore_n (lv' := [(3, .int x_8), (0, .ref h_t), (1, .int x1), (2, .int x2), (4, .int x4)]) hx hb dX7_broughtBy_44 rfl hl (by decide) rfl (fun ls hl => ?_)
          exact L45 k5 ih5 x1 x2 x_8 x4 H locs ls hF hP hD hS (lv_sub hl [1, 2, 3, 0, 4] rfl)
  have Lc5 : ∀ (j : Nat), ∀ (x1 : Int32) (x2 : Int32) (x3 : Int32) (x4 : Int32) (H : Heap) (locs : List Loc) (ls : Array Slot), FX7_broughtBy_5L n v_lorries a_lTown a_isStruck a_lSampled a_lWeight z1 z2 j x1 x2 x3 x4 = O → va_P D classes [(h_t, .inr (7, [.ref h_tape, .ref h_text, .int v_taped, .int v_size, .int v_faultKind, .int v_faultPlace, .int v_at, .int v_end, .int v_token, .int v_number, .long v_name, .ref h_uName, .ref h_outName, .ref h_setName, .ref h_unitMany, .ref h_yesTo, .ref h_noTo, .ref h_settingMany, .ref h_shares, .ref h_gradeMany, .ref h_gKind, .ref h_gPurity, .ref h_gPrice, .ref h_outPlace, .ref h_setPlace, .ref h_setShare, .ref h_chosen, .int v_bank, .int v_rb, .int v_sets, .int v_missing, .ref h_rows, .ref h_parts, .long v_whole, .ref h_lTown, .ref h_lWeight, .ref h_lSampled, .ref h_hand, .ref h_isStruck, .int v_lorries, .int v_cost, .ref h_all, .ref h_bestChosen, .ref h_gets, .ref h_rests])), (h_lTown, .inl (cI, 60, .inl a_lTown)), (h_isStruck, .inl (cZ, 60, .inl a_isStruck)), (h_lSampled, .inl (cI, 300, .inl a_lSampled)), (h_lWeight, .inl (cI, 60, .inl a_lWeight))] H → va_D A [(h_t, .inr (7, [.ref h_tape, .ref h_text, .int v_taped, .int v_size, .int v_faultKind, .int v_faultPlace, .int v_at, .int v_end, .int v_token, .int v_number, .long v_name, .ref h_uName, .ref h_outName, .ref h_setName, .ref h_unitMany, .ref h_yesTo, .ref h_noTo, .ref h_settingMany, .ref h_shares, .ref h_gradeMany, .ref h_gKind, .ref h_gPurity, .ref h_gPrice, .ref h_outPlace, .ref h_setPlace, .ref h_setShare, .ref h_chosen, .int v_bank, .int v_rb, .int v_sets, .int v_missing, .ref h_rows, .ref h_parts, .long v_whole, .ref h_lTown, .ref h_lWeight, .ref h_lSampled, .ref h_hand, .ref h_isStruck, .int v_lorries, .int v_cost, .ref h_all, .ref h_bestChosen, .ref h_gets, .ref h_rests])), (h_lTown, .inl (cI, 60, .inl a_lTown)), (h_isStruck, .inl (cZ, 60, .inl a_isStruck)), (h_lSampled, .inl (cI, 300, .inl a_lSampled)), (h_lWeight, .inl (cI, 60, .inl a_lWeight))] → va_S A s.heap H locs → lv_has ls 5 [(0, .ref h_t), (1, .int x1), (2, .int x2), (3, .int x3), (4, .int x4)] → W p l e rmX7_broughtBy s m ([.ref h_t, .int z1, .int z2] : List Value).toArray below meth c H locs 0 0 Q (F0 m 5 ls []) := by
    intro j
    induction j with
    | zero => intro _ _ _ _ H locs ls hF; exact absurd hF.symm hN
    | succ j ih => exact L5 (FX7_broughtBy_5L n v_lorries a_lTown a_isStruck a_lSampled a_lWeight z1 z2 j) ih
  unfold FX7_broughtBy at hF
  obtain ⟨H, hH⟩ : ∃ H, H = s.heap := ⟨_, rfl⟩
  obtain ⟨locs, hlo⟩ : ∃ locs : List Loc, locs = [] := ⟨_, rfl⟩
  have hS : va_S A s.heap H locs := by rw [hH, hlo]; exact hS
  rw [← hH] at hP
  have goal : W p l e rmX7_broughtBy s m ([.ref h_t, .int z1, .int z2] : List Value).toArray below meth c H locs 0 0 Q (F0 m 0 ls []) := by
    refine lv_iconst (v := 0) hx hb dX7_broughtBy_0 (by decide) ?_
    refine lv_istore_n (lv' := [(3, .int (0 : Int32)), (0, .ref h_t), (1, .int z1), (2, .int z2)]) hx hb dX7_broughtBy_1 rfl hl (by decide) rfl (fun ls hl => ?_)
    refine lv_iconst (v := 0) hx hb dX7_broughtBy_2 (by decide) ?_
    refine lv_istore (lv' := [(4, .int (0 : Int32)), (3, .int (0 : Int32)), (0, .ref h_t), (1, .int z1), (2, .int z2)]) hx hb dX7_broughtBy_3 hl (by decide) rfl (fun ls hl => ?_)
    exact Lc5 n z1 z2 (0 : Int32) (0 : Int32) H locs ls hF hP hD hS (lv_sub hl [2, 3, 4, 1, 0] rfl)
  rw [hH, hlo] at goal
  exact goal
theorem dX7_isTown_0 : decode cX7_isTown 0 = .ok (.iload_n 0, 1) := by decide +kernel
theorem dX7_isTown_1 : decode cX7_isTown 1 = .ok (.ifCond .lt 12, 3) := by decide +kernel
theorem dX7_isTown_4 : decode cX7_isTown 4 = .ok (.iload_n 0, 1) := by decide +kernel
theorem dX7_isTown_5 : decode cX7_isTown 5 = .ok (.iconst 5, 1) := by decide +kernel
theorem dX7_isTown_6 : decode cX7_isTown 6 = .ok (.if_icmp .ge 7, 3) := by decide +kernel
theorem dX7_isTown_9 : decode cX7_isTown 9 = .ok (.iconst 1, 1) := by decide +kernel
theorem dX7_isTown_10 : decode cX7_isTown 10 = .ok (.goto 4, 3) := by decide +kernel
theorem dX7_isTown_13 : decode cX7_isTown 13 = .ok (.iconst 0, 1) := by decide +kernel
theorem dX7_isTown_14 : decode cX7_isTown 14 = .ok (.ireturn, 1) := by decide +kernel
abbrev rmX7_isTown : Room := { frames := 0, cells := 0, slots := 0, locals := 0 }
theorem cb_X7_isTown : CBn yX7_isTown 1 := ⟨by decide +kernel, by decide +kernel, by decide +kernel⟩
def FX7_isTown (n : Nat) (z0 : Int32) : Option (Int32 × Unit) := if z0 < 0 then (some ((0 : Int32), ())) else (if (5 : Int32) ≤ z0 then (some ((0 : Int32), ())) else (some ((1 : Int32), ())))
set_option maxHeartbeats 4000000 in
set_option maxRecDepth 100000 in
theorem kX7_isTown (l : Launch) (D : va_G) (cB cI cJ cZ : ClassId) (rz n sz : Nat) (z0 : Int32) (hN : FX7_isTown n z0 ≠ none) : Met l yX7_isTown (Cond.code yX7_isTown cX7_isTown 1 (some .boolean) :: AL) rmX7_isTown (PW D cB cI cJ cZ rz [.int z0] [] sz) (QZ D (FX7_isTown n z0) (fun u => []) (va_A [] sz)) 0 0 (va_A [] sz) := by
  obtain ⟨O, hF⟩ : ∃ O, FX7_isTown n z0 = O := ⟨_, rfl⟩
  rw [hF] at hN ⊢
  refine enterZ (cc := cX7_isTown) (nL := 1) (by decide) (Nat.le_of_ble_eq_true rfl) ?_
  intro p e s m below meth c A Q X hA hE hnm hsz hP hD hS hret ls hl
  obtain ⟨hx, hb, hml, hown0, ha⟩ := id X
  have hown : s.vm.findClass RX7 = some m.cls := hown0
  have hK := hE.1
  have hl : lv_has ls 1 [(0, .int z0)] := hl
  have hX : CallFix p m c cX7_isTown 1 s ([.int z0] : List Value).toArray AL RX7 := X
  have X := hX
  unfold FX7_isTown at hF
  obtain ⟨H, hH⟩ : ∃ H, H = s.heap := ⟨_, rfl⟩
  obtain ⟨locs, hlo⟩ : ∃ locs : List Loc, locs = [] := ⟨_, rfl⟩
  have hS : va_S A s.heap H locs := by rw [hH, hlo]; exact hS
  rw [← hH] at hP
  have goal : W p l e rmX7_isTown s m ([.int z0] : List Value).toArray below meth c H locs 0 0 Q (F0 m 0 ls []) := by
    refine lv_iload_n hx hb dX7_isTown_0 rfl (lv_at hl 0 rfl) ?_
    refine lv_if_lt (tgt := 13) hx hb dX7_isTown_1 (by decide) (fun c_1 => ?_) (fun c_1 => ?_)
    · replace hF := ifT c_1 hF
      refine lv_iconst (v := 0) hx hb dX7_isTown_13 (by decide) ?_
      exact hret ((0 : Int32), ()) H locs ls _ hF nz0 hP hD hS dX7_isTown_14
    · replace hF := ifF c_1 hF
      refine lv_iload_n hx hb dX7_isTown_4 rfl (lv_at hl 0 rfl) ?_
      refine lv_iconst (v := 5) hx hb dX7_isTown_5 (by decide) ?_
      refine lv_icmp_ge (tgt := 13) hx hb dX7_isTown_6 (by decide) (fun c_2 => ?_) (fun c_2 => ?_)
      · replace hF := ifT c_2 hF
        refine lv_iconst (v := 0) hx hb dX7_isTown_13 (by decide) ?_
        exact hret ((0 : Int32), ()) H locs ls _ hF nz0 hP hD hS dX7_isTown_14
      · replace hF := ifF c_2 hF
        refine lv_iconst (v := 1) hx hb dX7_isTown_9 (by decide) ?_
        refine lv_goto (tgt := 14) hx hb dX7_isTown_10 (by decide) ?_
        exact hret ((1 : Int32), ()) H locs ls _ hF nz1 hP hD hS dX7_isTown_14
  rw [hH, hlo] at goal
  exact goal
