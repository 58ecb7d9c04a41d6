/-! words: one list for all methods -/
def AL : List Cond := lw_tbl.filter goodWord
theorem AL_mem {w : Cond} (h : w ∈ lw_tbl) (g : goodWord w = true) : w ∈ AL := List.mem_filter.mpr ⟨h, g⟩
theorem AL_tbl {w : Cond} (h : w ∈ AL) : w ∈ lw_tbl := (List.mem_filter.mp h).1
theorem AL_good {w : Cond} (h : w ∈ AL) : goodWord w = true := (List.mem_filter.mp h).2
theorem tm1 {w : Cond} (i : Nat) (h : tables_1_1[i]? = some w) : w ∈ lw_tbl := List.mem_append_right _ (show w ∈ tables_1 from List.mem_append_left _ (List.mem_of_getElem? h))
theorem tm2 {w : Cond} (i : Nat) (h : tables_1_2[i]? = some w) : w ∈ lw_tbl := List.mem_append_right _ (show w ∈ tables_1 from List.mem_append_right _ (List.mem_append_left _ (List.mem_of_getElem? h)))
theorem tm3 {w : Cond} (i : Nat) (h : tables_1_3[i]? = some w) : w ∈ lw_tbl := List.mem_append_right _ (show w ∈ tables_1 from List.mem_append_right _ (List.mem_append_right _ (List.mem_append_left _ (List.mem_of_getElem? h))))
theorem tm4 {w : Cond} (i : Nat) (h : tables_1_4[i]? = some w) : w ∈ lw_tbl := List.mem_append_right _ (show w ∈ tables_1 from List.mem_append_right _ (List.mem_append_right _ (List.mem_append_right _ (List.mem_append_left _ (List.mem_of_getElem? h)))))
theorem tm5 {w : Cond} (i : Nat) (h : tables_1_5[i]? = some w) : w ∈ lw_tbl := List.mem_append_right _ (show w ∈ tables_1 from List.mem_append_right _ (List.mem_append_right _ (List.mem_append_right _ (List.mem_append_right _ (List.mem_of_getElem? h)))))
theorem tS {y : MethodName} {n : Nat} (i : Nat) (h : lw_privs[i]? = some (y, n)) : Cond.selects y.cls y y ∈ AL := AL_mem (List.mem_append_left _ (List.mem_map.mpr ⟨_, List.mem_of_getElem? h, rfl⟩)) rfl
theorem w_1_0 : (.initialized RL : Cond) ∈ AL := AL_mem (tm1 0 rfl) rfl
theorem w_1_1 : (.initialized RX6 : Cond) ∈ AL := AL_mem (tm1 1 rfl) rfl
theorem w_1_2 : (.initialized RX2 : Cond) ∈ AL := AL_mem (tm1 2 rfl) rfl
theorem w_1_3 : (.initialized RX3 : Cond) ∈ AL := AL_mem (tm1 3 rfl) rfl
theorem w_1_4 : (.initialized RX4 : Cond) ∈ AL := AL_mem (tm1 4 rfl) rfl
theorem w_1_5 : (.initialized RX0 : Cond) ∈ AL := AL_mem (tm1 5 rfl) rfl
theorem w_1_6 : (.initialized RX1 : Cond) ∈ AL := AL_mem (tm1 6 rfl) rfl
theorem w_1_7 : (.initialized RX5 : Cond) ∈ AL := AL_mem (tm1 7 rfl) rfl
theorem w_1_8 : (.initialized RJ7 : Cond) ∈ AL := AL_mem (tm1 8 rfl) rfl
theorem w_1_9 : (.initialized RX7 : Cond) ∈ AL := AL_mem (tm1 9 rfl) rfl
theorem w_1_10 : (.initialized RJ10 : Cond) ∈ AL := AL_mem (tm1 10 rfl) rfl
theorem w_1_11 : (.initialized RJ9 : Cond) ∈ AL := AL_mem (tm1 11 rfl) rfl
theorem w_1_12 : (.initialized RJ6 : Cond) ∈ AL := AL_mem (tm1 12 rfl) rfl
theorem w_1_13 : (.classLink RL 7 RX6 : Cond) ∈ AL := AL_mem (tm1 13 rfl) rfl
theorem w_1_14 : (.instantiable RX6 12 : Cond) ∈ AL := AL_mem (tm1 14 rfl) rfl
theorem w_1_15 : (.methodLink RL 9 yX6_init : Cond) ∈ AL := AL_mem (tm1 15 rfl) rfl
theorem w_1_16 : (.instanceMethod yX6_init : Cond) ∈ AL := AL_mem (tm1 16 rfl) rfl
theorem w_1_17 : (.code yX6_init cX6_init 1 none : Cond) ∈ AL := AL_mem (tm1 17 rfl) rfl
theorem w_1_18 : (.methodLink RX6 1 objectInit : Cond) ∈ AL := AL_mem (tm1 18 rfl) rfl
theorem w_1_19 : (.instanceMethod objectInit : Cond) ∈ AL := AL_mem (tm1 19 rfl) rfl
theorem w_1_20 : (.code objectInit ⟨#[0xb1]⟩ 1 none : Cond) ∈ AL := AL_mem (tm1 20 rfl) rfl
theorem w_1_21 : (.classLink RX6 7 RX2 : Cond) ∈ AL := AL_mem (tm1 21 rfl) rfl
theorem w_1_22 : (.instantiable RX2 9 : Cond) ∈ AL := AL_mem (tm1 22 rfl) rfl
theorem w_1_24 : (.instanceMethod yX2_init : Cond) ∈ AL := AL_mem (tm1 24 rfl) rfl
theorem w_1_25 : (.code yX2_init cX2_init 1 none : Cond) ∈ AL := AL_mem (tm1 25 rfl) rfl
theorem w_1_26 : (.methodLink RX2 3 objectInit : Cond) ∈ AL := AL_mem (tm1 26 rfl) rfl
theorem w_1_27 : (.fieldLink RX2 36 "SortWorks$Plan" "units" "I" : Cond) ∈ AL := AL_mem (tm1 27 rfl) rfl
theorem w_1_31 : (.fieldLink RX2 9 "SortWorks$Plan" "settings" "[I" : Cond) ∈ AL := AL_mem (tm1 31 rfl) rfl
theorem w_1_34 : (.fieldLink RX2 15 "SortWorks$Plan" "yesLeads" "[I" : Cond) ∈ AL := AL_mem (tm1 34 rfl) rfl
theorem w_1_38 : (.fieldLink RX2 18 "SortWorks$Plan" "noLeads" "[I" : Cond) ∈ AL := AL_mem (tm1 38 rfl) rfl
theorem w_1_42 : (.fieldLink RX2 21 "SortWorks$Plan" "percents" "[I" : Cond) ∈ AL := AL_mem (tm1 42 rfl) rfl
theorem w_1_43 : (.fieldLink RX2 24 "SortWorks$Plan" "grades" "[I" : Cond) ∈ AL := AL_mem (tm1 43 rfl) rfl
theorem w_1_47 : (.fieldLink RX2 27 "SortWorks$Plan" "gradeKinds" "[I" : Cond) ∈ AL := AL_mem (tm1 47 rfl) rfl
theorem w_1_50 : (.fieldLink RX2 30 "SortWorks$Plan" "gradePurities" "[I" : Cond) ∈ AL := AL_mem (tm1 50 rfl) rfl
theorem w_1_52 : (.fieldLink RX2 33 "SortWorks$Plan" "gradePrices" "[I" : Cond) ∈ AL := AL_mem (tm1 52 rfl) rfl
theorem w_1_73 : (.arrayClass .int : Cond) ∈ AL := AL_mem (tm1 73 rfl) rfl
theorem w_1_74 : (.classLink RX6 16 RX3 : Cond) ∈ AL := AL_mem (tm1 74 rfl) rfl
theorem w_1_75 : (.instantiable RX3 12 : Cond) ∈ AL := AL_mem (tm1 75 rfl) rfl
theorem w_1_77 : (.instanceMethod yX3_init : Cond) ∈ AL := AL_mem (tm1 77 rfl) rfl
theorem w_1_78 : (.code yX3_init cX3_init 1 none : Cond) ∈ AL := AL_mem (tm1 78 rfl) rfl
theorem w_1_79 : (.methodLink RX3 3 objectInit : Cond) ∈ AL := AL_mem (tm1 79 rfl) rfl
theorem w_1_80 : (.classLink RX3 9 RX4 : Cond) ∈ AL := AL_mem (tm1 80 rfl) rfl
theorem w_1_81 : (.instantiable RX4 8 : Cond) ∈ AL := AL_mem (tm1 81 rfl) rfl
theorem w_1_83 : (.instanceMethod yX4_init : Cond) ∈ AL := AL_mem (tm1 83 rfl) rfl
theorem w_1_84 : (.code yX4_init cX4_init 1 none : Cond) ∈ AL := AL_mem (tm1 84 rfl) rfl
theorem w_1_85 : (.methodLink RX4 3 objectInit : Cond) ∈ AL := AL_mem (tm1 85 rfl) rfl
theorem w_1_86 : (.fieldLink RX4 9 "SortWorks$Tape" "bytes" "[B" : Cond) ∈ AL := AL_mem (tm1 86 rfl) rfl
theorem w_1_87 : (.fieldLink RX4 15 "SortWorks$Tape" "length" "I" : Cond) ∈ AL := AL_mem (tm1 87 rfl) rfl
theorem w_1_89 : (.fieldLink RX4 19 "SortWorks$Tape" "next" "I" : Cond) ∈ AL := AL_mem (tm1 89 rfl) rfl
theorem w_1_91 : (.fieldLink RX4 31 "SortWorks$Tape" "type" "I" : Cond) ∈ AL := AL_mem (tm1 91 rfl) rfl
theorem w_1_92 : (.fieldLink RX4 22 "SortWorks$Tape" "place" "I" : Cond) ∈ AL := AL_mem (tm1 92 rfl) rfl
theorem w_1_95 : (.fieldLink RX4 28 "SortWorks$Tape" "formerPlace" "I" : Cond) ∈ AL := AL_mem (tm1 95 rfl) rfl
theorem w_1_96 : (.fieldLink RX4 47 "SortWorks$Tape" "word" "J" : Cond) ∈ AL := AL_mem (tm1 96 rfl) rfl
theorem w_1_98 : (.fieldLink RX4 55 "SortWorks$Tape" "number" "I" : Cond) ∈ AL := AL_mem (tm1 98 rfl) rfl
theorem w_1_117 : (.arrayClass .byte : Cond) ∈ AL := AL_mem (tm1 117 rfl) rfl
theorem w_1_118 : (.classLink RX3 18 RX2 : Cond) ∈ AL := AL_mem (tm1 118 rfl) rfl
theorem w_1_120 : (.fieldLink RX3 48 "SortWorks$Reader" "fault" "I" : Cond) ∈ AL := AL_mem (tm1 120 rfl) rfl
theorem w_1_122 : (.fieldLink RX3 52 "SortWorks$Reader" "faultPlace" "I" : Cond) ∈ AL := AL_mem (tm1 122 rfl) rfl
theorem w_1_124 : (.fieldLink RX3 12 "SortWorks$Reader" "tape" "LSortWorks$Tape;" : Cond) ∈ AL := AL_mem (tm1 124 rfl) rfl
theorem w_1_126 : (.fieldLink RX3 21 "SortWorks$Reader" "draft" "LSortWorks$Plan;" : Cond) ∈ AL := AL_mem (tm1 126 rfl) rfl
theorem w_1_128 : (.fieldLink RX3 25 "SortWorks$Reader" "names" "[J" : Cond) ∈ AL := AL_mem (tm1 128 rfl) rfl
theorem w_1_129 : (.fieldLink RX3 29 "SortWorks$Reader" "namePlaces" "[I" : Cond) ∈ AL := AL_mem (tm1 129 rfl) rfl
theorem w_1_130 : (.fieldLink RX3 33 "SortWorks$Reader" "nameUnits" "[I" : Cond) ∈ AL := AL_mem (tm1 130 rfl) rfl
theorem w_1_131 : (.fieldLink RX3 36 "SortWorks$Reader" "nameSettings" "[I" : Cond) ∈ AL := AL_mem (tm1 131 rfl) rfl
theorem w_1_132 : (.fieldLink RX3 55 "SortWorks$Reader" "nameCount" "I" : Cond) ∈ AL := AL_mem (tm1 132 rfl) rfl
theorem w_1_133 : (.fieldLink RX3 39 "SortWorks$Reader" "setNames" "[I" : Cond) ∈ AL := AL_mem (tm1 133 rfl) rfl
theorem w_1_134 : (.fieldLink RX3 42 "SortWorks$Reader" "setValues" "[I" : Cond) ∈ AL := AL_mem (tm1 134 rfl) rfl
theorem w_1_135 : (.fieldLink RX3 58 "SortWorks$Reader" "setCount" "I" : Cond) ∈ AL := AL_mem (tm1 135 rfl) rfl
theorem w_1_161 : (.arrayClass .long : Cond) ∈ AL := AL_mem (tm1 161 rfl) rfl
theorem w_1_162 : (.classLink RX6 40 RX0 : Cond) ∈ AL := AL_mem (tm1 162 rfl) rfl
theorem w_1_163 : (.instantiable RX0 5 : Cond) ∈ AL := AL_mem (tm1 163 rfl) rfl
theorem w_1_165 : (.instanceMethod yX0_init : Cond) ∈ AL := AL_mem (tm1 165 rfl) rfl
theorem w_1_166 : (.code yX0_init cX0_init 1 none : Cond) ∈ AL := AL_mem (tm1 166 rfl) rfl
theorem w_1_167 : (.methodLink RX0 3 objectInit : Cond) ∈ AL := AL_mem (tm1 167 rfl) rfl
theorem w_1_168 : (.fieldLink RX0 37 "SortWorks$Ends" "wholeOfAll" "J" : Cond) ∈ AL := AL_mem (tm1 168 rfl) rfl
theorem w_1_171 : (.fieldLink RX0 9 "SortWorks$Ends" "parts" "[J" : Cond) ∈ AL := AL_mem (tm1 171 rfl) rfl
theorem w_1_174 : (.fieldLink RX0 15 "SortWorks$Ends" "rows" "[I" : Cond) ∈ AL := AL_mem (tm1 174 rfl) rfl
theorem w_1_175 : (.fieldLink RX0 19 "SortWorks$Ends" "outs" "[I" : Cond) ∈ AL := AL_mem (tm1 175 rfl) rfl
theorem w_1_176 : (.fieldLink RX0 22 "SortWorks$Ends" "minors" "[J" : Cond) ∈ AL := AL_mem (tm1 176 rfl) rfl
theorem w_1_188 : (.classLink RX6 47 RX1 : Cond) ∈ AL := AL_mem (tm1 188 rfl) rfl
theorem w_1_189 : (.instantiable RX1 2 : Cond) ∈ AL := AL_mem (tm1 189 rfl) rfl
theorem w_1_191 : (.instanceMethod yX1_init : Cond) ∈ AL := AL_mem (tm1 191 rfl) rfl
theorem w_1_192 : (.code yX1_init cX1_init 1 none : Cond) ∈ AL := AL_mem (tm1 192 rfl) rfl
theorem w_1_193 : (.methodLink RX1 3 objectInit : Cond) ∈ AL := AL_mem (tm1 193 rfl) rfl
theorem w_1_194 : (.fieldLink RX1 9 "SortWorks$Heaps" "held" "[I" : Cond) ∈ AL := AL_mem (tm1 194 rfl) rfl
theorem w_1_196 : (.fieldLink RX1 15 "SortWorks$Heaps" "totals" "[I" : Cond) ∈ AL := AL_mem (tm1 196 rfl) rfl
theorem w_1_202 : (.classLink RX6 54 RX5 : Cond) ∈ AL := AL_mem (tm1 202 rfl) rfl
theorem w_1_203 : (.instantiable RX5 6 : Cond) ∈ AL := AL_mem (tm1 203 rfl) rfl
theorem w_1_205 : (.instanceMethod yX5_init : Cond) ∈ AL := AL_mem (tm1 205 rfl) rfl
theorem w_1_206 : (.code yX5_init cX5_init 1 none : Cond) ∈ AL := AL_mem (tm1 206 rfl) rfl
theorem w_1_207 : (.methodLink RX5 3 objectInit : Cond) ∈ AL := AL_mem (tm1 207 rfl) rfl
theorem w_1_208 : (.fieldLink RX5 28 "SortWorks$Yard" "count" "I" : Cond) ∈ AL := AL_mem (tm1 208 rfl) rfl
theorem w_1_210 : (.fieldLink RX5 9 "SortWorks$Yard" "sampled" "[I" : Cond) ∈ AL := AL_mem (tm1 210 rfl) rfl
theorem w_1_212 : (.fieldLink RX5 15 "SortWorks$Yard" "towns" "[I" : Cond) ∈ AL := AL_mem (tm1 212 rfl) rfl
theorem w_1_213 : (.fieldLink RX5 18 "SortWorks$Yard" "loads" "[I" : Cond) ∈ AL := AL_mem (tm1 213 rfl) rfl
theorem w_1_214 : (.fieldLink RX5 21 "SortWorks$Yard" "struck" "[Z" : Cond) ∈ AL := AL_mem (tm1 214 rfl) rfl
theorem w_1_215 : (.fieldLink RX5 25 "SortWorks$Yard" "ofTowns" "[I" : Cond) ∈ AL := AL_mem (tm1 215 rfl) rfl
theorem w_1_230 : (.arrayClass .boolean : Cond) ∈ AL := AL_mem (tm1 230 rfl) rfl
theorem w_1_231 : (.methodLink RX6 64 yJ7_fill_53178 : Cond) ∈ AL := AL_mem (tm1 231 rfl) rfl
theorem w_1_232 : (.static yJ7_fill_53178 : Cond) ∈ AL := AL_mem (tm1 232 rfl) rfl
theorem w_1_233 : (.code yJ7_fill_53178 cJ7_fill_53178 4 none : Cond) ∈ AL := AL_mem (tm1 233 rfl) rfl
theorem w_1_234 : (.fieldLink RX6 10 "SortWorks" "told" "LSortWorks$Plan;" : Cond) ∈ AL := AL_mem (tm1 234 rfl) rfl
theorem w_1_235 : (.fieldLink RX6 19 "SortWorks" "reader" "LSortWorks$Reader;" : Cond) ∈ AL := AL_mem (tm1 235 rfl) rfl
theorem w_1_236 : (.fieldLink RX6 89 "SortWorks" "faultNumber" "I" : Cond) ∈ AL := AL_mem (tm1 236 rfl) rfl
theorem w_1_237 : (.fieldLink RX6 23 "SortWorks" "faultPlace" "I" : Cond) ∈ AL := AL_mem (tm1 237 rfl) rfl
theorem w_1_238 : (.fieldLink RX6 27 "SortWorks" "chosen" "[I" : Cond) ∈ AL := AL_mem (tm1 238 rfl) rfl
theorem w_1_239 : (.fieldLink RX6 31 "SortWorks" "tried" "[I" : Cond) ∈ AL := AL_mem (tm1 239 rfl) rfl
theorem w_2_0 : (.fieldLink RX6 34 "SortWorks" "byHand" "[I" : Cond) ∈ AL := AL_mem (tm2 0 rfl) rfl
theorem w_2_1 : (.fieldLink RX6 37 "SortWorks" "coming" "[I" : Cond) ∈ AL := AL_mem (tm2 1 rfl) rfl
theorem w_2_2 : (.fieldLink RX6 43 "SortWorks" "ends" "LSortWorks$Ends;" : Cond) ∈ AL := AL_mem (tm2 2 rfl) rfl
theorem w_2_3 : (.fieldLink RX6 50 "SortWorks" "heaps" "LSortWorks$Heaps;" : Cond) ∈ AL := AL_mem (tm2 3 rfl) rfl
theorem w_2_4 : (.fieldLink RX6 57 "SortWorks" "yard" "LSortWorks$Yard;" : Cond) ∈ AL := AL_mem (tm2 4 rfl) rfl
theorem w_2_5 : (.fieldLink RX6 61 "SortWorks" "costOfKilogram" "I" : Cond) ∈ AL := AL_mem (tm2 5 rfl) rfl
theorem w_2_31 : (.methodLink RL 13 yX6_feed : Cond) ∈ AL := AL_mem (tm2 31 rfl) rfl
theorem w_2_32 : (.instanceMethod yX6_feed : Cond) ∈ AL := AL_mem (tm2 32 rfl) rfl
theorem w_2_33 : (.selects RX6 yX6_feed yX6_feed : Cond) ∈ AL := AL_mem (tm2 33 rfl) rfl
theorem w_2_34 : (.code yX6_feed cX6_feed 7 (some .int) : Cond) ∈ AL := AL_mem (tm2 34 rfl) rfl
theorem w_2_37 : (.instanceMethod yX4_put : Cond) ∈ AL := AL_mem (tm2 37 rfl) rfl
theorem w_2_38 : (.code yX4_put cX4_put 3 none : Cond) ∈ AL := AL_mem (tm2 38 rfl) rfl
theorem w_2_39 : (.methodLink RL 18 yX6_end : Cond) ∈ AL := AL_mem (tm2 39 rfl) rfl
theorem w_2_40 : (.instanceMethod yX6_end : Cond) ∈ AL := AL_mem (tm2 40 rfl) rfl
theorem w_2_41 : (.selects RX6 yX6_end yX6_end : Cond) ∈ AL := AL_mem (tm2 41 rfl) rfl
theorem w_2_42 : (.code yX6_end cX6_end 2 (some .int) : Cond) ∈ AL := AL_mem (tm2 42 rfl) rfl
theorem w_2_43 : (.methodLink RL 23 yX6_plan : Cond) ∈ AL := AL_mem (tm2 43 rfl) rfl
theorem w_2_44 : (.instanceMethod yX6_plan : Cond) ∈ AL := AL_mem (tm2 44 rfl) rfl
theorem w_2_45 : (.selects RX6 yX6_plan yX6_plan : Cond) ∈ AL := AL_mem (tm2 45 rfl) rfl
theorem w_2_46 : (.code yX6_plan cX6_plan 2 (some .int) : Cond) ∈ AL := AL_mem (tm2 46 rfl) rfl
theorem w_2_49 : (.instanceMethod yX3_read : Cond) ∈ AL := AL_mem (tm2 49 rfl) rfl
theorem w_2_50 : (.code yX3_read cX3_read 2 none : Cond) ∈ AL := AL_mem (tm2 50 rfl) rfl
theorem w_2_53 : (.instanceMethod yX2_clear : Cond) ∈ AL := AL_mem (tm2 53 rfl) rfl
theorem w_2_54 : (.code yX2_clear cX2_clear 1 none : Cond) ∈ AL := AL_mem (tm2 54 rfl) rfl
theorem w_2_55 : (.methodLink RX2 40 yJ7_fill_53178 : Cond) ∈ AL := AL_mem (tm2 55 rfl) rfl
theorem w_2_58 : (.instanceMethod yX4_start : Cond) ∈ AL := AL_mem (tm2 58 rfl) rfl
theorem w_2_59 : (.code yX4_start cX4_start 1 none : Cond) ∈ AL := AL_mem (tm2 59 rfl) rfl
theorem w_2_60 : (.methodLink RX4 25 yX4_advance : Cond) ∈ AL := AL_mem (tm2 60 rfl) rfl
theorem w_2_62 : (.instanceMethod yX4_advance : Cond) ∈ AL := AL_mem (tm2 62 rfl) rfl
theorem w_2_63 : (.code yX4_advance cX4_advance 1 none : Cond) ∈ AL := AL_mem (tm2 63 rfl) rfl
theorem w_2_64 : (.methodLink RX4 34 yX4_isLetter : Cond) ∈ AL := AL_mem (tm2 64 rfl) rfl
theorem w_2_65 : (.static yX4_isLetter : Cond) ∈ AL := AL_mem (tm2 65 rfl) rfl
theorem w_2_66 : (.code yX4_isLetter cX4_isLetter 1 (some .boolean) : Cond) ∈ AL := AL_mem (tm2 66 rfl) rfl
theorem w_2_67 : (.methodLink RX4 38 yX4_scanWord : Cond) ∈ AL := AL_mem (tm2 67 rfl) rfl
theorem w_2_69 : (.instanceMethod yX4_scanWord : Cond) ∈ AL := AL_mem (tm2 69 rfl) rfl
theorem w_2_70 : (.code yX4_scanWord cX4_scanWord 2 none : Cond) ∈ AL := AL_mem (tm2 70 rfl) rfl
theorem w_2_71 : (.fieldLink RX4 51 "SortWorks$Tape" "RESERVED" "[J" : Cond) ∈ AL := AL_mem (tm2 71 rfl) rfl
theorem w_2_72 : (.laysStatic RX4 "RESERVED" "[J" : Cond) ∈ lw_tbl := tm2 72 rfl
theorem w_2_73 : (.methodLink RX4 41 yX4_isDigit : Cond) ∈ AL := AL_mem (tm2 73 rfl) rfl
theorem w_2_74 : (.static yX4_isDigit : Cond) ∈ AL := AL_mem (tm2 74 rfl) rfl
theorem w_2_75 : (.code yX4_isDigit cX4_isDigit 1 (some .boolean) : Cond) ∈ AL := AL_mem (tm2 75 rfl) rfl
theorem w_2_76 : (.methodLink RX4 44 yX4_scanNumber : Cond) ∈ AL := AL_mem (tm2 76 rfl) rfl
theorem w_2_78 : (.instanceMethod yX4_scanNumber : Cond) ∈ AL := AL_mem (tm2 78 rfl) rfl
theorem w_2_79 : (.code yX4_scanNumber cX4_scanNumber 2 none : Cond) ∈ AL := AL_mem (tm2 79 rfl) rfl
theorem w_2_80 : (.methodLink RX3 67 yX3_readUnit : Cond) ∈ AL := AL_mem (tm2 80 rfl) rfl
theorem w_2_82 : (.instanceMethod yX3_readUnit : Cond) ∈ AL := AL_mem (tm2 82 rfl) rfl
theorem w_2_83 : (.code yX3_readUnit cX3_readUnit 4 none : Cond) ∈ AL := AL_mem (tm2 83 rfl) rfl
theorem w_2_84 : (.methodLink RX3 76 yX3_refuseToken : Cond) ∈ AL := AL_mem (tm2 84 rfl) rfl
theorem w_2_86 : (.instanceMethod yX3_refuseToken : Cond) ∈ AL := AL_mem (tm2 86 rfl) rfl
theorem w_2_87 : (.code yX3_refuseToken cX3_refuseToken 1 none : Cond) ∈ AL := AL_mem (tm2 87 rfl) rfl
theorem w_2_88 : (.methodLink RX3 98 yX3_fail : Cond) ∈ AL := AL_mem (tm2 88 rfl) rfl
theorem w_2_90 : (.instanceMethod yX3_fail : Cond) ∈ AL := AL_mem (tm2 90 rfl) rfl
theorem w_2_91 : (.code yX3_fail cX3_fail 3 none : Cond) ∈ AL := AL_mem (tm2 91 rfl) rfl
theorem w_2_93 : (.methodLink RX3 91 yX3_takeName : Cond) ∈ AL := AL_mem (tm2 93 rfl) rfl
theorem w_2_95 : (.instanceMethod yX3_takeName : Cond) ∈ AL := AL_mem (tm2 95 rfl) rfl
theorem w_2_96 : (.code yX3_takeName cX3_takeName 2 (some .int) : Cond) ∈ AL := AL_mem (tm2 96 rfl) rfl
theorem w_2_97 : (.methodLink RX3 133 yX3_accepts : Cond) ∈ AL := AL_mem (tm2 97 rfl) rfl
theorem w_2_99 : (.instanceMethod yX3_accepts : Cond) ∈ AL := AL_mem (tm2 99 rfl) rfl
theorem w_2_100 : (.code yX3_accepts cX3_accepts 2 (some .boolean) : Cond) ∈ AL := AL_mem (tm2 100 rfl) rfl
theorem w_2_101 : (.methodLink RX3 102 yX3_take : Cond) ∈ AL := AL_mem (tm2 101 rfl) rfl
theorem w_2_103 : (.instanceMethod yX3_take : Cond) ∈ AL := AL_mem (tm2 103 rfl) rfl
theorem w_2_104 : (.code yX3_take cX3_take 2 none : Cond) ∈ AL := AL_mem (tm2 104 rfl) rfl
theorem w_2_105 : (.methodLink RX3 106 yX3_takeOut : Cond) ∈ AL := AL_mem (tm2 105 rfl) rfl
theorem w_2_107 : (.instanceMethod yX3_takeOut : Cond) ∈ AL := AL_mem (tm2 107 rfl) rfl
theorem w_2_108 : (.code yX3_takeOut cX3_takeOut 1 (some .int) : Cond) ∈ AL := AL_mem (tm2 108 rfl) rfl
theorem w_2_109 : (.methodLink RX3 115 yX3_takeNumber : Cond) ∈ AL := AL_mem (tm2 109 rfl) rfl
theorem w_2_111 : (.instanceMethod yX3_takeNumber : Cond) ∈ AL := AL_mem (tm2 111 rfl) rfl
theorem w_2_112 : (.code yX3_takeNumber cX3_takeNumber 3 (some .int) : Cond) ∈ AL := AL_mem (tm2 112 rfl) rfl
theorem w_2_113 : (.methodLink RX3 70 yX3_readSet : Cond) ∈ AL := AL_mem (tm2 113 rfl) rfl
theorem w_2_115 : (.instanceMethod yX3_readSet : Cond) ∈ AL := AL_mem (tm2 115 rfl) rfl
theorem w_2_116 : (.code yX3_readSet cX3_readSet 3 none : Cond) ∈ AL := AL_mem (tm2 116 rfl) rfl
theorem w_2_117 : (.methodLink RX3 73 yX3_readGrade : Cond) ∈ AL := AL_mem (tm2 117 rfl) rfl
theorem w_2_119 : (.instanceMethod yX3_readGrade : Cond) ∈ AL := AL_mem (tm2 119 rfl) rfl
theorem w_2_120 : (.code yX3_readGrade cX3_readGrade 5 none : Cond) ∈ AL := AL_mem (tm2 120 rfl) rfl
theorem w_2_123 : (.instanceMethod yX2_hasGrade : Cond) ∈ AL := AL_mem (tm2 123 rfl) rfl
theorem w_2_124 : (.code yX2_hasGrade cX2_hasGrade 4 (some .boolean) : Cond) ∈ AL := AL_mem (tm2 124 rfl) rfl
theorem w_2_127 : (.instanceMethod yX2_addGrade : Cond) ∈ AL := AL_mem (tm2 127 rfl) rfl
theorem w_2_128 : (.code yX2_addGrade cX2_addGrade 6 none : Cond) ∈ AL := AL_mem (tm2 128 rfl) rfl
theorem w_2_129 : (.methodLink RX3 79 yX3_findNameless : Cond) ∈ AL := AL_mem (tm2 129 rfl) rfl
theorem w_2_131 : (.instanceMethod yX3_findNameless : Cond) ∈ AL := AL_mem (tm2 131 rfl) rfl
theorem w_2_132 : (.code yX3_findNameless cX3_findNameless 2 none : Cond) ∈ AL := AL_mem (tm2 132 rfl) rfl
theorem w_2_133 : (.methodLink RX3 82 yX3_settle : Cond) ∈ AL := AL_mem (tm2 133 rfl) rfl
theorem w_2_135 : (.instanceMethod yX3_settle : Cond) ∈ AL := AL_mem (tm2 135 rfl) rfl
theorem w_2_136 : (.code yX3_settle cX3_settle 2 none : Cond) ∈ AL := AL_mem (tm2 136 rfl) rfl
theorem w_2_139 : (.instanceMethod yX2_addSetting : Cond) ∈ AL := AL_mem (tm2 139 rfl) rfl
theorem w_2_140 : (.code yX2_addSetting cX2_addSetting 5 none : Cond) ∈ AL := AL_mem (tm2 140 rfl) rfl
theorem w_2_141 : (.methodLink RX2 46 arraycopyName : Cond) ∈ AL := AL_mem (tm2 141 rfl) rfl
theorem w_2_142 : (.static arraycopyName : Cond) ∈ AL := AL_mem (tm2 142 rfl) rfl
theorem w_2_143 : (.native arraycopyName : Cond) ∈ AL := AL_mem (tm2 143 rfl) rfl
theorem w_2_144 : (.methodLink RX3 151 yX3_settled : Cond) ∈ AL := AL_mem (tm2 144 rfl) rfl
theorem w_2_146 : (.instanceMethod yX3_settled : Cond) ∈ AL := AL_mem (tm2 146 rfl) rfl
theorem w_2_147 : (.code yX3_settled cX3_settled 2 (some .int) : Cond) ∈ AL := AL_mem (tm2 147 rfl) rfl
theorem w_2_148 : (.methodLink RX3 157 yJ9_max_7cf53 : Cond) ∈ AL := AL_mem (tm2 148 rfl) rfl
theorem w_2_149 : (.static yJ9_max_7cf53 : Cond) ∈ AL := AL_mem (tm2 149 rfl) rfl
theorem w_2_150 : (.code yJ9_max_7cf53 cJ9_max_7cf53 2 (some .int) : Cond) ∈ AL := AL_mem (tm2 150 rfl) rfl
theorem w_2_151 : (.methodLink RL 28 yX6_fault : Cond) ∈ AL := AL_mem (tm2 151 rfl) rfl
theorem w_2_152 : (.instanceMethod yX6_fault : Cond) ∈ AL := AL_mem (tm2 152 rfl) rfl
theorem w_2_153 : (.selects RX6 yX6_fault yX6_fault : Cond) ∈ AL := AL_mem (tm2 153 rfl) rfl
theorem w_2_154 : (.code yX6_fault cX6_fault 2 (some .int) : Cond) ∈ AL := AL_mem (tm2 154 rfl) rfl
theorem w_2_155 : (.methodLink RL 32 yX6_unit : Cond) ∈ AL := AL_mem (tm2 155 rfl) rfl
theorem w_2_156 : (.instanceMethod yX6_unit : Cond) ∈ AL := AL_mem (tm2 156 rfl) rfl
theorem w_2_157 : (.selects RX6 yX6_unit yX6_unit : Cond) ∈ AL := AL_mem (tm2 157 rfl) rfl
theorem w_2_158 : (.code yX6_unit cX6_unit 3 (some .int) : Cond) ∈ AL := AL_mem (tm2 158 rfl) rfl
theorem w_2_159 : (.methodLink RX6 99 yX6_isUnit : Cond) ∈ AL := AL_mem (tm2 159 rfl) rfl
theorem w_2_161 : (.instanceMethod yX6_isUnit : Cond) ∈ AL := AL_mem (tm2 161 rfl) rfl
theorem w_2_162 : (.code yX6_isUnit cX6_isUnit 2 (some .boolean) : Cond) ∈ AL := AL_mem (tm2 162 rfl) rfl
theorem w_2_163 : (.methodLink RL 37 yX6_setting : Cond) ∈ AL := AL_mem (tm2 163 rfl) rfl
theorem w_2_164 : (.instanceMethod yX6_setting : Cond) ∈ AL := AL_mem (tm2 164 rfl) rfl
theorem w_2_165 : (.selects RX6 yX6_setting yX6_setting : Cond) ∈ AL := AL_mem (tm2 165 rfl) rfl
theorem w_2_166 : (.code yX6_setting cX6_setting 4 (some .int) : Cond) ∈ AL := AL_mem (tm2 166 rfl) rfl
theorem w_2_167 : (.methodLink RX6 112 yX6_isSetting : Cond) ∈ AL := AL_mem (tm2 167 rfl) rfl
theorem w_2_169 : (.instanceMethod yX6_isSetting : Cond) ∈ AL := AL_mem (tm2 169 rfl) rfl
theorem w_2_170 : (.code yX6_isSetting cX6_isSetting 3 (some .boolean) : Cond) ∈ AL := AL_mem (tm2 170 rfl) rfl
theorem w_2_171 : (.methodLink RX6 116 yX6_isKind : Cond) ∈ AL := AL_mem (tm2 171 rfl) rfl
theorem w_2_172 : (.static yX6_isKind : Cond) ∈ AL := AL_mem (tm2 172 rfl) rfl
theorem w_2_173 : (.code yX6_isKind cX6_isKind 1 (some .boolean) : Cond) ∈ AL := AL_mem (tm2 173 rfl) rfl
theorem w_2_176 : (.instanceMethod yX2_byYes : Cond) ∈ AL := AL_mem (tm2 176 rfl) rfl
theorem w_2_177 : (.code yX2_byYes cX2_byYes 4 (some .int) : Cond) ∈ AL := AL_mem (tm2 177 rfl) rfl
theorem w_2_178 : (.methodLink RL 42 yX6_choose : Cond) ∈ AL := AL_mem (tm2 178 rfl) rfl
theorem w_2_179 : (.instanceMethod yX6_choose : Cond) ∈ AL := AL_mem (tm2 179 rfl) rfl
theorem w_2_180 : (.selects RX6 yX6_choose yX6_choose : Cond) ∈ AL := AL_mem (tm2 180 rfl) rfl
theorem w_2_181 : (.code yX6_choose cX6_choose 3 (some .boolean) : Cond) ∈ AL := AL_mem (tm2 181 rfl) rfl
theorem w_2_182 : (.methodLink RL 47 yX6_whole : Cond) ∈ AL := AL_mem (tm2 182 rfl) rfl
theorem w_2_183 : (.instanceMethod yX6_whole : Cond) ∈ AL := AL_mem (tm2 183 rfl) rfl
theorem w_2_184 : (.selects RX6 yX6_whole yX6_whole : Cond) ∈ AL := AL_mem (tm2 184 rfl) rfl
theorem w_2_185 : (.code yX6_whole cX6_whole 2 (some .long) : Cond) ∈ AL := AL_mem (tm2 185 rfl) rfl
theorem w_2_186 : (.constantLong RX6 123 (-1) : Cond) ∈ AL := AL_mem (tm2 186 rfl) rfl
theorem w_2_189 : (.instanceMethod yX0_solve : Cond) ∈ AL := AL_mem (tm2 189 rfl) rfl
theorem w_2_190 : (.code yX0_solve cX0_solve 8 none : Cond) ∈ AL := AL_mem (tm2 190 rfl) rfl
theorem w_2_191 : (.methodLink RX0 25 yJ7_fill_d0a16 : Cond) ∈ AL := AL_mem (tm2 191 rfl) rfl
theorem w_2_192 : (.static yJ7_fill_d0a16 : Cond) ∈ AL := AL_mem (tm2 192 rfl) rfl
theorem w_2_193 : (.code yJ7_fill_d0a16 cJ7_fill_d0a16 5 none : Cond) ∈ AL := AL_mem (tm2 193 rfl) rfl
theorem w_2_194 : (.methodLink RX0 41 yX0_layRows : Cond) ∈ AL := AL_mem (tm2 194 rfl) rfl
theorem w_2_196 : (.instanceMethod yX0_layRows : Cond) ∈ AL := AL_mem (tm2 196 rfl) rfl
theorem w_2_197 : (.code yX0_layRows cX0_layRows 6 none : Cond) ∈ AL := AL_mem (tm2 197 rfl) rfl
theorem w_2_198 : (.methodLink RX0 53 yJ7_fill_53178 : Cond) ∈ AL := AL_mem (tm2 198 rfl) rfl
theorem w_2_200 : (.methodLink RX0 63 yX0_send : Cond) ∈ AL := AL_mem (tm2 200 rfl) rfl
theorem w_2_202 : (.instanceMethod yX0_send : Cond) ∈ AL := AL_mem (tm2 202 rfl) rfl
theorem w_2_203 : (.code yX0_send cX0_send 4 none : Cond) ∈ AL := AL_mem (tm2 203 rfl) rfl
theorem w_2_204 : (.methodLink RX0 45 yX0_findMinors : Cond) ∈ AL := AL_mem (tm2 204 rfl) rfl
theorem w_2_206 : (.instanceMethod yX0_findMinors : Cond) ∈ AL := AL_mem (tm2 206 rfl) rfl
theorem w_2_207 : (.code yX0_findMinors cX0_findMinors 4 none : Cond) ∈ AL := AL_mem (tm2 207 rfl) rfl
theorem w_2_208 : (.methodLink RX0 70 yJ6_bitCount_0f7a4 : Cond) ∈ AL := AL_mem (tm2 208 rfl) rfl
theorem w_2_209 : (.static yJ6_bitCount_0f7a4 : Cond) ∈ AL := AL_mem (tm2 209 rfl) rfl
theorem w_2_210 : (.code yJ6_bitCount_0f7a4 cJ6_bitCount_0f7a4 1 (some .int) : Cond) ∈ AL := AL_mem (tm2 210 rfl) rfl
theorem w_2_211 : (.constant RJ6 265 (1431655765) : Cond) ∈ AL := AL_mem (tm2 211 rfl) rfl
theorem w_2_212 : (.constant RJ6 266 (858993459) : Cond) ∈ AL := AL_mem (tm2 212 rfl) rfl
theorem w_2_213 : (.constant RJ6 267 (252645135) : Cond) ∈ AL := AL_mem (tm2 213 rfl) rfl
theorem w_2_214 : (.methodLink RX0 76 yX0_minorOf : Cond) ∈ AL := AL_mem (tm2 214 rfl) rfl
theorem w_2_216 : (.instanceMethod yX0_minorOf : Cond) ∈ AL := AL_mem (tm2 216 rfl) rfl
theorem w_2_217 : (.code yX0_minorOf cX0_minorOf 10 (some .long) : Cond) ∈ AL := AL_mem (tm2 217 rfl) rfl
theorem w_2_218 : (.methodLink RX0 49 yX0_cofactor : Cond) ∈ AL := AL_mem (tm2 218 rfl) rfl
theorem w_2_220 : (.instanceMethod yX0_cofactor : Cond) ∈ AL := AL_mem (tm2 220 rfl) rfl
theorem w_2_221 : (.code yX0_cofactor cX0_cofactor 5 (some .long) : Cond) ∈ AL := AL_mem (tm2 221 rfl) rfl
theorem w_2_222 : (.methodLink RL 52 yX6_part : Cond) ∈ AL := AL_mem (tm2 222 rfl) rfl
theorem w_2_223 : (.instanceMethod yX6_part : Cond) ∈ AL := AL_mem (tm2 223 rfl) rfl
theorem w_2_224 : (.selects RX6 yX6_part yX6_part : Cond) ∈ AL := AL_mem (tm2 224 rfl) rfl
theorem w_2_225 : (.code yX6_part cX6_part 3 (some .long) : Cond) ∈ AL := AL_mem (tm2 225 rfl) rfl
theorem w_2_226 : (.methodLink RX6 133 yX6_isOut : Cond) ∈ AL := AL_mem (tm2 226 rfl) rfl
theorem w_2_227 : (.static yX6_isOut : Cond) ∈ AL := AL_mem (tm2 227 rfl) rfl
theorem w_2_228 : (.code yX6_isOut cX6_isOut 1 (some .boolean) : Cond) ∈ AL := AL_mem (tm2 228 rfl) rfl
theorem w_2_229 : (.methodLink RL 57 yX6_inflow : Cond) ∈ AL := AL_mem (tm2 229 rfl) rfl
theorem w_2_230 : (.instanceMethod yX6_inflow : Cond) ∈ AL := AL_mem (tm2 230 rfl) rfl
theorem w_2_231 : (.selects RX6 yX6_inflow yX6_inflow : Cond) ∈ AL := AL_mem (tm2 231 rfl) rfl
theorem w_2_232 : (.code yX6_inflow cX6_inflow 3 (some .boolean) : Cond) ∈ AL := AL_mem (tm2 232 rfl) rfl
theorem w_2_233 : (.constant RX6 140 (1000000) : Cond) ∈ AL := AL_mem (tm2 233 rfl) rfl
theorem w_2_234 : (.methodLink RL 61 yX6_comes : Cond) ∈ AL := AL_mem (tm2 234 rfl) rfl
theorem w_2_235 : (.instanceMethod yX6_comes : Cond) ∈ AL := AL_mem (tm2 235 rfl) rfl
theorem w_2_236 : (.selects RX6 yX6_comes yX6_comes : Cond) ∈ AL := AL_mem (tm2 236 rfl) rfl
theorem w_2_237 : (.code yX6_comes cX6_comes 2 (some .int) : Cond) ∈ AL := AL_mem (tm2 237 rfl) rfl
theorem w_2_238 : (.methodLink RX6 141 yX6_comingOf : Cond) ∈ AL := AL_mem (tm2 238 rfl) rfl
theorem w_3_0 : (.instanceMethod yX6_comingOf : Cond) ∈ AL := AL_mem (tm3 0 rfl) rfl
theorem w_3_1 : (.code yX6_comingOf cX6_comingOf 2 (some .int) : Cond) ∈ AL := AL_mem (tm3 1 rfl) rfl
theorem w_3_4 : (.instanceMethod yX5_ofAll : Cond) ∈ AL := AL_mem (tm3 4 rfl) rfl
theorem w_3_5 : (.code yX5_ofAll cX5_ofAll 5 (some .long) : Cond) ∈ AL := AL_mem (tm3 5 rfl) rfl
theorem w_3_6 : (.constantLong RX6 222 (1000000) : Cond) ∈ AL := AL_mem (tm3 6 rfl) rfl
theorem w_3_7 : (.methodLink RX6 224 yJ9_min_f86c9 : Cond) ∈ AL := AL_mem (tm3 7 rfl) rfl
theorem w_3_8 : (.static yJ9_min_f86c9 : Cond) ∈ AL := AL_mem (tm3 8 rfl) rfl
theorem w_3_9 : (.code yJ9_min_f86c9 cJ9_min_f86c9 4 (some .long) : Cond) ∈ AL := AL_mem (tm3 9 rfl) rfl
theorem w_3_10 : (.methodLink RL 65 yX6_grams : Cond) ∈ AL := AL_mem (tm3 10 rfl) rfl
theorem w_3_11 : (.instanceMethod yX6_grams : Cond) ∈ AL := AL_mem (tm3 11 rfl) rfl
theorem w_3_12 : (.selects RX6 yX6_grams yX6_grams : Cond) ∈ AL := AL_mem (tm3 12 rfl) rfl
theorem w_3_13 : (.code yX6_grams cX6_grams 3 (some .int) : Cond) ∈ AL := AL_mem (tm3 13 rfl) rfl
theorem w_3_14 : (.methodLink RX6 145 yX6_sortByChoice : Cond) ∈ AL := AL_mem (tm3 14 rfl) rfl
theorem w_3_16 : (.instanceMethod yX6_sortByChoice : Cond) ∈ AL := AL_mem (tm3 16 rfl) rfl
theorem w_3_17 : (.code yX6_sortByChoice cX6_sortByChoice 1 none : Cond) ∈ AL := AL_mem (tm3 17 rfl) rfl
theorem w_3_18 : (.methodLink RX6 164 yX6_gatherInflow : Cond) ∈ AL := AL_mem (tm3 18 rfl) rfl
theorem w_3_20 : (.instanceMethod yX6_gatherInflow : Cond) ∈ AL := AL_mem (tm3 20 rfl) rfl
theorem w_3_21 : (.code yX6_gatherInflow cX6_gatherInflow 2 none : Cond) ∈ AL := AL_mem (tm3 21 rfl) rfl
theorem w_3_24 : (.instanceMethod yX1_sort : Cond) ∈ AL := AL_mem (tm3 24 rfl) rfl
theorem w_3_25 : (.code yX1_sort cX1_sort 6 none : Cond) ∈ AL := AL_mem (tm3 25 rfl) rfl
theorem w_3_26 : (.methodLink RX1 18 yJ7_fill_53178 : Cond) ∈ AL := AL_mem (tm3 26 rfl) rfl
theorem w_3_28 : (.methodLink RX1 30 yX1_split : Cond) ∈ AL := AL_mem (tm3 28 rfl) rfl
theorem w_3_30 : (.instanceMethod yX1_split : Cond) ∈ AL := AL_mem (tm3 30 rfl) rfl
theorem w_3_31 : (.code yX1_split cX1_split 7 none : Cond) ∈ AL := AL_mem (tm3 31 rfl) rfl
theorem w_3_32 : (.methodLink RX1 42 yX1_put : Cond) ∈ AL := AL_mem (tm3 32 rfl) rfl
theorem w_3_34 : (.instanceMethod yX1_put : Cond) ∈ AL := AL_mem (tm3 34 rfl) rfl
theorem w_3_35 : (.code yX1_put cX1_put 4 none : Cond) ∈ AL := AL_mem (tm3 35 rfl) rfl
theorem w_3_36 : (.methodLink RL 69 yX6_purity : Cond) ∈ AL := AL_mem (tm3 36 rfl) rfl
theorem w_3_37 : (.instanceMethod yX6_purity : Cond) ∈ AL := AL_mem (tm3 37 rfl) rfl
theorem w_3_38 : (.selects RX6 yX6_purity yX6_purity : Cond) ∈ AL := AL_mem (tm3 38 rfl) rfl
theorem w_3_39 : (.code yX6_purity cX6_purity 2 (some .int) : Cond) ∈ AL := AL_mem (tm3 39 rfl) rfl
theorem w_3_40 : (.methodLink RX6 151 yX6_isBale : Cond) ∈ AL := AL_mem (tm3 40 rfl) rfl
theorem w_3_41 : (.static yX6_isBale : Cond) ∈ AL := AL_mem (tm3 41 rfl) rfl
theorem w_3_42 : (.code yX6_isBale cX6_isBale 1 (some .boolean) : Cond) ∈ AL := AL_mem (tm3 42 rfl) rfl
theorem w_3_45 : (.instanceMethod yX1_purityOf : Cond) ∈ AL := AL_mem (tm3 45 rfl) rfl
theorem w_3_46 : (.code yX1_purityOf cX1_purityOf 5 (some .int) : Cond) ∈ AL := AL_mem (tm3 46 rfl) rfl
theorem w_3_47 : (.constantLong RX1 54 (100) : Cond) ∈ AL := AL_mem (tm3 47 rfl) rfl
theorem w_3_48 : (.methodLink RL 73 yX6_earns : Cond) ∈ AL := AL_mem (tm3 48 rfl) rfl
theorem w_3_49 : (.instanceMethod yX6_earns : Cond) ∈ AL := AL_mem (tm3 49 rfl) rfl
theorem w_3_50 : (.selects RX6 yX6_earns yX6_earns : Cond) ∈ AL := AL_mem (tm3 50 rfl) rfl
theorem w_3_51 : (.code yX6_earns cX6_earns 2 (some .int) : Cond) ∈ AL := AL_mem (tm3 51 rfl) rfl
theorem w_3_54 : (.instanceMethod yX1_earningsOf : Cond) ∈ AL := AL_mem (tm3 54 rfl) rfl
theorem w_3_55 : (.code yX1_earningsOf cX1_earningsOf 9 (some .int) : Cond) ∈ AL := AL_mem (tm3 55 rfl) rfl
theorem w_3_56 : (.methodLink RX1 56 yX1_purityOf : Cond) ∈ AL := AL_mem (tm3 56 rfl) rfl
theorem w_3_57 : (.constantLong RX1 66 (1000) : Cond) ∈ AL := AL_mem (tm3 57 rfl) rfl
theorem w_3_58 : (.methodLink RL 77 yX6_cost : Cond) ∈ AL := AL_mem (tm3 58 rfl) rfl
theorem w_3_59 : (.instanceMethod yX6_cost : Cond) ∈ AL := AL_mem (tm3 59 rfl) rfl
theorem w_3_60 : (.selects RX6 yX6_cost yX6_cost : Cond) ∈ AL := AL_mem (tm3 60 rfl) rfl
theorem w_3_61 : (.code yX6_cost cX6_cost 2 (some .boolean) : Cond) ∈ AL := AL_mem (tm3 61 rfl) rfl
theorem w_3_62 : (.methodLink RL 82 yX6_worth : Cond) ∈ AL := AL_mem (tm3 62 rfl) rfl
theorem w_3_63 : (.instanceMethod yX6_worth : Cond) ∈ AL := AL_mem (tm3 63 rfl) rfl
theorem w_3_64 : (.selects RX6 yX6_worth yX6_worth : Cond) ∈ AL := AL_mem (tm3 64 rfl) rfl
theorem w_3_65 : (.code yX6_worth cX6_worth 1 (some .int) : Cond) ∈ AL := AL_mem (tm3 65 rfl) rfl
theorem w_3_68 : (.instanceMethod yX1_worthOf : Cond) ∈ AL := AL_mem (tm3 68 rfl) rfl
theorem w_3_69 : (.code yX1_worthOf cX1_worthOf 5 (some .int) : Cond) ∈ AL := AL_mem (tm3 69 rfl) rfl
theorem w_3_70 : (.methodLink RX1 68 yX1_earningsOf : Cond) ∈ AL := AL_mem (tm3 70 rfl) rfl
theorem w_3_71 : (.methodLink RL 86 yX6_best : Cond) ∈ AL := AL_mem (tm3 71 rfl) rfl
theorem w_3_72 : (.instanceMethod yX6_best : Cond) ∈ AL := AL_mem (tm3 72 rfl) rfl
theorem w_3_73 : (.selects RX6 yX6_best yX6_best : Cond) ∈ AL := AL_mem (tm3 73 rfl) rfl
theorem w_3_74 : (.code yX6_best cX6_best 5 (some .int) : Cond) ∈ AL := AL_mem (tm3 74 rfl) rfl
theorem w_3_75 : (.methodLink RX6 171 arraycopyName : Cond) ∈ AL := AL_mem (tm3 75 rfl) rfl
theorem w_3_76 : (.methodLink RX6 177 yX6_turnTried : Cond) ∈ AL := AL_mem (tm3 76 rfl) rfl
theorem w_3_78 : (.instanceMethod yX6_turnTried : Cond) ∈ AL := AL_mem (tm3 78 rfl) rfl
theorem w_3_79 : (.code yX6_turnTried cX6_turnTried 2 (some .boolean) : Cond) ∈ AL := AL_mem (tm3 79 rfl) rfl
theorem w_3_80 : (.methodLink RL 90 yX6_chance : Cond) ∈ AL := AL_mem (tm3 80 rfl) rfl
theorem w_3_81 : (.instanceMethod yX6_chance : Cond) ∈ AL := AL_mem (tm3 81 rfl) rfl
theorem w_3_82 : (.selects RX6 yX6_chance yX6_chance : Cond) ∈ AL := AL_mem (tm3 82 rfl) rfl
theorem w_3_83 : (.code yX6_chance cX6_chance 12 (some .int) : Cond) ∈ AL := AL_mem (tm3 83 rfl) rfl
theorem w_3_84 : (.methodLink RX6 181 yX6_waysToDraw : Cond) ∈ AL := AL_mem (tm3 84 rfl) rfl
theorem w_3_85 : (.static yX6_waysToDraw : Cond) ∈ AL := AL_mem (tm3 85 rfl) rfl
theorem w_3_86 : (.code yX6_waysToDraw cX6_waysToDraw 5 (some .long) : Cond) ∈ AL := AL_mem (tm3 86 rfl) rfl
theorem w_3_87 : (.methodLink RX6 185 yX6_greatestDivisor : Cond) ∈ AL := AL_mem (tm3 87 rfl) rfl
theorem w_3_88 : (.static yX6_greatestDivisor : Cond) ∈ AL := AL_mem (tm3 88 rfl) rfl
theorem w_3_89 : (.code yX6_greatestDivisor cX6_greatestDivisor 11 (some .long) : Cond) ∈ AL := AL_mem (tm3 89 rfl) rfl
theorem w_3_90 : (.methodLink RL 94 yX6_lorry : Cond) ∈ AL := AL_mem (tm3 90 rfl) rfl
theorem w_3_91 : (.instanceMethod yX6_lorry : Cond) ∈ AL := AL_mem (tm3 91 rfl) rfl
theorem w_3_92 : (.selects RX6 yX6_lorry yX6_lorry : Cond) ∈ AL := AL_mem (tm3 92 rfl) rfl
theorem w_3_93 : (.code yX6_lorry cX6_lorry 9 (some .int) : Cond) ∈ AL := AL_mem (tm3 93 rfl) rfl
theorem w_3_94 : (.methodLink RX6 189 yX6_isTown : Cond) ∈ AL := AL_mem (tm3 94 rfl) rfl
theorem w_3_95 : (.static yX6_isTown : Cond) ∈ AL := AL_mem (tm3 95 rfl) rfl
theorem w_3_96 : (.code yX6_isTown cX6_isTown 1 (some .boolean) : Cond) ∈ AL := AL_mem (tm3 96 rfl) rfl
theorem w_3_97 : (.methodLink RX6 192 yX6_isSampled : Cond) ∈ AL := AL_mem (tm3 97 rfl) rfl
theorem w_3_98 : (.static yX6_isSampled : Cond) ∈ AL := AL_mem (tm3 98 rfl) rfl
theorem w_3_99 : (.code yX6_isSampled cX6_isSampled 1 (some .boolean) : Cond) ∈ AL := AL_mem (tm3 99 rfl) rfl
theorem w_3_102 : (.instanceMethod yX5_bring : Cond) ∈ AL := AL_mem (tm3 102 rfl) rfl
theorem w_3_103 : (.code yX5_bring cX5_bring 8 (some .int) : Cond) ∈ AL := AL_mem (tm3 103 rfl) rfl
theorem w_3_104 : (.constantLong RX5 32 (1000) : Cond) ∈ AL := AL_mem (tm3 104 rfl) rfl
theorem w_3_105 : (.methodLink RL 99 yX6_strike : Cond) ∈ AL := AL_mem (tm3 105 rfl) rfl
theorem w_3_106 : (.instanceMethod yX6_strike : Cond) ∈ AL := AL_mem (tm3 106 rfl) rfl
theorem w_3_107 : (.selects RX6 yX6_strike yX6_strike : Cond) ∈ AL := AL_mem (tm3 107 rfl) rfl
theorem w_3_108 : (.code yX6_strike cX6_strike 2 (some .boolean) : Cond) ∈ AL := AL_mem (tm3 108 rfl) rfl
theorem w_3_111 : (.instanceMethod yX5_strikeOff : Cond) ∈ AL := AL_mem (tm3 111 rfl) rfl
theorem w_3_112 : (.code yX5_strikeOff cX5_strikeOff 3 (some .boolean) : Cond) ∈ AL := AL_mem (tm3 112 rfl) rfl
theorem w_3_113 : (.methodLink RL 103 yX6_brought : Cond) ∈ AL := AL_mem (tm3 113 rfl) rfl
theorem w_3_114 : (.instanceMethod yX6_brought : Cond) ∈ AL := AL_mem (tm3 114 rfl) rfl
theorem w_3_115 : (.selects RX6 yX6_brought yX6_brought : Cond) ∈ AL := AL_mem (tm3 115 rfl) rfl
theorem w_3_116 : (.code yX6_brought cX6_brought 3 (some .int) : Cond) ∈ AL := AL_mem (tm3 116 rfl) rfl
theorem w_3_117 : (.methodLink RL 107 yX6_share : Cond) ∈ AL := AL_mem (tm3 117 rfl) rfl
theorem w_3_118 : (.instanceMethod yX6_share : Cond) ∈ AL := AL_mem (tm3 118 rfl) rfl
theorem w_3_119 : (.selects RX6 yX6_share yX6_share : Cond) ∈ AL := AL_mem (tm3 119 rfl) rfl
theorem w_3_120 : (.code yX6_share cX6_share 4 (some .int) : Cond) ∈ AL := AL_mem (tm3 120 rfl) rfl
theorem w_3_121 : (.constant RX6 208 (10000000) : Cond) ∈ AL := AL_mem (tm3 121 rfl) rfl
theorem w_3_124 : (.instanceMethod yX5_shareOf : Cond) ∈ AL := AL_mem (tm3 124 rfl) rfl
theorem w_3_125 : (.code yX5_shareOf cX5_shareOf 14 (some .int) : Cond) ∈ AL := AL_mem (tm3 125 rfl) rfl
theorem w_3_126 : (.methodLink RX5 34 yX5_ofAll : Cond) ∈ AL := AL_mem (tm3 126 rfl) rfl
theorem w_3_127 : (.methodLink RL 111 yX6_about : Cond) ∈ AL := AL_mem (tm3 127 rfl) rfl
theorem w_3_128 : (.instanceMethod yX6_about : Cond) ∈ AL := AL_mem (tm3 128 rfl) rfl
theorem w_3_129 : (.selects RX6 yX6_about yX6_about : Cond) ∈ AL := AL_mem (tm3 129 rfl) rfl
theorem w_3_130 : (.code yX6_about cX6_about 2 (some .int) : Cond) ∈ AL := AL_mem (tm3 130 rfl) rfl
theorem w_3_131 : (.methodLink RL 27 yX7_plan : Cond) ∈ AL := AL_mem (tm3 131 rfl) rfl
theorem w_3_132 : (.instanceMethod yX7_plan : Cond) ∈ AL := AL_mem (tm3 132 rfl) rfl
theorem w_3_133 : (.selects RX7 yX7_plan yX7_plan : Cond) ∈ AL := AL_mem (tm3 133 rfl) rfl
theorem w_3_134 : (.code yX7_plan cX7_plan 2 (some .int) : Cond) ∈ AL := AL_mem (tm3 134 rfl) rfl
theorem w_3_135 : (.methodLink RX7 70 yX7_next : Cond) ∈ AL := AL_mem (tm3 135 rfl) rfl
theorem w_3_137 : (.instanceMethod yX7_next : Cond) ∈ AL := AL_mem (tm3 137 rfl) rfl
theorem w_3_138 : (.instantiable RX7 45 : Cond) ∈ AL := AL_mem (tm3 138 rfl) rfl
theorem w_3_139 : (.code yX7_next cX7_next 3 none : Cond) ∈ AL := AL_mem (tm3 139 rfl) rfl
theorem w_3_140 : (.methodLink RX7 37 yX7_sign : Cond) ∈ AL := AL_mem (tm3 140 rfl) rfl
theorem w_3_142 : (.instanceMethod yX7_sign : Cond) ∈ AL := AL_mem (tm3 142 rfl) rfl
theorem w_3_143 : (.code yX7_sign cX7_sign 2 (some .int) : Cond) ∈ AL := AL_mem (tm3 143 rfl) rfl
theorem w_3_144 : (.methodLink RX7 44 yX7_isLetter : Cond) ∈ AL := AL_mem (tm3 144 rfl) rfl
theorem w_3_145 : (.static yX7_isLetter : Cond) ∈ AL := AL_mem (tm3 145 rfl) rfl
theorem w_3_146 : (.code yX7_isLetter cX7_isLetter 1 (some .boolean) : Cond) ∈ AL := AL_mem (tm3 146 rfl) rfl
theorem w_3_147 : (.methodLink RX7 52 yX7_isKept : Cond) ∈ AL := AL_mem (tm3 147 rfl) rfl
theorem w_3_148 : (.static yX7_isKept : Cond) ∈ AL := AL_mem (tm3 148 rfl) rfl
theorem w_3_149 : (.code yX7_isKept cX7_isKept 2 (some .boolean) : Cond) ∈ AL := AL_mem (tm3 149 rfl) rfl
theorem w_3_150 : (.constantLong RX7 17 (1970170228) : Cond) ∈ AL := AL_mem (tm3 150 rfl) rfl
theorem w_3_151 : (.constantLong RX7 19 (7955827) : Cond) ∈ AL := AL_mem (tm3 151 rfl) rfl
theorem w_3_152 : (.constantLong RX7 21 (28271) : Cond) ∈ AL := AL_mem (tm3 152 rfl) rfl
theorem w_3_153 : (.constantLong RX7 23 (7562612) : Cond) ∈ AL := AL_mem (tm3 153 rfl) rfl
theorem w_3_154 : (.constantLong RX7 25 (444300616805) : Cond) ∈ AL := AL_mem (tm3 154 rfl) rfl
theorem w_3_155 : (.constantLong RX7 27 (1650551909) : Cond) ∈ AL := AL_mem (tm3 155 rfl) rfl
theorem w_3_156 : (.constantLong RX7 29 (125779836236645) : Cond) ∈ AL := AL_mem (tm3 156 rfl) rfl
theorem w_3_157 : (.methodLink RX7 56 yX7_isDigit : Cond) ∈ AL := AL_mem (tm3 157 rfl) rfl
theorem w_3_158 : (.static yX7_isDigit : Cond) ∈ AL := AL_mem (tm3 158 rfl) rfl
theorem w_3_159 : (.code yX7_isDigit cX7_isDigit 1 (some .boolean) : Cond) ∈ AL := AL_mem (tm3 159 rfl) rfl
theorem w_3_160 : (.methodLink RX7 66 yX7_isGood : Cond) ∈ AL := AL_mem (tm3 160 rfl) rfl
theorem w_3_162 : (.instanceMethod yX7_isGood : Cond) ∈ AL := AL_mem (tm3 162 rfl) rfl
theorem w_3_163 : (.code yX7_isGood cX7_isGood 1 (some .boolean) : Cond) ∈ AL := AL_mem (tm3 163 rfl) rfl
theorem w_3_164 : (.methodLink RX7 99 yX7_readLine : Cond) ∈ AL := AL_mem (tm3 164 rfl) rfl
theorem w_3_166 : (.instanceMethod yX7_readLine : Cond) ∈ AL := AL_mem (tm3 166 rfl) rfl
theorem w_3_167 : (.code yX7_readLine cX7_readLine 3 none : Cond) ∈ AL := AL_mem (tm3 167 rfl) rfl
theorem w_3_168 : (.methodLink RX7 108 yX7_isWord : Cond) ∈ AL := AL_mem (tm3 168 rfl) rfl
theorem w_3_170 : (.instanceMethod yX7_isWord : Cond) ∈ AL := AL_mem (tm3 170 rfl) rfl
theorem w_3_171 : (.code yX7_isWord cX7_isWord 3 (some .boolean) : Cond) ∈ AL := AL_mem (tm3 171 rfl) rfl
theorem w_3_172 : (.methodLink RX7 74 yX7_wrong : Cond) ∈ AL := AL_mem (tm3 172 rfl) rfl
theorem w_3_174 : (.instanceMethod yX7_wrong : Cond) ∈ AL := AL_mem (tm3 174 rfl) rfl
theorem w_3_175 : (.code yX7_wrong cX7_wrong 1 none : Cond) ∈ AL := AL_mem (tm3 175 rfl) rfl
theorem w_3_176 : (.methodLink RX7 62 yX7_fails : Cond) ∈ AL := AL_mem (tm3 176 rfl) rfl
theorem w_3_178 : (.instanceMethod yX7_fails : Cond) ∈ AL := AL_mem (tm3 178 rfl) rfl
theorem w_3_179 : (.code yX7_fails cX7_fails 3 none : Cond) ∈ AL := AL_mem (tm3 179 rfl) rfl
theorem w_3_180 : (.methodLink RX7 111 yX7_readUnit : Cond) ∈ AL := AL_mem (tm3 180 rfl) rfl
theorem w_3_182 : (.instanceMethod yX7_readUnit : Cond) ∈ AL := AL_mem (tm3 182 rfl) rfl
theorem w_3_183 : (.code yX7_readUnit cX7_readUnit 2 none : Cond) ∈ AL := AL_mem (tm3 183 rfl) rfl
theorem w_3_184 : (.methodLink RX7 128 yX7_unitOf : Cond) ∈ AL := AL_mem (tm3 184 rfl) rfl
theorem w_3_186 : (.instanceMethod yX7_unitOf : Cond) ∈ AL := AL_mem (tm3 186 rfl) rfl
theorem w_3_187 : (.code yX7_unitOf cX7_unitOf 5 (some .int) : Cond) ∈ AL := AL_mem (tm3 187 rfl) rfl
theorem w_3_188 : (.methodLink RX7 120 yX7_must : Cond) ∈ AL := AL_mem (tm3 188 rfl) rfl
theorem w_3_190 : (.instanceMethod yX7_must : Cond) ∈ AL := AL_mem (tm3 190 rfl) rfl
theorem w_3_191 : (.code yX7_must cX7_must 2 none : Cond) ∈ AL := AL_mem (tm3 191 rfl) rfl
theorem w_3_192 : (.methodLink RX7 135 yX7_out : Cond) ∈ AL := AL_mem (tm3 192 rfl) rfl
theorem w_3_194 : (.instanceMethod yX7_out : Cond) ∈ AL := AL_mem (tm3 194 rfl) rfl
theorem w_3_195 : (.code yX7_out cX7_out 2 (some .int) : Cond) ∈ AL := AL_mem (tm3 195 rfl) rfl
theorem w_3_196 : (.methodLink RX7 147 yX7_numeral : Cond) ∈ AL := AL_mem (tm3 196 rfl) rfl
theorem w_3_198 : (.instanceMethod yX7_numeral : Cond) ∈ AL := AL_mem (tm3 198 rfl) rfl
theorem w_3_199 : (.code yX7_numeral cX7_numeral 3 (some .int) : Cond) ∈ AL := AL_mem (tm3 199 rfl) rfl
theorem w_3_200 : (.methodLink RX7 114 yX7_readSet : Cond) ∈ AL := AL_mem (tm3 200 rfl) rfl
theorem w_3_202 : (.instanceMethod yX7_readSet : Cond) ∈ AL := AL_mem (tm3 202 rfl) rfl
theorem w_3_203 : (.code yX7_readSet cX7_readSet 3 none : Cond) ∈ AL := AL_mem (tm3 203 rfl) rfl
theorem w_3_204 : (.methodLink RX7 117 yX7_readGrade : Cond) ∈ AL := AL_mem (tm3 204 rfl) rfl
theorem w_3_206 : (.instanceMethod yX7_readGrade : Cond) ∈ AL := AL_mem (tm3 206 rfl) rfl
theorem w_3_207 : (.code yX7_readGrade cX7_readGrade 7 none : Cond) ∈ AL := AL_mem (tm3 207 rfl) rfl
theorem w_3_208 : (.methodLink RX7 102 yX7_join : Cond) ∈ AL := AL_mem (tm3 208 rfl) rfl
theorem w_3_210 : (.instanceMethod yX7_join : Cond) ∈ AL := AL_mem (tm3 210 rfl) rfl
theorem w_3_211 : (.code yX7_join cX7_join 4 none : Cond) ∈ AL := AL_mem (tm3 211 rfl) rfl
theorem w_3_212 : (.methodLink RX7 171 yX7_named : Cond) ∈ AL := AL_mem (tm3 212 rfl) rfl
theorem w_3_214 : (.instanceMethod yX7_named : Cond) ∈ AL := AL_mem (tm3 214 rfl) rfl
theorem w_3_215 : (.code yX7_named cX7_named 5 (some .int) : Cond) ∈ AL := AL_mem (tm3 215 rfl) rfl
theorem w_3_216 : (.methodLink RL 31 yX7_fault : Cond) ∈ AL := AL_mem (tm3 216 rfl) rfl
theorem w_3_217 : (.instanceMethod yX7_fault : Cond) ∈ AL := AL_mem (tm3 217 rfl) rfl
theorem w_3_218 : (.selects RX7 yX7_fault yX7_fault : Cond) ∈ AL := AL_mem (tm3 218 rfl) rfl
theorem w_3_219 : (.code yX7_fault cX7_fault 2 (some .int) : Cond) ∈ AL := AL_mem (tm3 219 rfl) rfl
theorem w_3_220 : (.methodLink RL 36 yX7_unit : Cond) ∈ AL := AL_mem (tm3 220 rfl) rfl
theorem w_3_221 : (.instanceMethod yX7_unit : Cond) ∈ AL := AL_mem (tm3 221 rfl) rfl
theorem w_3_222 : (.selects RX7 yX7_unit yX7_unit : Cond) ∈ AL := AL_mem (tm3 222 rfl) rfl
theorem w_3_223 : (.code yX7_unit cX7_unit 3 (some .int) : Cond) ∈ AL := AL_mem (tm3 223 rfl) rfl
theorem w_3_224 : (.methodLink RX7 181 yX7_isUnit : Cond) ∈ AL := AL_mem (tm3 224 rfl) rfl
theorem w_3_226 : (.instanceMethod yX7_isUnit : Cond) ∈ AL := AL_mem (tm3 226 rfl) rfl
theorem w_3_227 : (.code yX7_isUnit cX7_isUnit 2 (some .boolean) : Cond) ∈ AL := AL_mem (tm3 227 rfl) rfl
theorem w_3_228 : (.methodLink RX7 184 yX7_settings : Cond) ∈ AL := AL_mem (tm3 228 rfl) rfl
theorem w_3_230 : (.instanceMethod yX7_settings : Cond) ∈ AL := AL_mem (tm3 230 rfl) rfl
theorem w_3_231 : (.code yX7_settings cX7_settings 2 (some .int) : Cond) ∈ AL := AL_mem (tm3 231 rfl) rfl
theorem w_3_232 : (.methodLink RL 41 yX7_setting : Cond) ∈ AL := AL_mem (tm3 232 rfl) rfl
theorem w_3_233 : (.instanceMethod yX7_setting : Cond) ∈ AL := AL_mem (tm3 233 rfl) rfl
theorem w_3_234 : (.selects RX7 yX7_setting yX7_setting : Cond) ∈ AL := AL_mem (tm3 234 rfl) rfl
theorem w_3_235 : (.code yX7_setting cX7_setting 4 (some .int) : Cond) ∈ AL := AL_mem (tm3 235 rfl) rfl
theorem w_3_236 : (.methodLink RX7 187 yX7_isKind : Cond) ∈ AL := AL_mem (tm3 236 rfl) rfl
theorem w_3_237 : (.static yX7_isKind : Cond) ∈ AL := AL_mem (tm3 237 rfl) rfl
theorem w_3_238 : (.code yX7_isKind cX7_isKind 1 (some .boolean) : Cond) ∈ AL := AL_mem (tm3 238 rfl) rfl
theorem w_3_239 : (.methodLink RX7 190 yX7_goes : Cond) ∈ AL := AL_mem (tm3 239 rfl) rfl
theorem w_4_1 : (.instanceMethod yX7_goes : Cond) ∈ AL := AL_mem (tm4 1 rfl) rfl
theorem w_4_2 : (.code yX7_goes cX7_goes 4 (some .int) : Cond) ∈ AL := AL_mem (tm4 2 rfl) rfl
theorem w_4_3 : (.methodLink RL 46 yX7_choose : Cond) ∈ AL := AL_mem (tm4 3 rfl) rfl
theorem w_4_4 : (.instanceMethod yX7_choose : Cond) ∈ AL := AL_mem (tm4 4 rfl) rfl
theorem w_4_5 : (.selects RX7 yX7_choose yX7_choose : Cond) ∈ AL := AL_mem (tm4 5 rfl) rfl
theorem w_4_6 : (.code yX7_choose cX7_choose 3 (some .boolean) : Cond) ∈ AL := AL_mem (tm4 6 rfl) rfl
theorem w_4_7 : (.methodLink RL 51 yX7_whole : Cond) ∈ AL := AL_mem (tm4 7 rfl) rfl
theorem w_4_8 : (.instanceMethod yX7_whole : Cond) ∈ AL := AL_mem (tm4 8 rfl) rfl
theorem w_4_9 : (.selects RX7 yX7_whole yX7_whole : Cond) ∈ AL := AL_mem (tm4 9 rfl) rfl
theorem w_4_10 : (.code yX7_whole cX7_whole 2 (some .long) : Cond) ∈ AL := AL_mem (tm4 10 rfl) rfl
theorem w_4_11 : (.constantLong RX7 212 (-1) : Cond) ∈ AL := AL_mem (tm4 11 rfl) rfl
theorem w_4_12 : (.methodLink RX7 214 yX7_solve : Cond) ∈ AL := AL_mem (tm4 12 rfl) rfl
theorem w_4_14 : (.instanceMethod yX7_solve : Cond) ∈ AL := AL_mem (tm4 14 rfl) rfl
theorem w_4_15 : (.code yX7_solve cX7_solve 13 none : Cond) ∈ AL := AL_mem (tm4 15 rfl) rfl
theorem w_4_16 : (.constantLong RX7 203 (100) : Cond) ∈ AL := AL_mem (tm4 16 rfl) rfl
theorem w_4_17 : (.methodLink RX7 205 yX7_lead : Cond) ∈ AL := AL_mem (tm4 17 rfl) rfl
theorem w_4_19 : (.instanceMethod yX7_lead : Cond) ∈ AL := AL_mem (tm4 19 rfl) rfl
theorem w_4_20 : (.code yX7_lead cX7_lead 4 none : Cond) ∈ AL := AL_mem (tm4 20 rfl) rfl
theorem w_4_21 : (.methodLink RX7 209 yX7_change : Cond) ∈ AL := AL_mem (tm4 21 rfl) rfl
theorem w_4_23 : (.instanceMethod yX7_change : Cond) ∈ AL := AL_mem (tm4 23 rfl) rfl
theorem w_4_24 : (.code yX7_change cX7_change 6 none : Cond) ∈ AL := AL_mem (tm4 24 rfl) rfl
theorem w_4_25 : (.methodLink RL 56 yX7_part : Cond) ∈ AL := AL_mem (tm4 25 rfl) rfl
theorem w_4_26 : (.instanceMethod yX7_part : Cond) ∈ AL := AL_mem (tm4 26 rfl) rfl
theorem w_4_27 : (.selects RX7 yX7_part yX7_part : Cond) ∈ AL := AL_mem (tm4 27 rfl) rfl
theorem w_4_28 : (.code yX7_part cX7_part 3 (some .long) : Cond) ∈ AL := AL_mem (tm4 28 rfl) rfl
theorem w_4_29 : (.classLink RL 10 RX7 : Cond) ∈ AL := AL_mem (tm4 29 rfl) rfl
theorem w_4_30 : (.methodLink RL 12 yX7_init : Cond) ∈ AL := AL_mem (tm4 30 rfl) rfl
theorem w_4_31 : (.instanceMethod yX7_init : Cond) ∈ AL := AL_mem (tm4 31 rfl) rfl
theorem w_4_32 : (.code yX7_init cX7_init 2 none : Cond) ∈ AL := AL_mem (tm4 32 rfl) rfl
theorem w_4_33 : (.methodLink RX7 218 objectInit : Cond) ∈ AL := AL_mem (tm4 33 rfl) rfl
theorem w_4_34 : (.fieldLink RX7 80 "SortWorksModel" "tape" "[B" : Cond) ∈ AL := AL_mem (tm4 34 rfl) rfl
theorem w_4_35 : (.fieldLink RX7 7 "SortWorksModel" "text" "[B" : Cond) ∈ AL := AL_mem (tm4 35 rfl) rfl
theorem w_4_36 : (.fieldLink RX7 77 "SortWorksModel" "taped" "I" : Cond) ∈ AL := AL_mem (tm4 36 rfl) rfl
theorem w_4_37 : (.fieldLink RX7 1 "SortWorksModel" "size" "I" : Cond) ∈ AL := AL_mem (tm4 37 rfl) rfl
theorem w_4_38 : (.fieldLink RX7 11 "SortWorksModel" "faultKind" "I" : Cond) ∈ AL := AL_mem (tm4 38 rfl) rfl
theorem w_4_39 : (.fieldLink RX7 14 "SortWorksModel" "faultPlace" "I" : Cond) ∈ AL := AL_mem (tm4 39 rfl) rfl
theorem w_4_40 : (.fieldLink RX7 34 "SortWorksModel" "at" "I" : Cond) ∈ AL := AL_mem (tm4 40 rfl) rfl
theorem w_4_41 : (.fieldLink RX7 31 "SortWorksModel" "end" "I" : Cond) ∈ AL := AL_mem (tm4 41 rfl) rfl
theorem w_4_42 : (.fieldLink RX7 41 "SortWorksModel" "token" "I" : Cond) ∈ AL := AL_mem (tm4 42 rfl) rfl
theorem w_4_43 : (.fieldLink RX7 59 "SortWorksModel" "number" "I" : Cond) ∈ AL := AL_mem (tm4 43 rfl) rfl
theorem w_4_44 : (.fieldLink RX7 48 "SortWorksModel" "name" "J" : Cond) ∈ AL := AL_mem (tm4 44 rfl) rfl
theorem w_4_45 : (.fieldLink RX7 124 "SortWorksModel" "uName" "[J" : Cond) ∈ AL := AL_mem (tm4 45 rfl) rfl
theorem w_4_46 : (.fieldLink RX7 141 "SortWorksModel" "outName" "[J" : Cond) ∈ AL := AL_mem (tm4 46 rfl) rfl
theorem w_4_47 : (.fieldLink RX7 150 "SortWorksModel" "setName" "[J" : Cond) ∈ AL := AL_mem (tm4 47 rfl) rfl
theorem w_4_48 : (.fieldLink RX7 89 "SortWorksModel" "unitMany" "[I" : Cond) ∈ AL := AL_mem (tm4 48 rfl) rfl
theorem w_4_49 : (.fieldLink RX7 132 "SortWorksModel" "yesTo" "[I" : Cond) ∈ AL := AL_mem (tm4 49 rfl) rfl
theorem w_4_50 : (.fieldLink RX7 138 "SortWorksModel" "noTo" "[I" : Cond) ∈ AL := AL_mem (tm4 50 rfl) rfl
theorem w_4_51 : (.fieldLink RX7 175 "SortWorksModel" "settingMany" "[I" : Cond) ∈ AL := AL_mem (tm4 51 rfl) rfl
theorem w_4_52 : (.fieldLink RX7 178 "SortWorksModel" "shares" "[I" : Cond) ∈ AL := AL_mem (tm4 52 rfl) rfl
theorem w_4_53 : (.fieldLink RX7 96 "SortWorksModel" "gradeMany" "[I" : Cond) ∈ AL := AL_mem (tm4 53 rfl) rfl
theorem w_4_54 : (.fieldLink RX7 159 "SortWorksModel" "gKind" "[I" : Cond) ∈ AL := AL_mem (tm4 54 rfl) rfl
theorem w_4_55 : (.fieldLink RX7 162 "SortWorksModel" "gPurity" "[I" : Cond) ∈ AL := AL_mem (tm4 55 rfl) rfl
theorem w_4_56 : (.fieldLink RX7 165 "SortWorksModel" "gPrice" "[I" : Cond) ∈ AL := AL_mem (tm4 56 rfl) rfl
theorem w_4_57 : (.fieldLink RX7 144 "SortWorksModel" "outPlace" "[I" : Cond) ∈ AL := AL_mem (tm4 57 rfl) rfl
theorem w_4_58 : (.fieldLink RX7 153 "SortWorksModel" "setPlace" "[I" : Cond) ∈ AL := AL_mem (tm4 58 rfl) rfl
theorem w_4_59 : (.fieldLink RX7 156 "SortWorksModel" "setShare" "[I" : Cond) ∈ AL := AL_mem (tm4 59 rfl) rfl
theorem w_4_60 : (.fieldLink RX7 105 "SortWorksModel" "chosen" "[I" : Cond) ∈ AL := AL_mem (tm4 60 rfl) rfl
theorem w_4_61 : (.fieldLink RX7 83 "SortWorksModel" "bank" "I" : Cond) ∈ AL := AL_mem (tm4 61 rfl) rfl
theorem w_4_62 : (.fieldLink RX7 86 "SortWorksModel" "rb" "I" : Cond) ∈ AL := AL_mem (tm4 62 rfl) rfl
theorem w_4_63 : (.fieldLink RX7 93 "SortWorksModel" "sets" "I" : Cond) ∈ AL := AL_mem (tm4 63 rfl) rfl
theorem w_4_64 : (.fieldLink RX7 168 "SortWorksModel" "missing" "I" : Cond) ∈ AL := AL_mem (tm4 64 rfl) rfl
theorem w_4_65 : (.fieldLink RX7 200 "SortWorksModel" "rows" "[J" : Cond) ∈ AL := AL_mem (tm4 65 rfl) rfl
theorem w_4_66 : (.fieldLink RX7 194 "SortWorksModel" "parts" "[J" : Cond) ∈ AL := AL_mem (tm4 66 rfl) rfl
theorem w_4_67 : (.fieldLink RX7 197 "SortWorksModel" "whole" "J" : Cond) ∈ AL := AL_mem (tm4 67 rfl) rfl
theorem w_4_68 : (.fieldLink RX7 223 "SortWorksModel" "lTown" "[I" : Cond) ∈ AL := AL_mem (tm4 68 rfl) rfl
theorem w_4_69 : (.fieldLink RX7 226 "SortWorksModel" "lWeight" "[I" : Cond) ∈ AL := AL_mem (tm4 69 rfl) rfl
theorem w_4_70 : (.fieldLink RX7 229 "SortWorksModel" "lSampled" "[I" : Cond) ∈ AL := AL_mem (tm4 70 rfl) rfl
theorem w_4_71 : (.fieldLink RX7 232 "SortWorksModel" "hand" "[I" : Cond) ∈ AL := AL_mem (tm4 71 rfl) rfl
theorem w_4_72 : (.fieldLink RX7 235 "SortWorksModel" "isStruck" "[Z" : Cond) ∈ AL := AL_mem (tm4 72 rfl) rfl
theorem w_4_73 : (.fieldLink RX7 257 "SortWorksModel" "lorries" "I" : Cond) ∈ AL := AL_mem (tm4 73 rfl) rfl
theorem w_4_74 : (.fieldLink RX7 239 "SortWorksModel" "cost" "I" : Cond) ∈ AL := AL_mem (tm4 74 rfl) rfl
theorem w_4_75 : (.fieldLink RX7 242 "SortWorksModel" "all" "[I" : Cond) ∈ AL := AL_mem (tm4 75 rfl) rfl
theorem w_4_76 : (.fieldLink RX7 245 "SortWorksModel" "bestChosen" "[I" : Cond) ∈ AL := AL_mem (tm4 76 rfl) rfl
theorem w_4_77 : (.fieldLink RX7 248 "SortWorksModel" "gets" "[I" : Cond) ∈ AL := AL_mem (tm4 77 rfl) rfl
theorem w_4_78 : (.fieldLink RX7 251 "SortWorksModel" "rests" "[J" : Cond) ∈ AL := AL_mem (tm4 78 rfl) rfl
theorem w_4_170 : (.methodLink RL 98 yX7_lorry : Cond) ∈ AL := AL_mem (tm4 170 rfl) rfl
theorem w_4_171 : (.instanceMethod yX7_lorry : Cond) ∈ AL := AL_mem (tm4 171 rfl) rfl
theorem w_4_172 : (.selects RX7 yX7_lorry yX7_lorry : Cond) ∈ AL := AL_mem (tm4 172 rfl) rfl
theorem w_4_173 : (.code yX7_lorry cX7_lorry 8 (some .int) : Cond) ∈ AL := AL_mem (tm4 173 rfl) rfl
theorem w_4_174 : (.methodLink RX7 254 yX7_isSample : Cond) ∈ AL := AL_mem (tm4 174 rfl) rfl
theorem w_4_175 : (.static yX7_isSample : Cond) ∈ AL := AL_mem (tm4 175 rfl) rfl
theorem w_4_176 : (.code yX7_isSample cX7_isSample 1 (some .boolean) : Cond) ∈ AL := AL_mem (tm4 176 rfl) rfl
theorem w_4_177 : (.methodLink RL 102 yX7_strike : Cond) ∈ AL := AL_mem (tm4 177 rfl) rfl
theorem w_4_178 : (.instanceMethod yX7_strike : Cond) ∈ AL := AL_mem (tm4 178 rfl) rfl
theorem w_4_179 : (.selects RX7 yX7_strike yX7_strike : Cond) ∈ AL := AL_mem (tm4 179 rfl) rfl
theorem w_4_180 : (.code yX7_strike cX7_strike 2 (some .boolean) : Cond) ∈ AL := AL_mem (tm4 180 rfl) rfl
theorem w_4_181 : (.methodLink RL 106 yX7_brought : Cond) ∈ AL := AL_mem (tm4 181 rfl) rfl
theorem w_4_182 : (.instanceMethod yX7_brought : Cond) ∈ AL := AL_mem (tm4 182 rfl) rfl
theorem w_4_183 : (.selects RX7 yX7_brought yX7_brought : Cond) ∈ AL := AL_mem (tm4 183 rfl) rfl
theorem w_4_184 : (.code yX7_brought cX7_brought 3 (some .int) : Cond) ∈ AL := AL_mem (tm4 184 rfl) rfl
theorem w_4_185 : (.methodLink RX7 266 yX7_isTown : Cond) ∈ AL := AL_mem (tm4 185 rfl) rfl
theorem w_4_186 : (.static yX7_isTown : Cond) ∈ AL := AL_mem (tm4 186 rfl) rfl
theorem w_4_187 : (.code yX7_isTown cX7_isTown 1 (some .boolean) : Cond) ∈ AL := AL_mem (tm4 187 rfl) rfl
theorem w_4_188 : (.methodLink RX7 269 yX7_broughtBy : Cond) ∈ AL := AL_mem (tm4 188 rfl) rfl
theorem w_4_190 : (.instanceMethod yX7_broughtBy : Cond) ∈ AL := AL_mem (tm4 190 rfl) rfl
theorem w_4_191 : (.code yX7_broughtBy cX7_broughtBy 5 (some .int) : Cond) ∈ AL := AL_mem (tm4 191 rfl) rfl
theorem w_4_192 : (.methodLink RX7 262 yX7_held : Cond) ∈ AL := AL_mem (tm4 192 rfl) rfl
theorem w_4_194 : (.instanceMethod yX7_held : Cond) ∈ AL := AL_mem (tm4 194 rfl) rfl
theorem w_4_195 : (.code yX7_held cX7_held 5 (some .int) : Cond) ∈ AL := AL_mem (tm4 195 rfl) rfl
theorem w_4_196 : (.constantLong RX7 260 (1000) : Cond) ∈ AL := AL_mem (tm4 196 rfl) rfl
theorem w_4_197 : (.methodLink RL 60 yX7_inflow : Cond) ∈ AL := AL_mem (tm4 197 rfl) rfl
theorem w_4_198 : (.instanceMethod yX7_inflow : Cond) ∈ AL := AL_mem (tm4 198 rfl) rfl
theorem w_4_199 : (.selects RX7 yX7_inflow yX7_inflow : Cond) ∈ AL := AL_mem (tm4 199 rfl) rfl
theorem w_4_200 : (.code yX7_inflow cX7_inflow 3 (some .boolean) : Cond) ∈ AL := AL_mem (tm4 200 rfl) rfl
theorem w_4_201 : (.constant RX7 272 (1000000) : Cond) ∈ AL := AL_mem (tm4 201 rfl) rfl
theorem w_4_202 : (.methodLink RL 64 yX7_comes : Cond) ∈ AL := AL_mem (tm4 202 rfl) rfl
theorem w_4_203 : (.instanceMethod yX7_comes : Cond) ∈ AL := AL_mem (tm4 203 rfl) rfl
theorem w_4_204 : (.selects RX7 yX7_comes yX7_comes : Cond) ∈ AL := AL_mem (tm4 204 rfl) rfl
theorem w_4_205 : (.code yX7_comes cX7_comes 2 (some .int) : Cond) ∈ AL := AL_mem (tm4 205 rfl) rfl
theorem w_4_206 : (.methodLink RX7 276 yX7_inflowOf : Cond) ∈ AL := AL_mem (tm4 206 rfl) rfl
theorem w_4_208 : (.instanceMethod yX7_inflowOf : Cond) ∈ AL := AL_mem (tm4 208 rfl) rfl
theorem w_4_209 : (.code yX7_inflowOf cX7_inflowOf 3 (some .int) : Cond) ∈ AL := AL_mem (tm4 209 rfl) rfl
theorem w_4_210 : (.methodLink RX7 273 yX7_broughtByAll : Cond) ∈ AL := AL_mem (tm4 210 rfl) rfl
theorem w_4_212 : (.instanceMethod yX7_broughtByAll : Cond) ∈ AL := AL_mem (tm4 212 rfl) rfl
theorem w_4_213 : (.code yX7_broughtByAll cX7_broughtByAll 4 (some .int) : Cond) ∈ AL := AL_mem (tm4 213 rfl) rfl
theorem w_4_214 : (.methodLink RL 68 yX7_grams : Cond) ∈ AL := AL_mem (tm4 214 rfl) rfl
theorem w_4_215 : (.instanceMethod yX7_grams : Cond) ∈ AL := AL_mem (tm4 215 rfl) rfl
theorem w_4_216 : (.selects RX7 yX7_grams yX7_grams : Cond) ∈ AL := AL_mem (tm4 216 rfl) rfl
theorem w_4_217 : (.code yX7_grams cX7_grams 3 (some .int) : Cond) ∈ AL := AL_mem (tm4 217 rfl) rfl
theorem w_4_218 : (.methodLink RX7 279 yX7_sortAll : Cond) ∈ AL := AL_mem (tm4 218 rfl) rfl
theorem w_4_220 : (.instanceMethod yX7_sortAll : Cond) ∈ AL := AL_mem (tm4 220 rfl) rfl
theorem w_4_221 : (.code yX7_sortAll cX7_sortAll 6 none : Cond) ∈ AL := AL_mem (tm4 221 rfl) rfl
theorem w_4_222 : (.methodLink RL 72 yX7_purity : Cond) ∈ AL := AL_mem (tm4 222 rfl) rfl
theorem w_4_223 : (.instanceMethod yX7_purity : Cond) ∈ AL := AL_mem (tm4 223 rfl) rfl
theorem w_4_224 : (.selects RX7 yX7_purity yX7_purity : Cond) ∈ AL := AL_mem (tm4 224 rfl) rfl
theorem w_4_225 : (.code yX7_purity cX7_purity 2 (some .int) : Cond) ∈ AL := AL_mem (tm4 225 rfl) rfl
theorem w_4_226 : (.methodLink RX7 288 yX7_isBale : Cond) ∈ AL := AL_mem (tm4 226 rfl) rfl
theorem w_4_227 : (.static yX7_isBale : Cond) ∈ AL := AL_mem (tm4 227 rfl) rfl
theorem w_4_228 : (.code yX7_isBale cX7_isBale 1 (some .boolean) : Cond) ∈ AL := AL_mem (tm4 228 rfl) rfl
theorem w_4_229 : (.methodLink RX7 285 yX7_purityOf : Cond) ∈ AL := AL_mem (tm4 229 rfl) rfl
theorem w_4_231 : (.instanceMethod yX7_purityOf : Cond) ∈ AL := AL_mem (tm4 231 rfl) rfl
theorem w_4_232 : (.code yX7_purityOf cX7_purityOf 4 (some .int) : Cond) ∈ AL := AL_mem (tm4 232 rfl) rfl
theorem w_4_233 : (.methodLink RX7 282 yX7_sumOf : Cond) ∈ AL := AL_mem (tm4 233 rfl) rfl
theorem w_4_235 : (.instanceMethod yX7_sumOf : Cond) ∈ AL := AL_mem (tm4 235 rfl) rfl
theorem w_4_236 : (.code yX7_sumOf cX7_sumOf 4 (some .int) : Cond) ∈ AL := AL_mem (tm4 236 rfl) rfl
theorem w_4_237 : (.methodLink RL 76 yX7_earns : Cond) ∈ AL := AL_mem (tm4 237 rfl) rfl
theorem w_4_238 : (.instanceMethod yX7_earns : Cond) ∈ AL := AL_mem (tm4 238 rfl) rfl
theorem w_4_239 : (.selects RX7 yX7_earns yX7_earns : Cond) ∈ AL := AL_mem (tm4 239 rfl) rfl
theorem w_5_0 : (.code yX7_earns cX7_earns 2 (some .int) : Cond) ∈ AL := AL_mem (tm5 0 rfl) rfl
theorem w_5_1 : (.methodLink RX7 291 yX7_earned : Cond) ∈ AL := AL_mem (tm5 1 rfl) rfl
theorem w_5_3 : (.instanceMethod yX7_earned : Cond) ∈ AL := AL_mem (tm5 3 rfl) rfl
theorem w_5_4 : (.code yX7_earned cX7_earned 5 (some .int) : Cond) ∈ AL := AL_mem (tm5 4 rfl) rfl
theorem w_5_5 : (.methodLink RL 81 yX7_cost : Cond) ∈ AL := AL_mem (tm5 5 rfl) rfl
theorem w_5_6 : (.instanceMethod yX7_cost : Cond) ∈ AL := AL_mem (tm5 6 rfl) rfl
theorem w_5_7 : (.selects RX7 yX7_cost yX7_cost : Cond) ∈ AL := AL_mem (tm5 7 rfl) rfl
theorem w_5_8 : (.code yX7_cost cX7_cost 2 (some .boolean) : Cond) ∈ AL := AL_mem (tm5 8 rfl) rfl
theorem w_5_9 : (.methodLink RL 85 yX7_worth : Cond) ∈ AL := AL_mem (tm5 9 rfl) rfl
theorem w_5_10 : (.instanceMethod yX7_worth : Cond) ∈ AL := AL_mem (tm5 10 rfl) rfl
theorem w_5_11 : (.selects RX7 yX7_worth yX7_worth : Cond) ∈ AL := AL_mem (tm5 11 rfl) rfl
theorem w_5_12 : (.code yX7_worth cX7_worth 3 (some .int) : Cond) ∈ AL := AL_mem (tm5 12 rfl) rfl
theorem w_5_13 : (.methodLink RL 89 yX7_best : Cond) ∈ AL := AL_mem (tm5 13 rfl) rfl
theorem w_5_14 : (.instanceMethod yX7_best : Cond) ∈ AL := AL_mem (tm5 14 rfl) rfl
theorem w_5_15 : (.selects RX7 yX7_best yX7_best : Cond) ∈ AL := AL_mem (tm5 15 rfl) rfl
theorem w_5_16 : (.code yX7_best cX7_best 8 (some .int) : Cond) ∈ AL := AL_mem (tm5 16 rfl) rfl
theorem w_5_17 : (.methodLink RX7 294 yX7_worth : Cond) ∈ AL := AL_mem (tm5 17 rfl) rfl
theorem w_5_18 : (.methodLink RL 93 yX7_chance : Cond) ∈ AL := AL_mem (tm5 18 rfl) rfl
theorem w_5_19 : (.instanceMethod yX7_chance : Cond) ∈ AL := AL_mem (tm5 19 rfl) rfl
theorem w_5_20 : (.selects RX7 yX7_chance yX7_chance : Cond) ∈ AL := AL_mem (tm5 20 rfl) rfl
theorem w_5_21 : (.code yX7_chance cX7_chance 12 (some .int) : Cond) ∈ AL := AL_mem (tm5 21 rfl) rfl
theorem w_5_22 : (.methodLink RX7 298 yX7_ways : Cond) ∈ AL := AL_mem (tm5 22 rfl) rfl
theorem w_5_23 : (.static yX7_ways : Cond) ∈ AL := AL_mem (tm5 23 rfl) rfl
theorem w_5_24 : (.code yX7_ways cX7_ways 5 (some .long) : Cond) ∈ AL := AL_mem (tm5 24 rfl) rfl
theorem w_5_25 : (.methodLink RX7 302 yX7_divisor : Cond) ∈ AL := AL_mem (tm5 25 rfl) rfl
theorem w_5_26 : (.static yX7_divisor : Cond) ∈ AL := AL_mem (tm5 26 rfl) rfl
theorem w_5_27 : (.code yX7_divisor cX7_divisor 10 (some .long) : Cond) ∈ AL := AL_mem (tm5 27 rfl) rfl
theorem w_5_28 : (.methodLink RL 110 yX7_share : Cond) ∈ AL := AL_mem (tm5 28 rfl) rfl
theorem w_5_29 : (.instanceMethod yX7_share : Cond) ∈ AL := AL_mem (tm5 29 rfl) rfl
theorem w_5_30 : (.selects RX7 yX7_share yX7_share : Cond) ∈ AL := AL_mem (tm5 30 rfl) rfl
theorem w_5_31 : (.code yX7_share cX7_share 10 (some .int) : Cond) ∈ AL := AL_mem (tm5 31 rfl) rfl
theorem w_5_32 : (.constant RX7 306 (10000000) : Cond) ∈ AL := AL_mem (tm5 32 rfl) rfl
theorem w_5_33 : (.methodLink RL 114 yX7_about : Cond) ∈ AL := AL_mem (tm5 33 rfl) rfl
theorem w_5_34 : (.instanceMethod yX7_about : Cond) ∈ AL := AL_mem (tm5 34 rfl) rfl
theorem w_5_35 : (.selects RX7 yX7_about yX7_about : Cond) ∈ AL := AL_mem (tm5 35 rfl) rfl
theorem w_5_36 : (.code yX7_about cX7_about 2 (some .int) : Cond) ∈ AL := AL_mem (tm5 36 rfl) rfl
theorem w_5_37 : (.methodLink RL 17 yX7_feed : Cond) ∈ AL := AL_mem (tm5 37 rfl) rfl
theorem w_5_38 : (.instanceMethod yX7_feed : Cond) ∈ AL := AL_mem (tm5 38 rfl) rfl
theorem w_5_39 : (.selects RX7 yX7_feed yX7_feed : Cond) ∈ AL := AL_mem (tm5 39 rfl) rfl
theorem w_5_40 : (.code yX7_feed cX7_feed 8 (some .int) : Cond) ∈ AL := AL_mem (tm5 40 rfl) rfl
theorem w_5_41 : (.methodLink RL 22 yX7_end : Cond) ∈ AL := AL_mem (tm5 41 rfl) rfl
theorem w_5_42 : (.instanceMethod yX7_end : Cond) ∈ AL := AL_mem (tm5 42 rfl) rfl
theorem w_5_43 : (.selects RX7 yX7_end yX7_end : Cond) ∈ AL := AL_mem (tm5 43 rfl) rfl
theorem w_5_44 : (.code yX7_end cX7_end 2 (some .int) : Cond) ∈ AL := AL_mem (tm5 44 rfl) rfl
theorem ws_0 : (.selects RX4 yX4_put yX4_put : Cond) ∈ AL := tS (y := yX4_put) 0 rfl
theorem ws_1 : (.selects RX3 yX3_read yX3_read : Cond) ∈ AL := tS (y := yX3_read) 1 rfl
theorem ws_2 : (.selects RX2 yX2_clear yX2_clear : Cond) ∈ AL := tS (y := yX2_clear) 2 rfl
theorem ws_3 : (.selects RX4 yX4_start yX4_start : Cond) ∈ AL := tS (y := yX4_start) 3 rfl
theorem ws_4 : (.selects RX4 yX4_advance yX4_advance : Cond) ∈ AL := tS (y := yX4_advance) 4 rfl
theorem ws_5 : (.selects RX4 yX4_scanWord yX4_scanWord : Cond) ∈ AL := tS (y := yX4_scanWord) 5 rfl
theorem ws_6 : (.selects RX4 yX4_scanNumber yX4_scanNumber : Cond) ∈ AL := tS (y := yX4_scanNumber) 6 rfl
theorem ws_7 : (.selects RX3 yX3_readUnit yX3_readUnit : Cond) ∈ AL := tS (y := yX3_readUnit) 7 rfl
theorem ws_8 : (.selects RX3 yX3_refuseToken yX3_refuseToken : Cond) ∈ AL := tS (y := yX3_refuseToken) 8 rfl
theorem ws_9 : (.selects RX3 yX3_fail yX3_fail : Cond) ∈ AL := tS (y := yX3_fail) 9 rfl
theorem ws_10 : (.selects RX3 yX3_takeName yX3_takeName : Cond) ∈ AL := tS (y := yX3_takeName) 10 rfl
theorem ws_11 : (.selects RX3 yX3_accepts yX3_accepts : Cond) ∈ AL := tS (y := yX3_accepts) 11 rfl
theorem ws_12 : (.selects RX3 yX3_take yX3_take : Cond) ∈ AL := tS (y := yX3_take) 12 rfl
theorem ws_13 : (.selects RX3 yX3_takeOut yX3_takeOut : Cond) ∈ AL := tS (y := yX3_takeOut) 13 rfl
theorem ws_14 : (.selects RX3 yX3_takeNumber yX3_takeNumber : Cond) ∈ AL := tS (y := yX3_takeNumber) 14 rfl
theorem ws_15 : (.selects RX3 yX3_readSet yX3_readSet : Cond) ∈ AL := tS (y := yX3_readSet) 15 rfl
theorem ws_16 : (.selects RX3 yX3_readGrade yX3_readGrade : Cond) ∈ AL := tS (y := yX3_readGrade) 16 rfl
theorem ws_17 : (.selects RX2 yX2_hasGrade yX2_hasGrade : Cond) ∈ AL := tS (y := yX2_hasGrade) 17 rfl
theorem ws_18 : (.selects RX2 yX2_addGrade yX2_addGrade : Cond) ∈ AL := tS (y := yX2_addGrade) 18 rfl
theorem ws_19 : (.selects RX3 yX3_findNameless yX3_findNameless : Cond) ∈ AL := tS (y := yX3_findNameless) 19 rfl
theorem ws_20 : (.selects RX3 yX3_settle yX3_settle : Cond) ∈ AL := tS (y := yX3_settle) 20 rfl
theorem ws_21 : (.selects RX2 yX2_addSetting yX2_addSetting : Cond) ∈ AL := tS (y := yX2_addSetting) 21 rfl
theorem ws_22 : (.selects RX3 yX3_settled yX3_settled : Cond) ∈ AL := tS (y := yX3_settled) 22 rfl
theorem ws_23 : (.selects RX6 yX6_isUnit yX6_isUnit : Cond) ∈ AL := tS (y := yX6_isUnit) 23 rfl
theorem ws_24 : (.selects RX6 yX6_isSetting yX6_isSetting : Cond) ∈ AL := tS (y := yX6_isSetting) 24 rfl
theorem ws_25 : (.selects RX2 yX2_byYes yX2_byYes : Cond) ∈ AL := tS (y := yX2_byYes) 25 rfl
theorem ws_26 : (.selects RX0 yX0_solve yX0_solve : Cond) ∈ AL := tS (y := yX0_solve) 26 rfl
theorem ws_27 : (.selects RX0 yX0_layRows yX0_layRows : Cond) ∈ AL := tS (y := yX0_layRows) 27 rfl
theorem ws_28 : (.selects RX0 yX0_send yX0_send : Cond) ∈ AL := tS (y := yX0_send) 28 rfl
theorem ws_29 : (.selects RX0 yX0_findMinors yX0_findMinors : Cond) ∈ AL := tS (y := yX0_findMinors) 29 rfl
theorem ws_30 : (.selects RX0 yX0_minorOf yX0_minorOf : Cond) ∈ AL := tS (y := yX0_minorOf) 30 rfl
theorem ws_31 : (.selects RX0 yX0_cofactor yX0_cofactor : Cond) ∈ AL := tS (y := yX0_cofactor) 31 rfl
theorem ws_32 : (.selects RX6 yX6_comingOf yX6_comingOf : Cond) ∈ AL := tS (y := yX6_comingOf) 32 rfl
theorem ws_33 : (.selects RX5 yX5_ofAll yX5_ofAll : Cond) ∈ AL := tS (y := yX5_ofAll) 33 rfl
theorem ws_34 : (.selects RX6 yX6_sortByChoice yX6_sortByChoice : Cond) ∈ AL := tS (y := yX6_sortByChoice) 34 rfl
theorem ws_35 : (.selects RX6 yX6_gatherInflow yX6_gatherInflow : Cond) ∈ AL := tS (y := yX6_gatherInflow) 35 rfl
theorem ws_36 : (.selects RX1 yX1_sort yX1_sort : Cond) ∈ AL := tS (y := yX1_sort) 36 rfl
theorem ws_37 : (.selects RX1 yX1_split yX1_split : Cond) ∈ AL := tS (y := yX1_split) 37 rfl
theorem ws_38 : (.selects RX1 yX1_put yX1_put : Cond) ∈ AL := tS (y := yX1_put) 38 rfl
theorem ws_39 : (.selects RX1 yX1_purityOf yX1_purityOf : Cond) ∈ AL := tS (y := yX1_purityOf) 39 rfl
theorem ws_40 : (.selects RX1 yX1_earningsOf yX1_earningsOf : Cond) ∈ AL := tS (y := yX1_earningsOf) 40 rfl
theorem ws_41 : (.selects RX1 yX1_worthOf yX1_worthOf : Cond) ∈ AL := tS (y := yX1_worthOf) 41 rfl
theorem ws_42 : (.selects RX6 yX6_turnTried yX6_turnTried : Cond) ∈ AL := tS (y := yX6_turnTried) 42 rfl
theorem ws_43 : (.selects RX5 yX5_bring yX5_bring : Cond) ∈ AL := tS (y := yX5_bring) 43 rfl
theorem ws_44 : (.selects RX5 yX5_strikeOff yX5_strikeOff : Cond) ∈ AL := tS (y := yX5_strikeOff) 44 rfl
theorem ws_45 : (.selects RX5 yX5_shareOf yX5_shareOf : Cond) ∈ AL := tS (y := yX5_shareOf) 45 rfl
theorem ws_46 : (.selects RX7 yX7_next yX7_next : Cond) ∈ AL := tS (y := yX7_next) 46 rfl
theorem ws_47 : (.selects RX7 yX7_sign yX7_sign : Cond) ∈ AL := tS (y := yX7_sign) 47 rfl
theorem ws_48 : (.selects RX7 yX7_isGood yX7_isGood : Cond) ∈ AL := tS (y := yX7_isGood) 48 rfl
theorem ws_49 : (.selects RX7 yX7_readLine yX7_readLine : Cond) ∈ AL := tS (y := yX7_readLine) 49 rfl
theorem ws_50 : (.selects RX7 yX7_isWord yX7_isWord : Cond) ∈ AL := tS (y := yX7_isWord) 50 rfl
theorem ws_51 : (.selects RX7 yX7_wrong yX7_wrong : Cond) ∈ AL := tS (y := yX7_wrong) 51 rfl
theorem ws_52 : (.selects RX7 yX7_fails yX7_fails : Cond) ∈ AL := tS (y := yX7_fails) 52 rfl
theorem ws_53 : (.selects RX7 yX7_readUnit yX7_readUnit : Cond) ∈ AL := tS (y := yX7_readUnit) 53 rfl
theorem ws_54 : (.selects RX7 yX7_unitOf yX7_unitOf : Cond) ∈ AL := tS (y := yX7_unitOf) 54 rfl
theorem ws_55 : (.selects RX7 yX7_must yX7_must : Cond) ∈ AL := tS (y := yX7_must) 55 rfl
theorem ws_56 : (.selects RX7 yX7_out yX7_out : Cond) ∈ AL := tS (y := yX7_out) 56 rfl
theorem ws_57 : (.selects RX7 yX7_numeral yX7_numeral : Cond) ∈ AL := tS (y := yX7_numeral) 57 rfl
theorem ws_58 : (.selects RX7 yX7_readSet yX7_readSet : Cond) ∈ AL := tS (y := yX7_readSet) 58 rfl
theorem ws_59 : (.selects RX7 yX7_readGrade yX7_readGrade : Cond) ∈ AL := tS (y := yX7_readGrade) 59 rfl
theorem ws_60 : (.selects RX7 yX7_join yX7_join : Cond) ∈ AL := tS (y := yX7_join) 60 rfl
theorem ws_61 : (.selects RX7 yX7_named yX7_named : Cond) ∈ AL := tS (y := yX7_named) 61 rfl
theorem ws_62 : (.selects RX7 yX7_isUnit yX7_isUnit : Cond) ∈ AL := tS (y := yX7_isUnit) 62 rfl
theorem ws_63 : (.selects RX7 yX7_settings yX7_settings : Cond) ∈ AL := tS (y := yX7_settings) 63 rfl
theorem ws_64 : (.selects RX7 yX7_goes yX7_goes : Cond) ∈ AL := tS (y := yX7_goes) 64 rfl
theorem ws_65 : (.selects RX7 yX7_solve yX7_solve : Cond) ∈ AL := tS (y := yX7_solve) 65 rfl
theorem ws_66 : (.selects RX7 yX7_lead yX7_lead : Cond) ∈ AL := tS (y := yX7_lead) 66 rfl
theorem ws_67 : (.selects RX7 yX7_change yX7_change : Cond) ∈ AL := tS (y := yX7_change) 67 rfl
theorem ws_68 : (.selects RX7 yX7_broughtBy yX7_broughtBy : Cond) ∈ AL := tS (y := yX7_broughtBy) 68 rfl
theorem ws_69 : (.selects RX7 yX7_held yX7_held : Cond) ∈ AL := tS (y := yX7_held) 69 rfl
theorem ws_70 : (.selects RX7 yX7_inflowOf yX7_inflowOf : Cond) ∈ AL := tS (y := yX7_inflowOf) 70 rfl
theorem ws_71 : (.selects RX7 yX7_broughtByAll yX7_broughtByAll : Cond) ∈ AL := tS (y := yX7_broughtByAll) 71 rfl
theorem ws_72 : (.selects RX7 yX7_sortAll yX7_sortAll : Cond) ∈ AL := tS (y := yX7_sortAll) 72 rfl
theorem ws_73 : (.selects RX7 yX7_purityOf yX7_purityOf : Cond) ∈ AL := tS (y := yX7_purityOf) 73 rfl
theorem ws_74 : (.selects RX7 yX7_sumOf yX7_sumOf : Cond) ∈ AL := tS (y := yX7_sumOf) 74 rfl
theorem ws_75 : (.selects RX7 yX7_earned yX7_earned : Cond) ∈ AL := tS (y := yX7_earned) 75 rfl
theorem inBX0 : ∀ k, k < 5 → u_lay RX0 TX0 k ∈ AL := fun k h => match k, h with
  | 0, _ => AL_mem (tm1 177 rfl) rfl
  | 1, _ => AL_mem (tm1 179 rfl) rfl
  | 2, _ => AL_mem (tm1 181 rfl) rfl
  | 3, _ => AL_mem (tm1 183 rfl) rfl
  | 4, _ => AL_mem (tm1 185 rfl) rfl
  | k + 5, h => absurd h (by omega)
theorem inAX0 : ∀ w ∈ u_ws RX0 TX0 5, w ∈ AL := fun w h => by
  obtain ⟨k, hk, rfl⟩ := List.mem_map.mp h
  exact inBX0 k (List.mem_range.mp hk)
theorem inBX1 : ∀ k, k < 2 → u_lay RX1 TX1 k ∈ AL := fun k h => match k, h with
  | 0, _ => AL_mem (tm1 197 rfl) rfl
  | 1, _ => AL_mem (tm1 199 rfl) rfl
  | k + 2, h => absurd h (by omega)
theorem inAX1 : ∀ w ∈ u_ws RX1 TX1 2, w ∈ AL := fun w h => by
  obtain ⟨k, hk, rfl⟩ := List.mem_map.mp h
  exact inBX1 k (List.mem_range.mp hk)
theorem inBX2 : ∀ k, k < 9 → u_lay RX2 TX2 k ∈ AL := fun k h => match k, h with
  | 0, _ => AL_mem (tm1 54 rfl) rfl
  | 1, _ => AL_mem (tm1 56 rfl) rfl
  | 2, _ => AL_mem (tm1 58 rfl) rfl
  | 3, _ => AL_mem (tm1 60 rfl) rfl
  | 4, _ => AL_mem (tm1 62 rfl) rfl
  | 5, _ => AL_mem (tm1 64 rfl) rfl
  | 6, _ => AL_mem (tm1 66 rfl) rfl
  | 7, _ => AL_mem (tm1 68 rfl) rfl
  | 8, _ => AL_mem (tm1 70 rfl) rfl
  | k + 9, h => absurd h (by omega)
theorem inAX2 : ∀ w ∈ u_ws RX2 TX2 9, w ∈ AL := fun w h => by
  obtain ⟨k, hk, rfl⟩ := List.mem_map.mp h
  exact inBX2 k (List.mem_range.mp hk)
theorem inBX3 : ∀ k, k < 12 → u_lay RX3 TX3 k ∈ AL := fun k h => match k, h with
  | 0, _ => AL_mem (tm1 136 rfl) rfl
  | 1, _ => AL_mem (tm1 138 rfl) rfl
  | 2, _ => AL_mem (tm1 140 rfl) rfl
  | 3, _ => AL_mem (tm1 142 rfl) rfl
  | 4, _ => AL_mem (tm1 144 rfl) rfl
  | 5, _ => AL_mem (tm1 146 rfl) rfl
  | 6, _ => AL_mem (tm1 148 rfl) rfl
  | 7, _ => AL_mem (tm1 150 rfl) rfl
  | 8, _ => AL_mem (tm1 152 rfl) rfl
  | 9, _ => AL_mem (tm1 154 rfl) rfl
  | 10, _ => AL_mem (tm1 156 rfl) rfl
  | 11, _ => AL_mem (tm1 158 rfl) rfl
  | k + 12, h => absurd h (by omega)
theorem inAX3 : ∀ w ∈ u_ws RX3 TX3 12, w ∈ AL := fun w h => by
  obtain ⟨k, hk, rfl⟩ := List.mem_map.mp h
  exact inBX3 k (List.mem_range.mp hk)
theorem inBX4 : ∀ k, k < 8 → u_lay RX4 TX4 k ∈ AL := fun k h => match k, h with
  | 0, _ => AL_mem (tm1 100 rfl) rfl
  | 1, _ => AL_mem (tm1 102 rfl) rfl
  | 2, _ => AL_mem (tm1 104 rfl) rfl
  | 3, _ => AL_mem (tm1 106 rfl) rfl
  | 4, _ => AL_mem (tm1 108 rfl) rfl
  | 5, _ => AL_mem (tm1 110 rfl) rfl
  | 6, _ => AL_mem (tm1 112 rfl) rfl
  | 7, _ => AL_mem (tm1 114 rfl) rfl
  | k + 8, h => absurd h (by omega)
theorem inAX4 : ∀ w ∈ u_ws RX4 TX4 8, w ∈ AL := fun w h => by
  obtain ⟨k, hk, rfl⟩ := List.mem_map.mp h
  exact inBX4 k (List.mem_range.mp hk)
theorem inBX5 : ∀ k, k < 6 → u_lay RX5 TX5 k ∈ AL := fun k h => match k, h with
  | 0, _ => AL_mem (tm1 217 rfl) rfl
  | 1, _ => AL_mem (tm1 219 rfl) rfl
  | 2, _ => AL_mem (tm1 221 rfl) rfl
  | 3, _ => AL_mem (tm1 223 rfl) rfl
  | 4, _ => AL_mem (tm1 225 rfl) rfl
  | 5, _ => AL_mem (tm1 227 rfl) rfl
  | k + 6, h => absurd h (by omega)
theorem inAX5 : ∀ w ∈ u_ws RX5 TX5 6, w ∈ AL := fun w h => by
  obtain ⟨k, hk, rfl⟩ := List.mem_map.mp h
  exact inBX5 k (List.mem_range.mp hk)
theorem inBX6 : ∀ k, k < 12 → u_lay RX6 TX6 k ∈ AL := fun k h => match k, h with
  | 0, _ => AL_mem (tm2 6 rfl) rfl
  | 1, _ => AL_mem (tm2 8 rfl) rfl
  | 2, _ => AL_mem (tm2 10 rfl) rfl
  | 3, _ => AL_mem (tm2 12 rfl) rfl
  | 4, _ => AL_mem (tm2 14 rfl) rfl
  | 5, _ => AL_mem (tm2 16 rfl) rfl
  | 6, _ => AL_mem (tm2 18 rfl) rfl
  | 7, _ => AL_mem (tm2 20 rfl) rfl
  | 8, _ => AL_mem (tm2 22 rfl) rfl
  | 9, _ => AL_mem (tm2 24 rfl) rfl
  | 10, _ => AL_mem (tm2 26 rfl) rfl
  | 11, _ => AL_mem (tm2 28 rfl) rfl
  | k + 12, h => absurd h (by omega)
theorem inAX6 : ∀ w ∈ u_ws RX6 TX6 12, w ∈ AL := fun w h => by
  obtain ⟨k, hk, rfl⟩ := List.mem_map.mp h
  exact inBX6 k (List.mem_range.mp hk)
theorem inBX7 : ∀ k, k < 45 → u_lay RX7 TX7 k ∈ AL := fun k h => match k, h with
  | 0, _ => AL_mem (tm4 79 rfl) rfl
  | 1, _ => AL_mem (tm4 81 rfl) rfl
  | 2, _ => AL_mem (tm4 83 rfl) rfl
  | 3, _ => AL_mem (tm4 85 rfl) rfl
  | 4, _ => AL_mem (tm4 87 rfl) rfl
  | 5, _ => AL_mem (tm4 89 rfl) rfl
  | 6, _ => AL_mem (tm4 91 rfl) rfl
  | 7, _ => AL_mem (tm4 93 rfl) rfl
  | 8, _ => AL_mem (tm4 95 rfl) rfl
  | 9, _ => AL_mem (tm4 97 rfl) rfl
  | 10, _ => AL_mem (tm4 99 rfl) rfl
  | 11, _ => AL_mem (tm4 101 rfl) rfl
  | 12, _ => AL_mem (tm4 103 rfl) rfl
  | 13, _ => AL_mem (tm4 105 rfl) rfl
  | 14, _ => AL_mem (tm4 107 rfl) rfl
  | 15, _ => AL_mem (tm4 109 rfl) rfl
  | 16, _ => AL_mem (tm4 111 rfl) rfl
  | 17, _ => AL_mem (tm4 113 rfl) rfl
  | 18, _ => AL_mem (tm4 115 rfl) rfl
  | 19, _ => AL_mem (tm4 117 rfl) rfl
  | 20, _ => AL_mem (tm4 119 rfl) rfl
  | 21, _ => AL_mem (tm4 121 rfl) rfl
  | 22, _ => AL_mem (tm4 123 rfl) rfl
  | 23, _ => AL_mem (tm4 125 rfl) rfl
  | 24, _ => AL_mem (tm4 127 rfl) rfl
  | 25, _ => AL_mem (tm4 129 rfl) rfl
  | 26, _ => AL_mem (tm4 131 rfl) rfl
  | 27, _ => AL_mem (tm4 133 rfl) rfl
  | 28, _ => AL_mem (tm4 135 rfl) rfl
  | 29, _ => AL_mem (tm4 137 rfl) rfl
  | 30, _ => AL_mem (tm4 139 rfl) rfl
  | 31, _ => AL_mem (tm4 141 rfl) rfl
  | 32, _ => AL_mem (tm4 143 rfl) rfl
  | 33, _ => AL_mem (tm4 145 rfl) rfl
  | 34, _ => AL_mem (tm4 147 rfl) rfl
  | 35, _ => AL_mem (tm4 149 rfl) rfl
  | 36, _ => AL_mem (tm4 151 rfl) rfl
  | 37, _ => AL_mem (tm4 153 rfl) rfl
  | 38, _ => AL_mem (tm4 155 rfl) rfl
  | 39, _ => AL_mem (tm4 157 rfl) rfl
  | 40, _ => AL_mem (tm4 159 rfl) rfl
  | 41, _ => AL_mem (tm4 161 rfl) rfl
  | 42, _ => AL_mem (tm4 163 rfl) rfl
  | 43, _ => AL_mem (tm4 165 rfl) rfl
  | 44, _ => AL_mem (tm4 167 rfl) rfl
  | k + 45, h => absurd h (by omega)
theorem inAX7 : ∀ w ∈ u_ws RX7 TX7 45, w ∈ AL := fun w h => by
  obtain ⟨k, hk, rfl⟩ := List.mem_map.mp h
  exact inBX7 k (List.mem_range.mp hk)
abbrev classes : List vw_C := [(RX0, TX0, 5), (RX1, TX1, 2), (RX2, TX2, 9), (RX3, TX3, 12), (RX4, TX4, 8), (RX5, TX5, 6), (RX6, TX6, 12), (RX7, TX7, 45)]
abbrev tys4 (cB cI cJ cZ : ClassId) : List (ClassId × FieldType) := [(cB, .byte), (cI, .int), (cJ, .long), (cZ, .boolean)]
def isNest : Cond → Bool
  | .fieldLinkNest .. => true
  | .methodLinkNest .. => true
  | _ => false
def NL : List Cond := lw_tbl.filter isNest
theorem w_1_23 : (.methodLinkNest RX6 9 yX2_init RX6 : Cond) ∈ NL := List.mem_filter.mpr ⟨tm1 23 rfl, rfl⟩
theorem w_1_28 : (.fieldLinkNest RX0 31 "SortWorks$Plan" "units" "I" RX6 : Cond) ∈ NL := List.mem_filter.mpr ⟨tm1 28 rfl, rfl⟩
theorem w_1_29 : (.fieldLinkNest RX3 85 "SortWorks$Plan" "units" "I" RX6 : Cond) ∈ NL := List.mem_filter.mpr ⟨tm1 29 rfl, rfl⟩
theorem w_1_30 : (.fieldLinkNest RX6 96 "SortWorks$Plan" "units" "I" RX6 : Cond) ∈ NL := List.mem_filter.mpr ⟨tm1 30 rfl, rfl⟩
theorem w_1_32 : (.fieldLinkNest RX6 103 "SortWorks$Plan" "settings" "[I" RX6 : Cond) ∈ NL := List.mem_filter.mpr ⟨tm1 32 rfl, rfl⟩
theorem w_1_33 : (.fieldLinkNest RX3 154 "SortWorks$Plan" "settings" "[I" RX6 : Cond) ∈ NL := List.mem_filter.mpr ⟨tm1 33 rfl, rfl⟩
theorem w_1_35 : (.fieldLinkNest RX0 60 "SortWorks$Plan" "yesLeads" "[I" RX6 : Cond) ∈ NL := List.mem_filter.mpr ⟨tm1 35 rfl, rfl⟩
theorem w_1_36 : (.fieldLinkNest RX3 109 "SortWorks$Plan" "yesLeads" "[I" RX6 : Cond) ∈ NL := List.mem_filter.mpr ⟨tm1 36 rfl, rfl⟩
theorem w_1_37 : (.fieldLinkNest RX6 106 "SortWorks$Plan" "yesLeads" "[I" RX6 : Cond) ∈ NL := List.mem_filter.mpr ⟨tm1 37 rfl, rfl⟩
theorem w_1_39 : (.fieldLinkNest RX0 67 "SortWorks$Plan" "noLeads" "[I" RX6 : Cond) ∈ NL := List.mem_filter.mpr ⟨tm1 39 rfl, rfl⟩
theorem w_1_40 : (.fieldLinkNest RX3 112 "SortWorks$Plan" "noLeads" "[I" RX6 : Cond) ∈ NL := List.mem_filter.mpr ⟨tm1 40 rfl, rfl⟩
theorem w_1_41 : (.fieldLinkNest RX6 109 "SortWorks$Plan" "noLeads" "[I" RX6 : Cond) ∈ NL := List.mem_filter.mpr ⟨tm1 41 rfl, rfl⟩
theorem w_1_44 : (.fieldLinkNest RX1 46 "SortWorks$Plan" "grades" "[I" RX6 : Cond) ∈ NL := List.mem_filter.mpr ⟨tm1 44 rfl, rfl⟩
theorem w_1_45 : (.fieldLinkNest RX3 119 "SortWorks$Plan" "grades" "[I" RX6 : Cond) ∈ NL := List.mem_filter.mpr ⟨tm1 45 rfl, rfl⟩
theorem w_1_46 : (.fieldLinkNest RX6 215 "SortWorks$Plan" "grades" "[I" RX6 : Cond) ∈ NL := List.mem_filter.mpr ⟨tm1 46 rfl, rfl⟩
theorem w_1_48 : (.fieldLinkNest RX1 51 "SortWorks$Plan" "gradeKinds" "[I" RX6 : Cond) ∈ NL := List.mem_filter.mpr ⟨tm1 48 rfl, rfl⟩
theorem w_1_49 : (.fieldLinkNest RX3 122 "SortWorks$Plan" "gradeKinds" "[I" RX6 : Cond) ∈ NL := List.mem_filter.mpr ⟨tm1 49 rfl, rfl⟩
theorem w_1_51 : (.fieldLinkNest RX1 60 "SortWorks$Plan" "gradePurities" "[I" RX6 : Cond) ∈ NL := List.mem_filter.mpr ⟨tm1 51 rfl, rfl⟩
theorem w_1_53 : (.fieldLinkNest RX1 63 "SortWorks$Plan" "gradePrices" "[I" RX6 : Cond) ∈ NL := List.mem_filter.mpr ⟨tm1 53 rfl, rfl⟩
theorem w_1_76 : (.methodLinkNest RX6 18 yX3_init RX6 : Cond) ∈ NL := List.mem_filter.mpr ⟨tm1 76 rfl, rfl⟩
theorem w_1_82 : (.methodLinkNest RX3 11 yX4_init RX6 : Cond) ∈ NL := List.mem_filter.mpr ⟨tm1 82 rfl, rfl⟩
theorem w_1_88 : (.fieldLinkNest RX6 74 "SortWorks$Tape" "length" "I" RX6 : Cond) ∈ NL := List.mem_filter.mpr ⟨tm1 88 rfl, rfl⟩
theorem w_1_90 : (.fieldLinkNest RX3 64 "SortWorks$Tape" "type" "I" RX6 : Cond) ∈ NL := List.mem_filter.mpr ⟨tm1 90 rfl, rfl⟩
theorem w_1_93 : (.fieldLinkNest RX3 140 "SortWorks$Tape" "place" "I" RX6 : Cond) ∈ NL := List.mem_filter.mpr ⟨tm1 93 rfl, rfl⟩
theorem w_1_94 : (.fieldLinkNest RX3 95 "SortWorks$Tape" "formerPlace" "I" RX6 : Cond) ∈ NL := List.mem_filter.mpr ⟨tm1 94 rfl, rfl⟩
theorem w_1_97 : (.fieldLinkNest RX3 143 "SortWorks$Tape" "word" "J" RX6 : Cond) ∈ NL := List.mem_filter.mpr ⟨tm1 97 rfl, rfl⟩
theorem w_1_99 : (.fieldLinkNest RX3 137 "SortWorks$Tape" "number" "I" RX6 : Cond) ∈ NL := List.mem_filter.mpr ⟨tm1 99 rfl, rfl⟩
theorem w_1_119 : (.methodLinkNest RX3 20 yX2_init RX6 : Cond) ∈ NL := List.mem_filter.mpr ⟨tm1 119 rfl, rfl⟩
theorem w_1_121 : (.fieldLinkNest RX6 86 "SortWorks$Reader" "fault" "I" RX6 : Cond) ∈ NL := List.mem_filter.mpr ⟨tm1 121 rfl, rfl⟩
theorem w_1_123 : (.fieldLinkNest RX6 92 "SortWorks$Reader" "faultPlace" "I" RX6 : Cond) ∈ NL := List.mem_filter.mpr ⟨tm1 123 rfl, rfl⟩
theorem w_1_125 : (.fieldLinkNest RX6 70 "SortWorks$Reader" "tape" "LSortWorks$Tape;" RX6 : Cond) ∈ NL := List.mem_filter.mpr ⟨tm1 125 rfl, rfl⟩
theorem w_1_127 : (.fieldLinkNest RX6 93 "SortWorks$Reader" "draft" "LSortWorks$Plan;" RX6 : Cond) ∈ NL := List.mem_filter.mpr ⟨tm1 127 rfl, rfl⟩
theorem w_1_164 : (.methodLinkNest RX6 42 yX0_init RX6 : Cond) ∈ NL := List.mem_filter.mpr ⟨tm1 164 rfl, rfl⟩
theorem w_1_169 : (.fieldLinkNest RX1 34 "SortWorks$Ends" "wholeOfAll" "J" RX6 : Cond) ∈ NL := List.mem_filter.mpr ⟨tm1 169 rfl, rfl⟩
theorem w_1_170 : (.fieldLinkNest RX6 129 "SortWorks$Ends" "wholeOfAll" "J" RX6 : Cond) ∈ NL := List.mem_filter.mpr ⟨tm1 170 rfl, rfl⟩
theorem w_1_172 : (.fieldLinkNest RX1 38 "SortWorks$Ends" "parts" "[J" RX6 : Cond) ∈ NL := List.mem_filter.mpr ⟨tm1 172 rfl, rfl⟩
theorem w_1_173 : (.fieldLinkNest RX6 136 "SortWorks$Ends" "parts" "[J" RX6 : Cond) ∈ NL := List.mem_filter.mpr ⟨tm1 173 rfl, rfl⟩
theorem w_1_190 : (.methodLinkNest RX6 49 yX1_init RX6 : Cond) ∈ NL := List.mem_filter.mpr ⟨tm1 190 rfl, rfl⟩
theorem w_1_195 : (.fieldLinkNest RX6 148 "SortWorks$Heaps" "held" "[I" RX6 : Cond) ∈ NL := List.mem_filter.mpr ⟨tm1 195 rfl, rfl⟩
theorem w_1_204 : (.methodLinkNest RX6 56 yX5_init RX6 : Cond) ∈ NL := List.mem_filter.mpr ⟨tm1 204 rfl, rfl⟩
theorem w_1_209 : (.fieldLinkNest RX6 212 "SortWorks$Yard" "count" "I" RX6 : Cond) ∈ NL := List.mem_filter.mpr ⟨tm1 209 rfl, rfl⟩
theorem w_1_211 : (.fieldLinkNest RX6 195 "SortWorks$Yard" "sampled" "[I" RX6 : Cond) ∈ NL := List.mem_filter.mpr ⟨tm1 211 rfl, rfl⟩
theorem w_1_216 : (.fieldLinkNest RX6 205 "SortWorks$Yard" "ofTowns" "[I" RX6 : Cond) ∈ NL := List.mem_filter.mpr ⟨tm1 216 rfl, rfl⟩
theorem w_2_35 : (.methodLinkNest RX6 79 yX4_put RX6 : Cond) ∈ NL := List.mem_filter.mpr ⟨tm2 35 rfl, rfl⟩
theorem w_2_47 : (.methodLinkNest RX6 83 yX3_read RX6 : Cond) ∈ NL := List.mem_filter.mpr ⟨tm2 47 rfl, rfl⟩
theorem w_2_51 : (.methodLinkNest RX3 45 yX2_clear RX6 : Cond) ∈ NL := List.mem_filter.mpr ⟨tm2 51 rfl, rfl⟩
theorem w_2_56 : (.methodLinkNest RX3 61 yX4_start RX6 : Cond) ∈ NL := List.mem_filter.mpr ⟨tm2 56 rfl, rfl⟩
theorem w_2_92 : (.methodLinkNest RX3 88 yX4_advance RX6 : Cond) ∈ NL := List.mem_filter.mpr ⟨tm2 92 rfl, rfl⟩
theorem w_2_121 : (.methodLinkNest RX3 125 yX2_hasGrade RX6 : Cond) ∈ NL := List.mem_filter.mpr ⟨tm2 121 rfl, rfl⟩
theorem w_2_125 : (.methodLinkNest RX3 129 yX2_addGrade RX6 : Cond) ∈ NL := List.mem_filter.mpr ⟨tm2 125 rfl, rfl⟩
theorem w_2_137 : (.methodLinkNest RX3 147 yX2_addSetting RX6 : Cond) ∈ NL := List.mem_filter.mpr ⟨tm2 137 rfl, rfl⟩
theorem w_2_174 : (.methodLinkNest RX6 119 yX2_byYes RX6 : Cond) ∈ NL := List.mem_filter.mpr ⟨tm2 174 rfl, rfl⟩
theorem w_2_187 : (.methodLinkNest RX6 125 yX0_solve RX6 : Cond) ∈ NL := List.mem_filter.mpr ⟨tm2 187 rfl, rfl⟩
theorem w_2_199 : (.methodLinkNest RX0 56 yX2_byYes RX6 : Cond) ∈ NL := List.mem_filter.mpr ⟨tm2 199 rfl, rfl⟩
theorem w_3_2 : (.methodLinkNest RX6 218 yX5_ofAll RX6 : Cond) ∈ NL := List.mem_filter.mpr ⟨tm3 2 rfl, rfl⟩
theorem w_3_22 : (.methodLinkNest RX6 167 yX1_sort RX6 : Cond) ∈ NL := List.mem_filter.mpr ⟨tm3 22 rfl, rfl⟩
theorem w_3_27 : (.methodLinkNest RX1 24 yX0_solve RX6 : Cond) ∈ NL := List.mem_filter.mpr ⟨tm3 27 rfl, rfl⟩
theorem w_3_43 : (.methodLinkNest RX6 154 yX1_purityOf RX6 : Cond) ∈ NL := List.mem_filter.mpr ⟨tm3 43 rfl, rfl⟩
theorem w_3_52 : (.methodLinkNest RX6 158 yX1_earningsOf RX6 : Cond) ∈ NL := List.mem_filter.mpr ⟨tm3 52 rfl, rfl⟩
theorem w_3_66 : (.methodLinkNest RX6 161 yX1_worthOf RX6 : Cond) ∈ NL := List.mem_filter.mpr ⟨tm3 66 rfl, rfl⟩
theorem w_3_100 : (.methodLinkNest RX6 198 yX5_bring RX6 : Cond) ∈ NL := List.mem_filter.mpr ⟨tm3 100 rfl, rfl⟩
theorem w_3_109 : (.methodLinkNest RX6 202 yX5_strikeOff RX6 : Cond) ∈ NL := List.mem_filter.mpr ⟨tm3 109 rfl, rfl⟩
theorem w_3_122 : (.methodLinkNest RX6 209 yX5_shareOf RX6 : Cond) ∈ NL := List.mem_filter.mpr ⟨tm3 122 rfl, rfl⟩
