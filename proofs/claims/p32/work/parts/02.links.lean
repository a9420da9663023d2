theorem fX6_15 : Cond.fieldLink RX6 15 "DarkVats$Settings" "FIRST" "[I" ∈ lw_tbl := List.mem_of_getElem? (i := 47) (by decide +kernel)
theorem fX6_9 : FLk RX6 9 6 0 "[I" true := ⟨_, rfl, by decide, rfl, List.mem_of_getElem? (i := 49) (by decide +kernel)⟩
theorem fX8_7 : FLk RX8 7 8 0 "I" false := ⟨_, rfl, by decide, rfl, List.mem_of_getElem? (i := 59) (by decide +kernel)⟩
theorem fX9_69 : FLk RX9 69 8 0 "I" false := ⟨_, rfl, by decide, rfl, List.mem_of_getElem? (i := 60) (by decide +kernel)⟩
theorem fX2_78 : FLk RX2 78 8 0 "I" false := ⟨_, rfl, by decide, rfl, List.mem_of_getElem? (i := 61) (by decide +kernel)⟩
theorem fX1_96 : FLk RX1 96 8 0 "I" false := ⟨_, rfl, by decide, rfl, List.mem_of_getElem? (i := 62) (by decide +kernel)⟩
theorem fX8_13 : FLk RX8 13 8 1 "I" false := ⟨_, rfl, by decide, rfl, List.mem_of_getElem? (i := 63) (by decide +kernel)⟩
theorem fX9_75 : FLk RX9 75 8 1 "I" false := ⟨_, rfl, by decide, rfl, List.mem_of_getElem? (i := 64) (by decide +kernel)⟩
theorem fX2_67 : FLk RX2 67 8 1 "I" false := ⟨_, rfl, by decide, rfl, List.mem_of_getElem? (i := 65) (by decide +kernel)⟩
theorem fX1_99 : FLk RX1 99 8 1 "I" false := ⟨_, rfl, by decide, rfl, List.mem_of_getElem? (i := 66) (by decide +kernel)⟩
theorem fX8_16 : FLk RX8 16 8 2 "I" false := ⟨_, rfl, by decide, rfl, List.mem_of_getElem? (i := 67) (by decide +kernel)⟩
theorem fX9_78 : FLk RX9 78 8 2 "I" false := ⟨_, rfl, by decide, rfl, List.mem_of_getElem? (i := 68) (by decide +kernel)⟩
theorem fX4_58 : FLk RX4 58 8 2 "I" false := ⟨_, rfl, by decide, rfl, List.mem_of_getElem? (i := 69) (by decide +kernel)⟩
theorem fX2_62 : FLk RX2 62 8 2 "I" false := ⟨_, rfl, by decide, rfl, List.mem_of_getElem? (i := 70) (by decide +kernel)⟩
theorem fX1_112 : FLk RX1 112 8 2 "I" false := ⟨_, rfl, by decide, rfl, List.mem_of_getElem? (i := 71) (by decide +kernel)⟩
theorem fX8_19 : FLk RX8 19 8 3 "I" false := ⟨_, rfl, by decide, rfl, List.mem_of_getElem? (i := 72) (by decide +kernel)⟩
theorem fX9_81 : FLk RX9 81 8 3 "I" false := ⟨_, rfl, by decide, rfl, List.mem_of_getElem? (i := 73) (by decide +kernel)⟩
theorem fX4_63 : FLk RX4 63 8 3 "I" false := ⟨_, rfl, by decide, rfl, List.mem_of_getElem? (i := 74) (by decide +kernel)⟩
theorem fX2_85 : FLk RX2 85 8 3 "I" false := ⟨_, rfl, by decide, rfl, List.mem_of_getElem? (i := 75) (by decide +kernel)⟩
theorem fX1_115 : FLk RX1 115 8 3 "I" false := ⟨_, rfl, by decide, rfl, List.mem_of_getElem? (i := 76) (by decide +kernel)⟩
theorem fX2_22 : FLk RX2 22 2 0 "I" false := ⟨_, rfl, by decide, rfl, List.mem_of_getElem? (i := 91) (by decide +kernel)⟩
theorem fX1_122 : FLk RX1 122 2 0 "I" false := ⟨_, rfl, by decide, rfl, List.mem_of_getElem? (i := 92) (by decide +kernel)⟩
theorem fX9_121 : FLk RX9 121 2 0 "I" false := ⟨_, rfl, by decide, rfl, List.mem_of_getElem? (i := 93) (by decide +kernel)⟩
theorem fX2_25 : FLk RX2 25 2 1 "I" false := ⟨_, rfl, by decide, rfl, List.mem_of_getElem? (i := 94) (by decide +kernel)⟩
theorem fX1_125 : FLk RX1 125 2 1 "I" false := ⟨_, rfl, by decide, rfl, List.mem_of_getElem? (i := 95) (by decide +kernel)⟩
theorem fX9_126 : FLk RX9 126 2 1 "I" false := ⟨_, rfl, by decide, rfl, List.mem_of_getElem? (i := 96) (by decide +kernel)⟩
theorem fX2_28 : FLk RX2 28 2 2 "Z" false := ⟨_, rfl, by decide, rfl, List.mem_of_getElem? (i := 97) (by decide +kernel)⟩
theorem fX9_144 : FLk RX9 144 2 2 "Z" false := ⟨_, rfl, by decide, rfl, List.mem_of_getElem? (i := 98) (by decide +kernel)⟩
theorem fX1_132 : FLk RX1 132 2 2 "Z" false := ⟨_, rfl, by decide, rfl, List.mem_of_getElem? (i := 99) (by decide +kernel)⟩
theorem fX2_32 : FLk RX2 32 2 3 "Z" false := ⟨_, rfl, by decide, rfl, List.mem_of_getElem? (i := 100) (by decide +kernel)⟩
theorem fX3_31 : FLk RX3 31 2 3 "Z" false := ⟨_, rfl, by decide, rfl, List.mem_of_getElem? (i := 101) (by decide +kernel)⟩
theorem fX9_148 : FLk RX9 148 2 3 "Z" false := ⟨_, rfl, by decide, rfl, List.mem_of_getElem? (i := 102) (by decide +kernel)⟩
theorem fX1_216 : FLk RX1 216 2 3 "Z" false := ⟨_, rfl, by decide, rfl, List.mem_of_getElem? (i := 103) (by decide +kernel)⟩
theorem fX2_35 : FLk RX2 35 2 4 "Z" false := ⟨_, rfl, by decide, rfl, List.mem_of_getElem? (i := 104) (by decide +kernel)⟩
theorem fX9_151 : FLk RX9 151 2 4 "Z" false := ⟨_, rfl, by decide, rfl, List.mem_of_getElem? (i := 105) (by decide +kernel)⟩
theorem fX1_219 : FLk RX1 219 2 4 "Z" false := ⟨_, rfl, by decide, rfl, List.mem_of_getElem? (i := 106) (by decide +kernel)⟩
theorem fX2_11 : FLk RX2 11 2 5 "I" false := ⟨_, rfl, by decide, rfl, List.mem_of_getElem? (i := 107) (by decide +kernel)⟩
theorem fX9_158 : FLk RX9 158 2 5 "I" false := ⟨_, rfl, by decide, rfl, List.mem_of_getElem? (i := 108) (by decide +kernel)⟩
theorem fX1_176 : FLk RX1 176 2 5 "I" false := ⟨_, rfl, by decide, rfl, List.mem_of_getElem? (i := 109) (by decide +kernel)⟩
theorem fX2_38 : FLk RX2 38 2 6 "I" false := ⟨_, rfl, by decide, rfl, List.mem_of_getElem? (i := 110) (by decide +kernel)⟩
theorem fX9_161 : FLk RX9 161 2 6 "I" false := ⟨_, rfl, by decide, rfl, List.mem_of_getElem? (i := 111) (by decide +kernel)⟩
theorem fX2_15 : FLk RX2 15 2 7 "[I" true := ⟨_, rfl, by decide, rfl, List.mem_of_getElem? (i := 112) (by decide +kernel)⟩
theorem fX9_133 : FLk RX9 133 2 7 "[I" true := ⟨_, rfl, by decide, rfl, List.mem_of_getElem? (i := 113) (by decide +kernel)⟩
theorem fX1_222 : FLk RX1 222 2 7 "[I" true := ⟨_, rfl, by decide, rfl, List.mem_of_getElem? (i := 114) (by decide +kernel)⟩
theorem fX2_19 : FLk RX2 19 2 8 "[I" true := ⟨_, rfl, by decide, rfl, List.mem_of_getElem? (i := 115) (by decide +kernel)⟩
theorem fX9_141 : FLk RX9 141 2 8 "[I" true := ⟨_, rfl, by decide, rfl, List.mem_of_getElem? (i := 116) (by decide +kernel)⟩
theorem fX1_140 : FLk RX1 140 2 8 "[I" true := ⟨_, rfl, by decide, rfl, List.mem_of_getElem? (i := 117) (by decide +kernel)⟩
theorem fX3_9 : FLk RX3 9 3 0 "[I" true := ⟨_, rfl, by decide, rfl, List.mem_of_getElem? (i := 142) (by decide +kernel)⟩
theorem fX3_19 : FLk RX3 19 3 1 "Z" false := ⟨_, rfl, by decide, rfl, List.mem_of_getElem? (i := 143) (by decide +kernel)⟩
theorem fX9_198 : FLk RX9 198 3 1 "Z" false := ⟨_, rfl, by decide, rfl, List.mem_of_getElem? (i := 144) (by decide +kernel)⟩
theorem fX1_169 : FLk RX1 169 3 1 "Z" false := ⟨_, rfl, by decide, rfl, List.mem_of_getElem? (i := 145) (by decide +kernel)⟩
theorem fX1_11 : FLk RX1 11 1 0 "[LDarkVats$Vat;" true := ⟨_, rfl, by decide, rfl, List.mem_of_getElem? (i := 151) (by decide +kernel)⟩
theorem fX1_19 : FLk RX1 19 1 1 "[LDarkVats$Lot;" true := ⟨_, rfl, by decide, rfl, List.mem_of_getElem? (i := 152) (by decide +kernel)⟩
theorem fX1_25 : FLk RX1 25 1 2 "[LDarkVats$Order;" true := ⟨_, rfl, by decide, rfl, List.mem_of_getElem? (i := 153) (by decide +kernel)⟩
theorem fX1_46 : FLk RX1 46 1 3 "I" false := ⟨_, rfl, by decide, rfl, List.mem_of_getElem? (i := 154) (by decide +kernel)⟩
theorem fX4_50 : FLk RX4 50 1 3 "I" false := ⟨_, rfl, by decide, rfl, List.mem_of_getElem? (i := 155) (by decide +kernel)⟩
theorem fX9_96 : FLk RX9 96 1 3 "I" false := ⟨_, rfl, by decide, rfl, List.mem_of_getElem? (i := 156) (by decide +kernel)⟩
theorem fX1_50 : FLk RX1 50 1 4 "I" false := ⟨_, rfl, by decide, rfl, List.mem_of_getElem? (i := 157) (by decide +kernel)⟩
theorem fX9_179 : FLk RX9 179 1 4 "I" false := ⟨_, rfl, by decide, rfl, List.mem_of_getElem? (i := 158) (by decide +kernel)⟩
theorem fX1_53 : FLk RX1 53 1 5 "I" false := ⟨_, rfl, by decide, rfl, List.mem_of_getElem? (i := 159) (by decide +kernel)⟩
theorem fX9_261 : FLk RX9 261 1 5 "I" false := ⟨_, rfl, by decide, rfl, List.mem_of_getElem? (i := 160) (by decide +kernel)⟩
theorem fX1_56 : FLk RX1 56 1 6 "I" false := ⟨_, rfl, by decide, rfl, List.mem_of_getElem? (i := 161) (by decide +kernel)⟩
theorem fX9_267 : FLk RX9 267 1 6 "I" false := ⟨_, rfl, by decide, rfl, List.mem_of_getElem? (i := 162) (by decide +kernel)⟩
theorem fX1_29 : FLk RX1 29 1 7 "[I" true := ⟨_, rfl, by decide, rfl, List.mem_of_getElem? (i := 163) (by decide +kernel)⟩
theorem fX9_233 : FLk RX9 233 1 7 "[I" true := ⟨_, rfl, by decide, rfl, List.mem_of_getElem? (i := 164) (by decide +kernel)⟩
theorem fX1_33 : FLk RX1 33 1 8 "[I" true := ⟨_, rfl, by decide, rfl, List.mem_of_getElem? (i := 165) (by decide +kernel)⟩
theorem fX9_252 : FLk RX9 252 1 8 "[I" true := ⟨_, rfl, by decide, rfl, List.mem_of_getElem? (i := 166) (by decide +kernel)⟩
theorem fX1_39 : FLk RX1 39 1 9 "LDarkVats$Settings;" true := ⟨_, rfl, by decide, rfl, List.mem_of_getElem? (i := 167) (by decide +kernel)⟩
theorem fX4_38 : FLk RX4 38 1 9 "LDarkVats$Settings;" true := ⟨_, rfl, by decide, rfl, List.mem_of_getElem? (i := 168) (by decide +kernel)⟩
theorem fX9_84 : FLk RX9 84 1 9 "LDarkVats$Settings;" true := ⟨_, rfl, by decide, rfl, List.mem_of_getElem? (i := 169) (by decide +kernel)⟩
theorem fX0_13 : FLk RX0 13 0 0 "[LDarkVats$House;" true := ⟨_, rfl, by decide, rfl, List.mem_of_getElem? (i := 200) (by decide +kernel)⟩
theorem fX0_18 : FLk RX0 18 0 1 "I" false := ⟨_, rfl, by decide, rfl, List.mem_of_getElem? (i := 201) (by decide +kernel)⟩
theorem fX9_268 : FLk RX9 268 0 1 "I" false := ⟨_, rfl, by decide, rfl, List.mem_of_getElem? (i := 202) (by decide +kernel)⟩
theorem fX7_11 : FLk RX7 11 7 0 "[C" true := ⟨_, rfl, by decide, rfl, List.mem_of_getElem? (i := 214) (by decide +kernel)⟩
theorem fX7_15 : FLk RX7 15 7 1 "I" false := ⟨_, rfl, by decide, rfl, List.mem_of_getElem? (i := 215) (by decide +kernel)⟩
theorem fX5_21 : FLk RX5 21 7 1 "I" false := ⟨_, rfl, by decide, rfl, List.mem_of_getElem? (i := 216) (by decide +kernel)⟩
theorem fX9_271 : FLk RX9 271 7 1 "I" false := ⟨_, rfl, by decide, rfl, List.mem_of_getElem? (i := 217) (by decide +kernel)⟩
theorem fX5_13 : FLk RX5 13 5 0 "I" false := ⟨_, rfl, by decide, rfl, List.mem_of_getElem? (i := 230) (by decide +kernel)⟩
theorem fX9_303 : FLk RX9 303 5 0 "I" false := ⟨_, rfl, by decide, rfl, List.mem_of_getElem? (i := 231) (by decide +kernel)⟩
theorem fX5_48 : FLk RX5 48 5 1 "I" false := ⟨_, rfl, by decide, rfl, List.mem_of_getElem? (i := 232) (by decide +kernel)⟩
theorem fX9_294 : FLk RX9 294 5 1 "I" false := ⟨_, rfl, by decide, rfl, List.mem_of_getElem? (i := 233) (by decide +kernel)⟩
theorem fX5_7 : FLk RX5 7 5 2 "I" false := ⟨_, rfl, by decide, rfl, List.mem_of_getElem? (i := 234) (by decide +kernel)⟩
theorem fX9_297 : FLk RX9 297 5 2 "I" false := ⟨_, rfl, by decide, rfl, List.mem_of_getElem? (i := 235) (by decide +kernel)⟩
theorem fX5_51 : FLk RX5 51 5 3 "I" false := ⟨_, rfl, by decide, rfl, List.mem_of_getElem? (i := 236) (by decide +kernel)⟩
theorem fX9_300 : FLk RX9 300 5 3 "I" false := ⟨_, rfl, by decide, rfl, List.mem_of_getElem? (i := 237) (by decide +kernel)⟩
theorem fX5_16 : FLk RX5 16 5 4 "I" false := ⟨_, rfl, by decide, rfl, List.mem_of_getElem? (i := 238) (by decide +kernel)⟩
theorem fX5_32 : FLk RX5 32 5 5 "C" false := ⟨_, rfl, by decide, rfl, List.mem_of_getElem? (i := 239) (by decide +kernel)⟩
theorem fX5_36 : FLk RX5 36 5 6 "I" false := ⟨_, rfl, by decide, rfl, List.mem_of_getElem? (i := 240) (by decide +kernel)⟩
theorem fX5_39 : FLk RX5 39 5 7 "I" false := ⟨_, rfl, by decide, rfl, List.mem_of_getElem? (i := 241) (by decide +kernel)⟩
theorem fX4_11 : FLk RX4 11 4 0 "[LDarkVats$Lot;" true := ⟨_, rfl, by decide, rfl, List.mem_of_getElem? (i := 267) (by decide +kernel)⟩
theorem fX4_15 : FLk RX4 15 4 1 "[I" true := ⟨_, rfl, by decide, rfl, List.mem_of_getElem? (i := 268) (by decide +kernel)⟩
theorem fX9_10 : FLk RX9 10 9 0 "LDarkVats$House;" true := ⟨_, rfl, by decide, rfl, List.mem_of_getElem? (i := 274) (by decide +kernel)⟩
theorem fX9_16 : FLk RX9 16 9 1 "LDarkVats$House;" true := ⟨_, rfl, by decide, rfl, List.mem_of_getElem? (i := 275) (by decide +kernel)⟩
theorem fX9_22 : FLk RX9 22 9 2 "LDarkVats$History;" true := ⟨_, rfl, by decide, rfl, List.mem_of_getElem? (i := 276) (by decide +kernel)⟩
theorem fX9_29 : FLk RX9 29 9 3 "LDarkVats$Text;" true := ⟨_, rfl, by decide, rfl, List.mem_of_getElem? (i := 277) (by decide +kernel)⟩
theorem fX9_36 : FLk RX9 36 9 4 "LDarkVats$Script;" true := ⟨_, rfl, by decide, rfl, List.mem_of_getElem? (i := 278) (by decide +kernel)⟩
theorem fX9_43 : FLk RX9 43 9 5 "LDarkVats$Planner;" true := ⟨_, rfl, by decide, rfl, List.mem_of_getElem? (i := 279) (by decide +kernel)⟩
theorem fX6_22 : Cond.fieldLink RX6 22 "DarkVats$Settings" "LEAST" "[I" ∈ lw_tbl := List.mem_of_getElem? (i := 709) (by decide +kernel)
theorem fX6_29 : Cond.fieldLink RX6 29 "DarkVats$Settings" "MOST" "[I" ∈ lw_tbl := List.mem_of_getElem? (i := 712) (by decide +kernel)
theorem lL_122 : Cond.methodLink RL 122 yX9_init ∈ lw_tbl := List.mem_of_getElem? (i := 23) (by decide +kernel)
theorem lX9_1 : Cond.methodLink RX9 1 objectInit ∈ lw_tbl := List.mem_of_getElem? (i := 26) (by decide +kernel)
theorem lX9_9 : Cond.methodLink RX9 9 yX1_init ∈ lw_tbl := List.mem_of_getElem? (i := 31) (by decide +kernel)
theorem lX1_3 : Cond.methodLink RX1 3 objectInit ∈ lw_tbl := List.mem_of_getElem? (i := 34) (by decide +kernel)
theorem lX1_38 : Cond.methodLink RX1 38 yX6_init ∈ lw_tbl := List.mem_of_getElem? (i := 43) (by decide +kernel)
theorem lX6_3 : Cond.methodLink RX6 3 objectInit ∈ lw_tbl := List.mem_of_getElem? (i := 46) (by decide +kernel)
theorem lX8_1 : Cond.methodLink RX8 1 objectInit ∈ lw_tbl := List.mem_of_getElem? (i := 58) (by decide +kernel)
theorem lX2_3 : Cond.methodLink RX2 3 objectInit ∈ lw_tbl := List.mem_of_getElem? (i := 90) (by decide +kernel)
theorem lX3_3 : Cond.methodLink RX3 3 objectInit ∈ lw_tbl := List.mem_of_getElem? (i := 141) (by decide +kernel)
theorem lX9_21 : Cond.methodLink RX9 21 yX0_init ∈ lw_tbl := List.mem_of_getElem? (i := 193) (by decide +kernel)
theorem lX0_3 : Cond.methodLink RX0 3 objectInit ∈ lw_tbl := List.mem_of_getElem? (i := 196) (by decide +kernel)
theorem lX0_17 : Cond.methodLink RX0 17 yX1_init ∈ lw_tbl := List.mem_of_getElem? (i := 199) (by decide +kernel)
theorem lX7_3 : Cond.methodLink RX7 3 objectInit ∈ lw_tbl := List.mem_of_getElem? (i := 213) (by decide +kernel)
theorem lX5_1 : Cond.methodLink RX5 1 objectInit ∈ lw_tbl := List.mem_of_getElem? (i := 229) (by decide +kernel)
theorem lX9_42 : Cond.methodLink RX9 42 yX4_init ∈ lw_tbl := List.mem_of_getElem? (i := 261) (by decide +kernel)
theorem lX4_1 : Cond.methodLink RX4 1 objectInit ∈ lw_tbl := List.mem_of_getElem? (i := 264) (by decide +kernel)
theorem lL_85 : Cond.methodLink RL 85 yX9_vat ∈ lw_tbl := List.mem_of_getElem? (i := 293) (by decide +kernel)
theorem lX9_47 : Cond.methodLink RX9 47 yX0_noteState ∈ lw_tbl := List.mem_of_getElem? (i := 297) (by decide +kernel)
theorem lX0_22 : Cond.methodLink RX0 22 yX0_stateAt ∈ lw_tbl := List.mem_of_getElem? (i := 301) (by decide +kernel)
theorem lX0_26 : Cond.methodLink RX0 26 yX1_copyFrom ∈ lw_tbl := List.mem_of_getElem? (i := 305) (by decide +kernel)
theorem lX1_63 : Cond.methodLink RX1 63 yX6_copyFrom ∈ lw_tbl := List.mem_of_getElem? (i := 312) (by decide +kernel)
theorem lX1_67 : Cond.methodLink RX1 67 yX1_copyVats ∈ lw_tbl := List.mem_of_getElem? (i := 317) (by decide +kernel)
theorem lX1_79 : Cond.methodLink RX1 79 yX8_copyFrom ∈ lw_tbl := List.mem_of_getElem? (i := 321) (by decide +kernel)
theorem lX1_71 : Cond.methodLink RX1 71 yX1_copyLots ∈ lw_tbl := List.mem_of_getElem? (i := 325) (by decide +kernel)
theorem lX1_82 : Cond.methodLink RX1 82 yX2_copyFrom ∈ lw_tbl := List.mem_of_getElem? (i := 329) (by decide +kernel)
theorem lX1_75 : Cond.methodLink RX1 75 yX1_copyOrders ∈ lw_tbl := List.mem_of_getElem? (i := 334) (by decide +kernel)
theorem lX1_85 : Cond.methodLink RX1 85 yX3_copyFrom ∈ lw_tbl := List.mem_of_getElem? (i := 338) (by decide +kernel)
theorem lX9_51 : Cond.methodLink RX9 51 yX1_addVat ∈ lw_tbl := List.mem_of_getElem? (i := 343) (by decide +kernel)
theorem lX1_92 : Cond.methodLink RX1 92 yX1_findVat ∈ lw_tbl := List.mem_of_getElem? (i := 350) (by decide +kernel)
theorem lX9_55 : Cond.methodLink RX9 55 yX0_keepNoted ∈ lw_tbl := List.mem_of_getElem? (i := 354) (by decide +kernel)
theorem lX0_30 : Cond.methodLink RX0 30 yX0_dropOldest ∈ lw_tbl := List.mem_of_getElem? (i := 358) (by decide +kernel)
theorem lL_88 : Cond.methodLink RL 88 yX9_weigh ∈ lw_tbl := List.mem_of_getElem? (i := 362) (by decide +kernel)
theorem lX9_59 : Cond.methodLink RX9 59 yX1_weighInto ∈ lw_tbl := List.mem_of_getElem? (i := 366) (by decide +kernel)
theorem lL_35 : Cond.methodLink RL 35 yX9_vatAt ∈ lw_tbl := List.mem_of_getElem? (i := 378) (by decide +kernel)
theorem lX9_99 : Cond.methodLink RX9 99 yX1_vatsAheadOf ∈ lw_tbl := List.mem_of_getElem? (i := 382) (by decide +kernel)
theorem lX1_198 : Cond.methodLink RX1 198 yX8_isAheadOfLater ∈ lw_tbl := List.mem_of_getElem? (i := 386) (by decide +kernel)
theorem lX8_28 : Cond.methodLink RX8 28 yX8_strength ∈ lw_tbl := List.mem_of_getElem? (i := 390) (by decide +kernel)
theorem lL_92 : Cond.methodLink RL 92 yX9_lot ∈ lw_tbl := List.mem_of_getElem? (i := 394) (by decide +kernel)
theorem lX9_102 : Cond.methodLink RX9 102 yX1_addLot ∈ lw_tbl := List.mem_of_getElem? (i := 398) (by decide +kernel)
theorem lX1_118 : Cond.methodLink RX1 118 yX1_findLot ∈ lw_tbl := List.mem_of_getElem? (i := 402) (by decide +kernel)
theorem lL_101 : Cond.methodLink RL 101 yX9_order ∈ lw_tbl := List.mem_of_getElem? (i := 406) (by decide +kernel)
theorem lX9_182 : Cond.methodLink RX9 182 yX1_addOrder ∈ lw_tbl := List.mem_of_getElem? (i := 410) (by decide +kernel)
theorem lX1_154 : Cond.methodLink RX1 154 yX1_isAskable ∈ lw_tbl := List.mem_of_getElem? (i := 414) (by decide +kernel)
theorem lX1_157 : Cond.methodLink RX1 157 yX1_openOrders ∈ lw_tbl := List.mem_of_getElem? (i := 417) (by decide +kernel)
theorem lX1_161 : Cond.methodLink RX1 161 yX1_findOrder ∈ lw_tbl := List.mem_of_getElem? (i := 421) (by decide +kernel)
theorem lX1_165 : Cond.methodLink RX1 165 yX3_ask ∈ lw_tbl := List.mem_of_getElem? (i := 425) (by decide +kernel)
theorem lL_20 : Cond.methodLink RL 20 yX9_alike ∈ lw_tbl := List.mem_of_getElem? (i := 432) (by decide +kernel)
theorem lX9_164 : Cond.methodLink RX9 164 yX9_isDye ∈ lw_tbl := List.mem_of_getElem? (i := 436) (by decide +kernel)
theorem lX9_117 : Cond.methodLink RX9 117 yX1_findLot ∈ lw_tbl := List.mem_of_getElem? (i := 437) (by decide +kernel)
theorem lX9_154 : Cond.methodLink RX9 154 yX2_isSold ∈ lw_tbl := List.mem_of_getElem? (i := 438) (by decide +kernel)
theorem lX9_168 : Cond.methodLink RX9 168 yX2_shadeOf ∈ lw_tbl := List.mem_of_getElem? (i := 442) (by decide +kernel)
theorem lX2_47 : Cond.methodLink RX2 47 yX2_grainsOf ∈ lw_tbl := List.mem_of_getElem? (i := 447) (by decide +kernel)
theorem lX9_216 : Cond.methodLink RX9 216 yX1_lotsNotFarAbove ∈ lw_tbl := List.mem_of_getElem? (i := 451) (by decide +kernel)
theorem lX1_206 : Cond.methodLink RX1 206 yX6_valueOf ∈ lw_tbl := List.mem_of_getElem? (i := 455) (by decide +kernel)
theorem lX1_128 : Cond.methodLink RX1 128 yX2_isSold ∈ lw_tbl := List.mem_of_getElem? (i := 459) (by decide +kernel)
theorem lX1_209 : Cond.methodLink RX1 209 yX2_shadeOf ∈ lw_tbl := List.mem_of_getElem? (i := 460) (by decide +kernel)
theorem lL_9 : Cond.methodLink RL 9 yX9_count ∈ lw_tbl := List.mem_of_getElem? (i := 461) (by decide +kernel)
theorem lX9_255 : Cond.methodLink RX9 255 yX6_exists ∈ lw_tbl := List.mem_of_getElem? (i := 465) (by decide +kernel)
theorem lX9_210 : Cond.methodLink RX9 210 yX6_valueOf ∈ lw_tbl := List.mem_of_getElem? (i := 468) (by decide +kernel)
theorem lX9_258 : Cond.methodLink RX9 258 yX1_lotsCounted ∈ lw_tbl := List.mem_of_getElem? (i := 469) (by decide +kernel)
theorem lX1_212 : Cond.methodLink RX1 212 yX1_isCounted ∈ lw_tbl := List.mem_of_getElem? (i := 473) (by decide +kernel)
theorem lX9_264 : Cond.methodLink RX9 264 yX1_openOrders ∈ lw_tbl := List.mem_of_getElem? (i := 476) (by decide +kernel)
theorem lL_51 : Cond.methodLink RL 51 yX9_undo ∈ lw_tbl := List.mem_of_getElem? (i := 477) (by decide +kernel)
theorem lX9_277 : Cond.methodLink RX9 277 yX0_stepBack ∈ lw_tbl := List.mem_of_getElem? (i := 481) (by decide +kernel)
theorem lL_127 : Cond.methodLink RL 127 yL_cell ∈ lw_tbl := List.mem_of_getElem? (i := 485) (by decide +kernel)
theorem lL_123 : Cond.methodLink RL 123 yL_isSound ∈ lw_tbl := List.mem_of_getElem? (i := 490) (by decide +kernel)
theorem lL_15 : Cond.methodLink RL 15 yX9_account ∈ lw_tbl := List.mem_of_getElem? (i := 493) (by decide +kernel)
theorem lX9_236 : Cond.methodLink RX9 236 yX9_cellAt ∈ lw_tbl := List.mem_of_getElem? (i := 497) (by decide +kernel)
theorem lX9_240 : Cond.methodLink RX9 240 yX1_grainsInVats ∈ lw_tbl := List.mem_of_getElem? (i := 498) (by decide +kernel)
theorem lX9_243 : Cond.methodLink RX9 243 yX1_fixedInHouse ∈ lw_tbl := List.mem_of_getElem? (i := 502) (by decide +kernel)
theorem lX9_246 : Cond.methodLink RX9 246 yX1_looseInHouse ∈ lw_tbl := List.mem_of_getElem? (i := 506) (by decide +kernel)
theorem lX9_249 : Cond.methodLink RX9 249 yX1_grainsSold ∈ lw_tbl := List.mem_of_getElem? (i := 510) (by decide +kernel)
theorem lX1_225 : Cond.methodLink RX1 225 yX2_grainsOf ∈ lw_tbl := List.mem_of_getElem? (i := 514) (by decide +kernel)
theorem lL_23 : Cond.methodLink RL 23 yX9_meanBits ∈ lw_tbl := List.mem_of_getElem? (i := 516) (by decide +kernel)
theorem lX9_171 : Cond.methodLink RX9 171 yX2_floatShade ∈ lw_tbl := List.mem_of_getElem? (i := 520) (by decide +kernel)
theorem lX9_175 : Cond.methodLink RX9 175 yX9_bitsOf ∈ lw_tbl := List.mem_of_getElem? (i := 524) (by decide +kernel)
theorem lL_26 : Cond.methodLink RL 26 yX9_lotOf ∈ lw_tbl := List.mem_of_getElem? (i := 528) (by decide +kernel)
theorem lX9_129 : Cond.methodLink RX9 129 yX2_depth ∈ lw_tbl := List.mem_of_getElem? (i := 532) (by decide +kernel)
theorem lX9_137 : Cond.methodLink RX9 137 yX9_sumOf ∈ lw_tbl := List.mem_of_getElem? (i := 539) (by decide +kernel)
theorem lX9_92 : Cond.methodLink RX9 92 yX9_oneIf ∈ lw_tbl := List.mem_of_getElem? (i := 540) (by decide +kernel)
theorem lL_29 : Cond.methodLink RL 29 yX9_orderOf ∈ lw_tbl := List.mem_of_getElem? (i := 543) (by decide +kernel)
theorem lX9_189 : Cond.methodLink RX9 189 yX1_findOrder ∈ lw_tbl := List.mem_of_getElem? (i := 547) (by decide +kernel)
theorem lX9_193 : Cond.methodLink RX9 193 yX3_shadeFor ∈ lw_tbl := List.mem_of_getElem? (i := 548) (by decide +kernel)
theorem lX9_201 : Cond.methodLink RX9 201 yX1_lotsThatFit ∈ lw_tbl := List.mem_of_getElem? (i := 553) (by decide +kernel)
theorem lX1_172 : Cond.methodLink RX1 172 yX3_isFittedBy ∈ lw_tbl := List.mem_of_getElem? (i := 557) (by decide +kernel)
theorem lX3_38 : Cond.methodLink RX3 38 yX6_valueOf ∈ lw_tbl := List.mem_of_getElem? (i := 561) (by decide +kernel)
theorem lX3_42 : Cond.methodLink RX3 42 yX2_shadeOf ∈ lw_tbl := List.mem_of_getElem? (i := 562) (by decide +kernel)
theorem lX3_45 : Cond.methodLink RX3 45 yX3_shadeFor ∈ lw_tbl := List.mem_of_getElem? (i := 563) (by decide +kernel)
theorem lX9_205 : Cond.methodLink RX9 205 yX1_nearestLot ∈ lw_tbl := List.mem_of_getElem? (i := 567) (by decide +kernel)
theorem lX1_202 : Cond.methodLink RX1 202 yX3_distanceTo ∈ lw_tbl := List.mem_of_getElem? (i := 571) (by decide +kernel)
theorem lL_32 : Cond.methodLink RL 32 yX9_match ∈ lw_tbl := List.mem_of_getElem? (i := 575) (by decide +kernel)
theorem lX9_213 : Cond.methodLink RX9 213 yX9_distance ∈ lw_tbl := List.mem_of_getElem? (i := 579) (by decide +kernel)
theorem lL_38 : Cond.methodLink RL 38 yX9_vatOf ∈ lw_tbl := List.mem_of_getElem? (i := 580) (by decide +kernel)
theorem lX9_65 : Cond.methodLink RX9 65 yX1_findVat ∈ lw_tbl := List.mem_of_getElem? (i := 584) (by decide +kernel)
theorem lX9_88 : Cond.methodLink RX9 88 yX8_spoils ∈ lw_tbl := List.mem_of_getElem? (i := 585) (by decide +kernel)
theorem lX8_24 : Cond.methodLink RX8 24 yX6_valueOf ∈ lw_tbl := List.mem_of_getElem? (i := 589) (by decide +kernel)
theorem lL_135 : Cond.methodLink RL 135 yL_refuses ∈ lw_tbl := List.mem_of_getElem? (i := 590) (by decide +kernel)
theorem lL_82 : Cond.methodLink RL 82 yX9_drain ∈ lw_tbl := List.mem_of_getElem? (i := 594) (by decide +kernel)
theorem lX9_62 : Cond.methodLink RX9 62 yX1_drainVat ∈ lw_tbl := List.mem_of_getElem? (i := 598) (by decide +kernel)
theorem lL_48 : Cond.methodLink RL 48 yX9_dip ∈ lw_tbl := List.mem_of_getElem? (i := 602) (by decide +kernel)
theorem lX9_105 : Cond.methodLink RX9 105 yX1_dipLot ∈ lw_tbl := List.mem_of_getElem? (i := 606) (by decide +kernel)
theorem lX1_136 : Cond.methodLink RX1 136 yX2_soakIn ∈ lw_tbl := List.mem_of_getElem? (i := 610) (by decide +kernel)
theorem lX2_70 : Cond.methodLink RX2 70 yX2_grainsTaken ∈ lw_tbl := List.mem_of_getElem? (i := 614) (by decide +kernel)
theorem lX2_59 : Cond.methodLink RX2 59 yX6_valueOf ∈ lw_tbl := List.mem_of_getElem? (i := 619) (by decide +kernel)
theorem lX2_74 : Cond.methodLink RX2 74 yX8_spoils ∈ lw_tbl := List.mem_of_getElem? (i := 620) (by decide +kernel)
theorem lX2_88 : Cond.methodLink RX2 88 yX2_depth ∈ lw_tbl := List.mem_of_getElem? (i := 622) (by decide +kernel)
theorem lX2_92 : Cond.methodLink RX2 92 yX2_shadeOf ∈ lw_tbl := List.mem_of_getElem? (i := 623) (by decide +kernel)
theorem lL_58 : Cond.methodLink RL 58 yX9_rinse ∈ lw_tbl := List.mem_of_getElem? (i := 624) (by decide +kernel)
theorem lX9_108 : Cond.methodLink RX9 108 yX1_rinseLot ∈ lw_tbl := List.mem_of_getElem? (i := 628) (by decide +kernel)
theorem lL_61 : Cond.methodLink RL 61 yX9_hang ∈ lw_tbl := List.mem_of_getElem? (i := 634) (by decide +kernel)
theorem lX9_111 : Cond.methodLink RX9 111 yX1_hangLot ∈ lw_tbl := List.mem_of_getElem? (i := 638) (by decide +kernel)
theorem lX1_150 : Cond.methodLink RX1 150 yX1_lotsOnRack ∈ lw_tbl := List.mem_of_getElem? (i := 642) (by decide +kernel)
theorem lL_45 : Cond.methodLink RL 45 yX9_take ∈ lw_tbl := List.mem_of_getElem? (i := 646) (by decide +kernel)
theorem lX9_114 : Cond.methodLink RX9 114 yX1_takeDown ∈ lw_tbl := List.mem_of_getElem? (i := 650) (by decide +kernel)
theorem lL_95 : Cond.methodLink RL 95 yX9_shade ∈ lw_tbl := List.mem_of_getElem? (i := 654) (by decide +kernel)
theorem lL_98 : Cond.methodLink RL 98 yX9_shadeBits ∈ lw_tbl := List.mem_of_getElem? (i := 658) (by decide +kernel)
theorem lL_105 : Cond.methodLink RL 105 yX9_sell ∈ lw_tbl := List.mem_of_getElem? (i := 662) (by decide +kernel)
theorem lX9_186 : Cond.methodLink RX9 186 yX1_sellLot ∈ lw_tbl := List.mem_of_getElem? (i := 666) (by decide +kernel)
theorem lL_41 : Cond.methodLink RL 41 yX9_plan ∈ lw_tbl := List.mem_of_getElem? (i := 670) (by decide +kernel)
theorem lX9_219 : Cond.methodLink RX9 219 yX1_copyFrom ∈ lw_tbl := List.mem_of_getElem? (i := 674) (by decide +kernel)
theorem lX9_222 : Cond.methodLink RX9 222 yX4_findPlan ∈ lw_tbl := List.mem_of_getElem? (i := 675) (by decide +kernel)
theorem lX4_26 : Cond.methodLink RX4 26 yX4_lotBehind ∈ lw_tbl := List.mem_of_getElem? (i := 679) (by decide +kernel)
theorem lX4_30 : Cond.methodLink RX4 30 yX2_copyFrom ∈ lw_tbl := List.mem_of_getElem? (i := 683) (by decide +kernel)
theorem lX4_34 : Cond.methodLink RX4 34 yX4_isReached ∈ lw_tbl := List.mem_of_getElem? (i := 684) (by decide +kernel)
theorem lX4_44 : Cond.methodLink RX4 44 yX3_isFittedBy ∈ lw_tbl := List.mem_of_getElem? (i := 687) (by decide +kernel)
theorem lX4_54 : Cond.methodLink RX4 54 yX1_findVat ∈ lw_tbl := List.mem_of_getElem? (i := 688) (by decide +kernel)
theorem lX4_66 : Cond.methodLink RX4 66 yX2_soakIn ∈ lw_tbl := List.mem_of_getElem? (i := 689) (by decide +kernel)
theorem lX9_226 : Cond.methodLink RX9 226 yX4_vatOfDip ∈ lw_tbl := List.mem_of_getElem? (i := 691) (by decide +kernel)
theorem lL_55 : Cond.methodLink RL 55 yX9_takes ∈ lw_tbl := List.mem_of_getElem? (i := 696) (by decide +kernel)
theorem lX9_229 : Cond.methodLink RX9 229 yX2_grainsTaken ∈ lw_tbl := List.mem_of_getElem? (i := 700) (by decide +kernel)
theorem lL_108 : Cond.methodLink RL 108 yX9_set ∈ lw_tbl := List.mem_of_getElem? (i := 701) (by decide +kernel)
theorem lX9_274 : Cond.methodLink RX9 274 yX6_change ∈ lw_tbl := List.mem_of_getElem? (i := 705) (by decide +kernel)
theorem lL_64 : Cond.methodLink RL 64 yX9_type ∈ lw_tbl := List.mem_of_getElem? (i := 714) (by decide +kernel)
theorem lX9_281 : Cond.methodLink RX9 281 yX7_append ∈ lw_tbl := List.mem_of_getElem? (i := 718) (by decide +kernel)
theorem lL_70 : Cond.methodLink RL 70 yX9_fault ∈ lw_tbl := List.mem_of_getElem? (i := 722) (by decide +kernel)
theorem lX9_287 : Cond.methodLink RX9 287 yX5_doAll ∈ lw_tbl := List.mem_of_getElem? (i := 726) (by decide +kernel)
theorem lX5_24 : Cond.methodLink RX5 24 yX5_readWork ∈ lw_tbl := List.mem_of_getElem? (i := 730) (by decide +kernel)
theorem lX5_54 : Cond.methodLink RX5 54 yX7_signAt ∈ lw_tbl := List.mem_of_getElem? (i := 734) (by decide +kernel)
theorem lX5_58 : Cond.methodLink RX5 58 yX5_readNumber ∈ lw_tbl := List.mem_of_getElem? (i := 738) (by decide +kernel)
theorem lX5_66 : Cond.methodLink RX5 66 yX5_digitOf ∈ lw_tbl := List.mem_of_getElem? (i := 742) (by decide +kernel)
theorem lX5_62 : Cond.methodLink RX5 62 yX5_passes ∈ lw_tbl := List.mem_of_getElem? (i := 745) (by decide +kernel)
theorem lX5_28 : Cond.methodLink RX5 28 yX5_noteFault ∈ lw_tbl := List.mem_of_getElem? (i := 749) (by decide +kernel)
theorem lX5_42 : Cond.methodLink RX5 42 yX1_doWork ∈ lw_tbl := List.mem_of_getElem? (i := 753) (by decide +kernel)
theorem lX1_179 : Cond.methodLink RX1 179 yX1_dipLot ∈ lw_tbl := List.mem_of_getElem? (i := 757) (by decide +kernel)
theorem lX1_183 : Cond.methodLink RX1 183 yX1_rinseLot ∈ lw_tbl := List.mem_of_getElem? (i := 758) (by decide +kernel)
theorem lX1_186 : Cond.methodLink RX1 186 yX1_hangLot ∈ lw_tbl := List.mem_of_getElem? (i := 759) (by decide +kernel)
theorem lX1_189 : Cond.methodLink RX1 189 yX1_takeDown ∈ lw_tbl := List.mem_of_getElem? (i := 760) (by decide +kernel)
theorem lX1_192 : Cond.methodLink RX1 192 yX1_drainVat ∈ lw_tbl := List.mem_of_getElem? (i := 761) (by decide +kernel)
theorem lX1_195 : Cond.methodLink RX1 195 yX1_sellLot ∈ lw_tbl := List.mem_of_getElem? (i := 762) (by decide +kernel)
theorem lX9_291 : Cond.methodLink RX9 291 yX5_hasFault ∈ lw_tbl := List.mem_of_getElem? (i := 763) (by decide +kernel)
theorem lL_131 : Cond.methodLink RL 131 yL_acts ∈ lw_tbl := List.mem_of_getElem? (i := 767) (by decide +kernel)
theorem lL_111 : Cond.methodLink RL 111 yL_plans ∈ lw_tbl := List.mem_of_getElem? (i := 770) (by decide +kernel)
theorem lL_116 : Cond.methodLink RL 116 yL_takes ∈ lw_tbl := List.mem_of_getElem? (i := 774) (by decide +kernel)
theorem lL_119 : Cond.methodLink RL 119 yL_plays ∈ lw_tbl := List.mem_of_getElem? (i := 777) (by decide +kernel)
theorem lL_67 : Cond.methodLink RL 67 yX9_clearText ∈ lw_tbl := List.mem_of_getElem? (i := 780) (by decide +kernel)
theorem lX9_284 : Cond.methodLink RX9 284 yX7_makeEmpty ∈ lw_tbl := List.mem_of_getElem? (i := 784) (by decide +kernel)
theorem lL_73 : Cond.methodLink RL 73 yX9_play ∈ lw_tbl := List.mem_of_getElem? (i := 788) (by decide +kernel)
theorem lL_76 : Cond.methodLink RL 76 yL_number ∈ lw_tbl := List.mem_of_getElem? (i := 792) (by decide +kernel)
theorem lX1_43 : Cond.methodLinkNest RX1 43 yX8_init "DarkVats" ∈ lw_tbl := List.mem_of_getElem? (i := 55) (by decide +kernel)
theorem lX1_44 : Cond.methodLinkNest RX1 44 yX2_init "DarkVats" ∈ lw_tbl := List.mem_of_getElem? (i := 87) (by decide +kernel)
theorem lX1_45 : Cond.methodLinkNest RX1 45 yX3_init "DarkVats" ∈ lw_tbl := List.mem_of_getElem? (i := 138) (by decide +kernel)
theorem lX9_28 : Cond.methodLinkNest RX9 28 yX7_init "DarkVats" ∈ lw_tbl := List.mem_of_getElem? (i := 210) (by decide +kernel)
theorem lX9_35 : Cond.methodLinkNest RX9 35 yX5_init "DarkVats" ∈ lw_tbl := List.mem_of_getElem? (i := 226) (by decide +kernel)
theorem lX4_19 : Cond.methodLinkNest RX4 19 yX2_init "DarkVats" ∈ lw_tbl := List.mem_of_getElem? (i := 266) (by decide +kernel)
theorem lX1_59 : Cond.methodLinkNest RX1 59 yX9_copyRow "DarkVats" ∈ lw_tbl := List.mem_of_getElem? (i := 309) (by decide +kernel)
theorem lX6_18 : Cond.methodLinkNest RX6 18 yX9_copyRow "DarkVats" ∈ lw_tbl := List.mem_of_getElem? (i := 316) (by decide +kernel)
theorem lX2_41 : Cond.methodLinkNest RX2 41 yX9_copyRow "DarkVats" ∈ lw_tbl := List.mem_of_getElem? (i := 333) (by decide +kernel)
theorem lX3_15 : Cond.methodLinkNest RX3 15 yX9_copyRow "DarkVats" ∈ lw_tbl := List.mem_of_getElem? (i := 342) (by decide +kernel)
theorem lX1_88 : Cond.methodLinkNest RX1 88 yX9_isDye "DarkVats" ∈ lw_tbl := List.mem_of_getElem? (i := 347) (by decide +kernel)
theorem lX1_103 : Cond.methodLinkNest RX1 103 yX9_cellAt "DarkVats" ∈ lw_tbl := List.mem_of_getElem? (i := 371) (by decide +kernel)
theorem lX1_108 : Cond.methodLinkNest RX1 108 yX9_addTo "DarkVats" ∈ lw_tbl := List.mem_of_getElem? (i := 375) (by decide +kernel)
theorem lX3_23 : Cond.methodLinkNest RX3 23 yX9_putAt "DarkVats" ∈ lw_tbl := List.mem_of_getElem? (i := 429) (by decide +kernel)
theorem lX2_51 : Cond.methodLinkNest RX2 51 yX9_sumOf "DarkVats" ∈ lw_tbl := List.mem_of_getElem? (i := 536) (by decide +kernel)
theorem lX3_27 : Cond.methodLinkNest RX3 27 yX9_cellAt "DarkVats" ∈ lw_tbl := List.mem_of_getElem? (i := 552) (by decide +kernel)
theorem lX3_48 : Cond.methodLinkNest RX3 48 yX9_distance "DarkVats" ∈ lw_tbl := List.mem_of_getElem? (i := 564) (by decide +kernel)
theorem lX2_81 : Cond.methodLinkNest RX2 81 yX9_addTo "DarkVats" ∈ lw_tbl := List.mem_of_getElem? (i := 621) (by decide +kernel)
theorem lX1_143 : Cond.methodLinkNest RX1 143 yX9_sumOf "DarkVats" ∈ lw_tbl := List.mem_of_getElem? (i := 632) (by decide +kernel)
theorem lX1_147 : Cond.methodLinkNest RX1 147 yX9_putAt "DarkVats" ∈ lw_tbl := List.mem_of_getElem? (i := 633) (by decide +kernel)
theorem lX4_70 : Cond.methodLinkNest RX4 70 yX9_putAt "DarkVats" ∈ lw_tbl := List.mem_of_getElem? (i := 690) (by decide +kernel)
theorem lX4_20 : Cond.methodLinkNest RX4 20 yX9_cellAt "DarkVats" ∈ lw_tbl := List.mem_of_getElem? (i := 695) (by decide +kernel)
theorem lX6_25 : Cond.methodLinkNest RX6 25 yX9_cellAt "DarkVats" ∈ lw_tbl := List.mem_of_getElem? (i := 711) (by decide +kernel)
theorem qL_10 : Cond.classLink RL 10 RX9 ∈ lw_tbl := List.mem_of_getElem? (i := 21) (by decide +kernel)
theorem qX9_7 : Cond.classLink RX9 7 RX1 ∈ lw_tbl := List.mem_of_getElem? (i := 29) (by decide +kernel)
theorem qX1_9 : Cond.classLink RX1 9 RX8 ∈ lw_tbl := List.mem_of_getElem? (i := 35) (by decide +kernel)
theorem qX1_17 : Cond.classLink RX1 17 RX2 ∈ lw_tbl := List.mem_of_getElem? (i := 37) (by decide +kernel)
theorem qX1_23 : Cond.classLink RX1 23 RX3 ∈ lw_tbl := List.mem_of_getElem? (i := 39) (by decide +kernel)
theorem qX1_36 : Cond.classLink RX1 36 RX6 ∈ lw_tbl := List.mem_of_getElem? (i := 41) (by decide +kernel)
theorem qX9_19 : Cond.classLink RX9 19 RX0 ∈ lw_tbl := List.mem_of_getElem? (i := 191) (by decide +kernel)
theorem qX0_11 : Cond.classLink RX0 11 RX1 ∈ lw_tbl := List.mem_of_getElem? (i := 197) (by decide +kernel)
theorem qX9_26 : Cond.classLink RX9 26 RX7 ∈ lw_tbl := List.mem_of_getElem? (i := 208) (by decide +kernel)
theorem qX9_33 : Cond.classLink RX9 33 RX5 ∈ lw_tbl := List.mem_of_getElem? (i := 224) (by decide +kernel)
theorem qX9_40 : Cond.classLink RX9 40 RX4 ∈ lw_tbl := List.mem_of_getElem? (i := 259) (by decide +kernel)
theorem qX4_9 : Cond.classLink RX4 9 RX2 ∈ lw_tbl := List.mem_of_getElem? (i := 265) (by decide +kernel)
theorem kX9_w : Cond.instantiable RX9 6 ∈ lw_tbl := List.mem_of_getElem? (i := 22) (by decide +kernel)
theorem kX1_w : Cond.instantiable RX1 10 ∈ lw_tbl := List.mem_of_getElem? (i := 30) (by decide +kernel)
theorem kX6_w : Cond.instantiable RX6 1 ∈ lw_tbl := List.mem_of_getElem? (i := 42) (by decide +kernel)
theorem kX8_w : Cond.instantiable RX8 4 ∈ lw_tbl := List.mem_of_getElem? (i := 54) (by decide +kernel)
theorem kX2_w : Cond.instantiable RX2 9 ∈ lw_tbl := List.mem_of_getElem? (i := 86) (by decide +kernel)
theorem kX3_w : Cond.instantiable RX3 2 ∈ lw_tbl := List.mem_of_getElem? (i := 137) (by decide +kernel)
theorem kX0_w : Cond.instantiable RX0 2 ∈ lw_tbl := List.mem_of_getElem? (i := 192) (by decide +kernel)
theorem kX7_w : Cond.instantiable RX7 2 ∈ lw_tbl := List.mem_of_getElem? (i := 209) (by decide +kernel)
theorem kX5_w : Cond.instantiable RX5 8 ∈ lw_tbl := List.mem_of_getElem? (i := 225) (by decide +kernel)
theorem kX4_w : Cond.instantiable RX4 2 ∈ lw_tbl := List.mem_of_getElem? (i := 260) (by decide +kernel)
-- arrayClass Jvm.ClassFile.FieldType.int
theorem kA_53 : Cond.arrayClass FieldType.int ∈ lw_tbl := List.mem_of_getElem? (i := 53) (by decide +kernel)
-- arrayClass Jvm.ClassFile.FieldType.char
theorem kA_223 : Cond.arrayClass FieldType.char ∈ lw_tbl := List.mem_of_getElem? (i := 223) (by decide +kernel)
theorem kO_36 : Cond.arrayOver (FieldType.object "DarkVats$Vat") ∈ lw_tbl := List.mem_of_getElem? (i := 36) (by decide +kernel)
theorem kO_38 : Cond.arrayOver (FieldType.object "DarkVats$Lot") ∈ lw_tbl := List.mem_of_getElem? (i := 38) (by decide +kernel)
theorem kO_40 : Cond.arrayOver (FieldType.object "DarkVats$Order") ∈ lw_tbl := List.mem_of_getElem? (i := 40) (by decide +kernel)
theorem kO_198 : Cond.arrayOver (FieldType.object "DarkVats$House") ∈ lw_tbl := List.mem_of_getElem? (i := 198) (by decide +kernel)
theorem cX1_102 : Cond.constant RX1 102 (100000 : Int32) ∈ lw_tbl := List.mem_of_getElem? (i := 370) (by decide +kernel)
theorem cX1_107 : Cond.constant RX1 107 (1000000 : Int32) ∈ lw_tbl := List.mem_of_getElem? (i := 374) (by decide +kernel)
theorem cL_7 : Cond.constant RL 7 (15485803 : Int32) ∈ lw_tbl := List.mem_of_getElem? (i := 488) (by decide +kernel)
theorem cL_8 : Cond.constant RL 8 (2147483647 : Int32) ∈ lw_tbl := List.mem_of_getElem? (i := 489) (by decide +kernel)
theorem cL_19 : Cond.constant RL 19 (1000000 : Int32) ∈ lw_tbl := List.mem_of_getElem? (i := 515) (by decide +kernel)
theorem cL_91 : Cond.constant RL 91 (100001 : Int32) ∈ lw_tbl := List.mem_of_getElem? (i := 593) (by decide +kernel)
theorem cL_115 : Cond.constant RL 115 (65536 : Int32) ∈ lw_tbl := List.mem_of_getElem? (i := 773) (by decide +kernel)
theorem cX2_45 : Cond.constantLong RX2 45 (1000 : Int64) ∈ lw_tbl := List.mem_of_getElem? (i := 446) (by decide +kernel)
theorem cX2_55 : Cond.constantLong RX2 55 (2 : Int64) ∈ lw_tbl := List.mem_of_getElem? (i := 618) (by decide +kernel)
theorem cX9_306 : Cond.constantFloat RX9 306 (1258291200 : UInt32) ∈ lw_tbl := List.mem_of_getElem? (i := 527) (by decide +kernel)
theorem kOI_c : Cond.code objectInit ⟨#[0xb1]⟩ 1 none ∈ lw_tbl := List.mem_of_getElem? (i := 28) (by decide +kernel)
theorem kOI_i : Cond.instanceMethod objectInit ∈ lw_tbl := List.mem_of_getElem? (i := 27) (by decide +kernel)
